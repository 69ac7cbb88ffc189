/-! bar, list -/
theorem fsI_comm {F : FS} {j i j' i' : Nat} {v v' : Int32} (h : ¬ j = j') : fsI (fsI F j i v) j' i' v' = fsI (fsI F j' i' v') j i v := by
  have e : (fun g x => if g = j' ∧ x = i' then v' else fI (fsI F j i v) g x) = (fun g x => if g = j ∧ x = i then v else fI (fsI F j' i' v') g x) := by
    funext g x
    rw [i_sI, i_sI]
    by_cases a : g = j' ∧ x = i'
    · rw [if_pos a, if_neg (fun b => h (b.1.symm.trans a.1)), if_pos a]
    · rw [if_neg a, if_neg a]
  show (fN F, (fun g x => if g = j' ∧ x = i' then v' else fI (fsI F j i v) g x), fJ F) = (fN F, (fun g x => if g = j ∧ x = i then v else fI (fsI F j' i' v') g x), fJ F)
  rw [e]
theorem m_listed {F : FS} {n k : Nat} (hn : n ≤ 300) (hF : fN F 40 = nI n) {K : Int32 → FS → Prop} (hK : K (nI (cntL F k n)) F) : wf_M_listed F (nI k) K := by
  unfold wf_M_listed
  have key : ∀ d j, n + 1 ≤ j + 1 + d → j ≤ n → wfb_M_listed_4 K (d + 1) F (nI k) (nI (cntL F k j)) (nI (j + 1)) := by
    intro d
    induction d with
    | zero =>
      intro j h2 h3
      have e : j = n := by omega
      subst e
      unfold wfb_M_listed_4
      rw [hF]
      exact ⟨fun _ => hK, fun c => absurd (nI_lt (a := j) (b := j + 1) (by omega) (by omega)) c⟩
    | succ d ih =>
      intro j h2 h3
      unfold wfb_M_listed_4
      rw [hF]
      refine ⟨fun c => ?_, fun c => ?_⟩
      · have := (nI_ltI (a := n) (b := j + 1) (by omega) (by omega)).mp c
        have e : j = n := by omega
        subst e
        exact hK
      · have hj : j + 1 ≤ n := by
          rcases Nat.lt_or_ge n (j + 1) with q | q
          · exact absurd ((nI_ltI (a := n) (b := j + 1) (by omega) (by omega)).mpr q) c
          · exact q
        have ih1 := ih (j + 1) (by omega) (by omega)
        unfold cntL at ih1
        refine ⟨vp_in_nI (n := j + 1) (N := 301) (by omega) (by decide), ?_⟩
        rw [nI_clamp (by omega)]
        refine ⟨fun z x e y e2 => ?_, fun z x e y e2 => ?_⟩
        · subst e; subst e2
          rw [if_neg z] at ih1
          have e0 : nI (cntL F k j) + 0 = nI (cntL F k j + 0) := nI_add _ 0
          rw [e0, nI_1]
          exact ih1
        · subst e; subst e2
          rw [if_pos z] at ih1
          rw [nI_1, nI_1]
          exact ih1
  exact ⟨n + 1, key n 0 (by omega) (by omega)⟩
theorem NUM.bar {G : GX} {F : FS} {n : Nat} {σ : ST} (h : NUM G F n σ) {i : Nat} (hi : i < n) (t : Int64) : NUM G (fsI (fsJ F 49 (i + 1) t) 50 (i + 1) 1) n σ := ⟨h.1, h.2.1, h.2.2.1, fun j hj => by
  rw [i_sI, if_neg (fun q => by omega)]
  exact h.2.2.2 j hj⟩
theorem s_bar {G : GX} {c : Nat} {F : FS} {σ : ST} (h : RX G c F σ) (p t : Int64) : SimR G c F σ (fun K => wp_X_bar σ (G 6 0) p t K) (fun K => wf_M_bar F p t K) := by
  obtain ⟨n, hN, hO, hL, hC⟩ := h.2.2.2.2.2.1
  have hn := hN.1
  rcases num_or n p with ⟨i, hi, rfl⟩ | hp
  · have hin : vp_in (nI (i + 1)) 301 := vp_in_nI (by omega) (by decide)
    have hne : ¬ nI (i + 1) = 0 := nI_ne0 (by omega) (by omega)
    have hcl : (nI (i + 1)).toNatClampNeg = i + 1 := nI_clamp (by omega)
    obtain ⟨-, o2, -, -, -, -, -, -, o9, -⟩ := hO.1 i hi
    by_cases ht : 0 ≤ t
    · have ht1 := (lg_cmp_ge t 0).mpr ht
      by_cases hs : fI F 41 (i + 1) = 0
      · refine ⟨1, fsI (fsI (fsJ (fsI F 41 (i + 1) 2) 49 (i + 1) t) 50 (i + 1) 1) 48 (i + 1) (-1), fun K' q => ?_, fun K hK => ?_⟩
        · unfold wf_M_bar
          refine mf_in hn hN.2.1 hi ⟨fun _ => ⟨fun _ => ⟨hin, ?_⟩, fun z => absurd ht1 z⟩, fun z => absurd z hne⟩
          rw [hcl]
          refine ⟨fun _ => ⟨hin, fun F2 e2 => ?_⟩, fun z => absurd hs z⟩
          subst e2
          refine ⟨hin, fun F4 e4 => ?_⟩
          subst e4
          refine ⟨hin, fun F6 e6 => ?_⟩
          subst e6
          refine ⟨hin, fun F8 e8 => ?_⟩
          subst e8
          exact q
        · unfold wp_X_bar
          refine ⟨h.1.1.1, xf_in h.1 hN hO hi ⟨fun _ => ⟨fun _ => ⟨G 3 i, rfl, o2, ?_⟩, fun z => absurd ht1 z⟩, fun z => by cases z⟩⟩
          rw [o9]
          refine ⟨fun _ σ10 e10 => ?_, fun z => absurd hs z⟩
          subst e10
          obtain ⟨h1, h2, h3, h4, h5, -, h7, h8⟩ := h.up
          have hR : RX G (c + 1) (fsI (fsJ F 49 (i + 1) t) 50 (i + 1) 1) (st_sJ σ 207 (G 3 i) t) := ⟨h1, h2, h3, h4, h5, ⟨n, hN.bar hi t, hO.bar hi t, hL.keep rfl rfl, hC.keep rfl rfl rfl rfl rfl rfl⟩, h7, h8⟩
          refine x_become hR hn hN.2.1 hi (v := 2) (fun q => ?_) (by decide) (fun σ' q1 q2 => hK G σ' ?_ (FrX.sJ.tr q2) GG.rf)
          · have q' : fI F 41 (i + 1) = 1 := q
            rw [hs] at q'
            exact absurd q' (by decide)
          · rw [fsI_comm (j := 50) (j' := 41) (by decide)] at q1
            exact q1
      · refine sim_same h (-103) (fun K' q => ?_) (fun K q => ?_)
        · unfold wf_M_bar
          refine mf_in hn hN.2.1 hi ⟨fun _ => ⟨fun _ => ⟨hin, ?_⟩, fun z => absurd ht1 z⟩, fun z => absurd z hne⟩
          rw [hcl]
          exact ⟨fun z => absurd z hs, fun _ => q⟩
        · unfold wp_X_bar
          refine ⟨h.1.1.1, xf_in h.1 hN hO hi ⟨fun _ => ⟨fun _ => ⟨G 3 i, rfl, o2, ?_⟩, fun z => absurd ht1 z⟩, fun z => by cases z⟩⟩
          rw [o9]
          exact ⟨fun z => absurd z hs, fun _ => q⟩
    · have ht1 : ¬ 0 ≤ lg_cmp t 0 := fun z => ht ((lg_cmp_ge t 0).mp z)
      refine sim_same h (-102) (fun K' q => ?_) (fun K q => ?_)
      · unfold wf_M_bar
        exact mf_in hn hN.2.1 hi ⟨fun _ => ⟨fun z => absurd z ht1, fun _ => q⟩, fun z => absurd z hne⟩
      · unfold wp_X_bar
        exact ⟨h.1.1.1, xf_in h.1 hN hO hi ⟨fun _ => ⟨fun z => absurd z ht1, fun _ => q⟩, fun z => by cases z⟩⟩
  · refine sim_same h (-101) (fun K' q => ?_) (fun K q => ?_)
    · unfold wf_M_bar
      exact mf_out hn hN.2.1 hp ⟨fun z => absurd rfl z, fun _ => q⟩
    · unfold wp_X_bar
      exact ⟨h.1.1.1, xf_out h.1 hN hO hp ⟨fun z => absurd rfl z, fun _ => q⟩⟩
theorem s_list {G : GX} {c : Nat} {F : FS} {σ : ST} (h : RX G c F σ) (p : Int32) (m : Int64) : SimR G c F σ (fun K => wp_X_list σ (G 6 0) p m K) (fun K => wf_M_list F p m K) := by
  obtain ⟨n, hN, hO, hL, hC⟩ := h.2.2.2.2.2.1
  have hn := hN.1
  rcases num_or n m with ⟨i, hi, rfl⟩ | hp
  · have hin : vp_in (nI (i + 1)) 301 := vp_in_nI (by omega) (by decide)
    have hne : ¬ nI (i + 1) = 0 := nI_ne0 (by omega) (by omega)
    have hcl : (nI (i + 1)).toNatClampNeg = i + 1 := nI_clamp (by omega)
    obtain ⟨-, o2, -, -, -, -, -, -, o9, -, o11, -⟩ := hO.1 i hi
    rcases off_or p with ⟨k, hk, rfl⟩ | hp
    · have hik : vp_in (nI k) 8 := vp_in_nI hk (by decide)
      have hck : (nI k).toNatClampNeg = k := nI_clamp (by omega)
      have MM : ∀ K' : Int32 → FS → Prop, ((¬ fI F 41 (i + 1) = 0 → K' (-103) F) ∧ (fI F 41 (i + 1) = 0 → (¬ fI F 48 (i + 1) = -1 → K' (-103) F) ∧ (fI F 48 (i + 1) = -1 → (fI F 54 k = 0 → wf_M_listed F (nI k) (fun r F3 => (¬ r = (8 : Int32) → vp_in (nI (i + 1)) (lnA 48) ∧ ∀ F4, F4 = fsI F3 48 (i + 1) (nI k) → wf_M_listed F4 (nI k) (fun r F6 => K' r F6)) ∧ (r = (8 : Int32) → K' (-104) F3))) ∧ (¬ fI F 54 k = 0 → K' (-103) F)))) → wf_M_list F (nI k) (lN (nfN (i + 1))) K' := fun K' q => by
        unfold wf_M_list
        refine mf_in hn hN.2.1 hi ⟨fun _ => mo_in hk ⟨fun _ => ⟨hin, ?_⟩, fun z => absurd z (by decide)⟩, fun z => absurd z hne⟩
        rw [hcl, hck]
        exact ⟨q.1, fun z => ⟨hin, (q.2 z).1, fun y => ⟨hik, (q.2 z).2 y⟩⟩⟩
      have XX : ∀ K : Int32 → ST → Prop, ((¬ fI F 41 (i + 1) = 0 → K (-103) σ) ∧ (fI F 41 (i + 1) = 0 → (¬ st_R σ 208 (G 3 i) = none → K (-103) σ) ∧ (st_R σ 208 (G 3 i) = none → (fI F 54 k = 0 → (nI (cntL F k n) < (8 : Int32) → ∀ σ19, σ19 = st_sR σ 208 (G 3 i) (some (G 1 k)) → ∀ σ23, σ23 = st_sI σ19 164 (G 1 k) (st_I σ19 164 (G 1 k) + 1) → K (st_I σ23 164 (G 1 k)) σ23) ∧ (¬ nI (cntL F k n) < (8 : Int32) → K (-104) σ)) ∧ (¬ fI F 54 k = 0 → K (-103) σ)))) → wp_X_list σ (G 6 0) (nI k) (lN (nfN (i + 1))) K := fun K q => by
        unfold wp_X_list
        refine ⟨h.1.1.1, xf_in h.1 hN hO hi ⟨fun _ => ⟨h.1.1.1, xo_in h.1 hk ⟨fun _ => ⟨G 3 i, rfl, o2, ?_⟩, fun z => by cases z⟩⟩, fun z => by cases z⟩⟩
        rw [o9]
        refine ⟨q.1, fun z => ⟨(q.2 z).1, fun y => ⟨G 1 k, rfl, (h.1.2.2.1 k hk).2.1, ?_⟩⟩⟩
        rw [(h.2.1 k hk).2.2.1, (hL k hk).1]
        exact (q.2 z).2 y
      by_cases hs : fI F 41 (i + 1) = 0
      · rcases o11 with ⟨l1, l2⟩ | ⟨k2, hk2, l1, l2⟩
        · by_cases hc : fI F 54 k = 0
          · have hcL := (hL k hk).2
            by_cases h8 : cntL F k n = 8
            · refine sim_same h (-104) (fun K' q => MM K' ⟨fun z => absurd hs z, fun _ => ⟨fun z => absurd l2 z, fun _ => ⟨fun _ => m_listed hn hN.2.1 ⟨fun z => absurd (by rw [h8]; rfl) z, fun _ => q⟩, fun z => absurd hc z⟩⟩⟩) (fun K q => XX K ⟨fun z => absurd hs z, fun _ => ⟨fun z => absurd l1 z, fun _ => ⟨fun _ => ⟨fun z => absurd z (by rw [h8]; decide), fun _ => q⟩, fun z => absurd hc z⟩⟩⟩)
            · have hlt : cntL F k n < 8 := by omega
              have hm1 : ∀ j, j < 8 → ¬ (-1 : Int32) = nI j := fun j hj q => by
                have := congrArg Int32.toInt q
                rw [nI_toInt (by omega)] at this
                have e9 : (-1 : Int32).toInt = -1 := by decide
                omega
              have hcs := cntL_set F (nI k) k i n
              rw [if_neg (fun q : i < n ∧ fI F 48 (i + 1) = nI k => hm1 k hk (l2.symm.trans q.2)), if_pos ⟨hi, rfl⟩] at hcs
              have hR : RX G (c + 1) (fsI F 48 (i + 1) (nI k)) (st_sI (st_sR σ 208 (G 3 i) (some (G 1 k))) 164 (G 1 k) (nI (cntL F k n) + 1)) := by
                obtain ⟨h1, h2, h3, h4, h5, -, h7, h8⟩ := h.up
                refine ⟨h1, h2, h3, h4, h5, ⟨n, hN, ORD.lis hO hi (Or.inr ⟨k, hk, rfl, rfl⟩), fun j hj => ?_, hC.keep rfl rfl rfl rfl rfl rfl⟩, h7, h8⟩
                have hcj := cntL_set F (nI k) j i n
                rw [if_neg (fun q : i < n ∧ fI F 48 (i + 1) = nI j => hm1 j hj (l2.symm.trans q.2))] at hcj
                rw [g_I_sI]
                by_cases e : j = k
                · subst e
                  rw [if_pos ⟨rfl, rfl⟩, nI_1]
                  rw [if_pos ⟨hi, rfl⟩] at hcj
                  exact ⟨by rw [show cntL (fsI F 48 (i + 1) (nI j)) j n = cntL F j n + 1 by omega], by omega⟩
                · rw [if_neg (fun q : i < n ∧ nI k = nI j => e ((nI_eq (by omega) (by omega)).mp q.2).symm)] at hcj
                  rw [if_neg (fun q => e (h1.oinj hj hk q.2))]
                  rw [show cntL (fsI F 48 (i + 1) (nI k)) j n = cntL F j n by omega]
                  exact hL j hj
              refine sim_to (nI (cntL F k n + 1)) _ G _ hR ((FrX.sR (by decide)).tr (FrX.sI (by decide))) GG.rf (fun K' q => MM K' ⟨fun z => absurd hs z, fun _ => ⟨fun z => absurd l2 z, fun _ => ⟨fun _ => m_listed hn hN.2.1 ⟨fun _ => ⟨hin, fun F4 e4 => ?_⟩, fun z => absurd ((nI_eq (a := cntL F k n) (b := 8) (by omega) (by decide)).mp z) h8⟩, fun z => absurd hc z⟩⟩⟩) (fun K q => XX K ⟨fun z => absurd hs z, fun _ => ⟨fun z => absurd l1 z, fun _ => ⟨fun _ => ⟨fun _ σ19 e19 σ23 e23 => ?_, fun z => absurd (nI_lt (a := cntL F k n) (b := 8) hlt (by decide)) z⟩, fun z => absurd hc z⟩⟩⟩)
              · subst e4
                refine m_listed (F := fsI F 48 (i + 1) (nI k)) (n := n) hn hN.2.1 ?_
                rw [show cntL (fsI F 48 (i + 1) (nI k)) k n = cntL F k n + 1 by omega]
                exact q
              · have e24 : st_I σ19 164 (G 1 k) = nI (cntL F k n) := by rw [e19]; exact (hL k hk).1
                rw [e24] at e23
                subst e23
                subst e19
                rw [g_I_sI, if_pos ⟨rfl, rfl⟩, nI_1]
                rw [nI_1] at q
                exact q
          · exact sim_same h (-103) (fun K' q => MM K' ⟨fun z => absurd hs z, fun _ => ⟨fun z => absurd l2 z, fun _ => ⟨fun z => absurd z hc, fun _ => q⟩⟩⟩) (fun K q => XX K ⟨fun z => absurd hs z, fun _ => ⟨fun z => absurd l1 z, fun _ => ⟨fun z => absurd z hc, fun _ => q⟩⟩⟩)
        · have hm : ¬ nI k2 = -1 := fun q => by
            have := congrArg Int32.toInt q
            rw [nI_toInt (by omega)] at this
            have e9 : (-1 : Int32).toInt = -1 := by decide
            omega
          exact sim_same h (-103) (fun K' q => MM K' ⟨fun z => absurd hs z, fun _ => ⟨fun _ => q, fun z => absurd (l2.symm.trans z) hm⟩⟩) (fun K q => XX K ⟨fun z => absurd hs z, fun _ => ⟨fun _ => q, fun z => absurd (l1.symm.trans z) (fun y => by cases y)⟩⟩)
      · exact sim_same h (-103) (fun K' q => MM K' ⟨fun _ => q, fun z => absurd z hs⟩) (fun K q => XX K ⟨fun _ => q, fun z => absurd z hs⟩)
    · refine sim_same h (-102) (fun K' q => ?_) (fun K q => ?_)
      · unfold wf_M_list
        exact mf_in hn hN.2.1 hi ⟨fun _ => mo_out hp ⟨fun z => absurd rfl z, fun _ => q⟩, fun z => absurd z hne⟩
      · unfold wp_X_list
        exact ⟨h.1.1.1, xf_in h.1 hN hO hi ⟨fun _ => ⟨h.1.1.1, xo_out h.1 hp ⟨fun z => absurd rfl z, fun _ => q⟩⟩, fun z => by cases z⟩⟩
  · refine sim_same h (-101) (fun K' q => ?_) (fun K q => ?_)
    · unfold wf_M_list
      exact mf_out hn hN.2.1 hp ⟨fun z => absurd rfl z, fun _ => q⟩
    · unfold wp_X_list
      exact ⟨h.1.1.1, xf_out h.1 hN hO hp ⟨fun z => absurd rfl z, fun _ => q⟩⟩
