/-! order, replace -/
theorem xor_in {σ : ST} {p : Int64} (h1 : 1 ≤ p) (h2 : p ≤ 500000) {K : Int32 → ST → Prop} (hk : K 1 σ) : wp_X_isOrderable σ p K := by
  unfold wp_X_isOrderable
  exact ⟨fun z => absurd h1 (Int64.not_le.mpr ((lg_cmp_lt _ _).mp z)), fun _ => ⟨fun z => absurd h2 (Int64.not_le.mpr ((lg_cmp_gt _ _).mp z)), fun _ => hk⟩⟩
theorem xor_out {σ : ST} {p : Int64} (h : ¬ (1 ≤ p ∧ p ≤ 500000)) {K : Int32 → ST → Prop} (hk : K 0 σ) : wp_X_isOrderable σ p K := by
  unfold wp_X_isOrderable
  exact ⟨fun _ => hk, fun z => ⟨fun _ => hk, fun y => absurd ⟨Int64.not_lt.mp (fun q => z ((lg_cmp_lt _ _).mpr q)), Int64.not_lt.mp (fun q => y ((lg_cmp_gt _ _).mpr q))⟩ h⟩⟩
theorem mor_out {F : FS} {p a b : Int64} (h : ¬ (a ≤ p ∧ p ≤ b)) {K : Int32 → FS → Prop} (hk : K 0 F) : wf_M_in F p a b K := m_in (fun x y => absurd ⟨x, y⟩ h) (fun _ => hk)
theorem s_order {G : GX} {c : Nat} {F : FS} {σ : ST} (h : RX G c F σ) (p : Int32) (ce un : Int64) (cu pr : Int32) : SimR G c F σ (fun K => wp_X_order σ (G 6 0) p ce un cu pr K) (fun K => wf_M_order F p ce un cu pr K) := by
  obtain ⟨n, hN, hO, hL, hC⟩ := h.2.2.2.2.2.1
  have hn := hN.1
  rcases off_or p with ⟨k, hk, rfl⟩ | hp
  · rcases cur_or cu with ⟨k2, hk2, rfl⟩ | hp
    · by_cases hce : 1 ≤ ce ∧ ce ≤ 500000
      · by_cases hun : un < 0
        · have hu1 := (lg_cmp_lt un 0).mpr hun
          refine sim_same h (-102) (fun K' q => ?_) (fun K q => ?_)
          · unfold wf_M_order
            exact mo_in hk ⟨fun z => absurd z (by decide), fun _ => mi_in hce.1 hce.2 ⟨fun z => absurd z (by decide), fun _ => ⟨fun _ => q, fun z => absurd hu1 z⟩⟩⟩
          · unfold wp_X_order
            exact ⟨h.1.1.1, xo_in h.1 hk ⟨h.1.1.1, xc_in h.1 hk2 ⟨fun z => (by cases z), fun _ => ⟨fun z => (by cases z), fun _ => xor_in hce.1 hce.2 ⟨fun z => absurd z (by decide), fun _ => ⟨fun _ => q, fun z => absurd hu1 z⟩⟩⟩⟩⟩⟩
        · have hu1 : ¬ lg_cmp un 0 < 0 := fun z => hun ((lg_cmp_lt un 0).mp z)
          by_cases hpr : 0 ≤ pr
          · have M1 : ∀ K' : Int32 → FS → Prop, ((¬ fN F 40 = (300 : Int32) → ∀ F19, F19 = fsJ F 52 k (fJ F 52 k + ce) → ∀ F28, F28 = fsJ F19 71 0 (fJ F19 71 0 + ce) → wf_M_add F28 (nI k) ce un (nI k2) pr (fun r F => K' r F)) ∧ (fN F 40 = (300 : Int32) → K' (-104) F)) → wf_M_order F (nI k) ce un (nI k2) pr K' := fun K' q => by
              unfold wf_M_order
              refine mo_in hk ⟨fun z => absurd z (by decide), fun _ => mi_in hce.1 hce.2 ⟨fun z => absurd z (by decide), fun _ => ⟨fun z => absurd z hu1, fun _ => w3_in hk2 ⟨fun z => absurd z (by decide), fun _ => ⟨fun _ => ⟨fun z => ⟨vp_in_nI hk (by decide), vp_in_nI hk (by decide), ?_⟩, q.2⟩, fun z => absurd hpr z⟩⟩⟩⟩⟩
              rw [nI_clamp (by omega)]
              intro F19 e19
              exact ⟨vp_in_nI (n := 0) (N := 9) (by decide) (by decide), vp_in_nI (n := 0) (N := 9) (by decide) (by decide), q.1 z F19 e19⟩
            have X1 : ∀ K : Int32 → ST → Prop, ((nI n < (300 : Int32) → ∀ σ19, σ19 = st_sJ σ 161 (G 1 k) (fJ F 52 k + ce) → ∀ σ28, σ28 = st_uJ σ19 (G 0 9) 0 (fJ F 71 0 + ce) → wp_X_addOrder σ28 (G 6 0) (some (G 1 k)) ce un (some (G 2 k2)) pr (fun r σ => K r σ)) ∧ (¬ nI n < (300 : Int32) → K (-104) σ)) → wp_X_order σ (G 6 0) (nI k) ce un (nI k2) pr K := fun K q => by
              unfold wp_X_order
              refine ⟨h.1.1.1, xo_in h.1 hk ⟨h.1.1.1, xc_in h.1 hk2 ⟨fun z => (by cases z), fun _ => ⟨fun z => (by cases z), fun _ => xor_in hce.1 hce.2 ⟨fun z => absurd z (by decide), fun _ => ⟨fun z => absurd z hu1, fun _ => ⟨fun _ => ⟨h.1.1.1, ?_⟩, fun z => absurd hpr z⟩⟩⟩⟩⟩⟩⟩
              rw [hN.2.2.1]
              refine ⟨fun z => ⟨G 1 k, rfl, (h.1.2.2.1 k hk).2.1, ?_⟩, q.2⟩
              rw [(h.2.1 k hk).1]
              intro σ19 e19
              have t19 : st_tg σ19 = st_tg σ := by rw [e19]; rfl
              have l19 : st_ln σ19 = st_ln σ := by rw [e19]; rfl
              have r19 : st_R σ19 = st_R σ := by rw [e19]; rfl
              have h9 : vp_in 0 (st_ln σ19 (G 0 9)) := by rw [l19, h.1.2.1.2.2.2.2.2.2]; exact vp_in_nI (n := 0) (N := 9) (by decide) (by decide)
              refine ⟨G 0 9, by rw [r19]; exact h.1.1.2.2.2.2.2.2, by rw [t19]; exact h.1.2.1.2.2.2.2.2.1, h9, h9, ?_⟩
              have e9 : st_eJ σ19 (G 0 9) (Int32.toNatClampNeg 0) = fJ F 71 0 := by rw [e19]; exact h.2.2.2.2.1 0 (by decide)
              rw [e9]
              exact q.1 z σ19 e19
            by_cases h3 : n = 300
            · refine sim_same h (-104) (fun K' q => M1 K' ⟨fun z => absurd (by rw [hN.2.1, h3]; rfl) z, fun _ => q⟩) (fun K q => X1 K ⟨fun z => absurd z (by rw [h3]; decide), fun _ => q⟩)
            · have hn3 : n < 300 := by omega
              refine ⟨nI (nfN (n + 1)), addF (fsJ (fsJ F 52 k (fJ F 52 k + ce)) 71 0 (fJ F 71 0 + ce)) n (nI k) ce un (nI k2) pr, fun K' q => M1 K' ⟨fun _ F19 e19 F28 e28 => ?_, fun z => absurd ((nI_eq (a := n) (b := 300) (by omega) (by decide)).mp (hN.2.1.symm.trans z)) h3⟩, fun K hK => X1 K ⟨fun _ σ19 e19 σ28 e28 => ?_, fun z => absurd (nI_lt (a := n) (b := 300) hn3 (by decide)) z⟩⟩
              · rw [e19, j_sJ, if_neg (fun z => absurd z.1 (by decide))] at e28
                have f40 : fN F28 40 = nI n := by rw [e28, n_sJ, n_sJ]; exact hN.2.1
                refine m_add hn3 f40 ?_
                rw [e28]
                exact q
              · have hR : RX G (c + 1) (fsJ (fsJ F 52 k (fJ F 52 k + ce)) 71 0 (fJ F 71 0 + ce)) σ28 := by
                  obtain ⟨h1, h2, h3, h4, h5, h6, h7, h8⟩ := h.up
                  rw [e28, e19]
                  exact ⟨h1, OFF.c52 h1 h2 hk _, h3, h4, TOT.c (F := fsJ F 52 k (fJ F 52 k + ce)) h5 0 _, ODS.keep h6 (fun _ q => q) (fun _ q => q) rfl rfl rfl rfl rfl rfl rfl rfl, h7, h8⟩
                have hf : FrX (G 0 9) σ σ28 := by rw [e28, e19]; exact FrX.sJ.tr FrX.uJ
                have f40 : fN (fsJ (fsJ F 52 k (fJ F 52 k + ce)) 71 0 (fJ F 71 0 + ce)) 40 = nI n := by rw [n_sJ, n_sJ]; exact hN.2.1
                exact x_add hR hn3 f40 hk hk2 (fun G' σ' q1 q2 q3 => hK G' σ' q1 (hf.tr q2) q3)
          · refine sim_same h (-102) (fun K' q => ?_) (fun K q => ?_)
            · unfold wf_M_order
              exact mo_in hk ⟨fun z => absurd z (by decide), fun _ => mi_in hce.1 hce.2 ⟨fun z => absurd z (by decide), fun _ => ⟨fun z => absurd z hu1, fun _ => w3_in hk2 ⟨fun z => absurd z (by decide), fun _ => ⟨fun z => absurd z hpr, fun _ => q⟩⟩⟩⟩⟩
            · unfold wp_X_order
              exact ⟨h.1.1.1, xo_in h.1 hk ⟨h.1.1.1, xc_in h.1 hk2 ⟨fun z => (by cases z), fun _ => ⟨fun z => (by cases z), fun _ => xor_in hce.1 hce.2 ⟨fun z => absurd z (by decide), fun _ => ⟨fun z => absurd z hu1, fun _ => ⟨fun z => absurd z hpr, fun _ => q⟩⟩⟩⟩⟩⟩⟩
      · refine sim_same h (-102) (fun K' q => ?_) (fun K q => ?_)
        · unfold wf_M_order
          exact mo_in hk ⟨fun z => absurd z (by decide), fun _ => mor_out hce ⟨fun _ => q, fun z => absurd rfl z⟩⟩
        · unfold wp_X_order
          exact ⟨h.1.1.1, xo_in h.1 hk ⟨h.1.1.1, xc_in h.1 hk2 ⟨fun z => (by cases z), fun _ => ⟨fun z => (by cases z), fun _ => xor_out hce ⟨fun _ => q, fun z => absurd rfl z⟩⟩⟩⟩⟩
    · refine sim_same h (-102) (fun K' q => ?_) (fun K q => ?_)
      · unfold wf_M_order
        exact mo_in hk ⟨fun z => absurd z (by decide), fun _ => m_in (fun _ _ => ⟨fun _ => q, fun _ => ⟨fun _ => q, fun _ => w3_out hp ⟨fun _ => q, fun z => absurd rfl z⟩⟩⟩) (fun _ => ⟨fun _ => q, fun z => absurd rfl z⟩)⟩
      · unfold wp_X_order
        exact ⟨h.1.1.1, xo_in h.1 hk ⟨h.1.1.1, xc_out h.1 hp ⟨fun _ => q, fun _ => ⟨fun _ => q, fun z => absurd rfl z⟩⟩⟩⟩
  · refine sim_same h (-102) (fun K' q => ?_) (fun K q => ?_)
    · unfold wf_M_order
      exact mo_out hp ⟨fun _ => q, fun z => absurd rfl z⟩
    · unfold wp_X_order
      exact ⟨h.1.1.1, xo_out h.1 hp ⟨h.1.1.1, x_currencyAt h.1 (fun _ _ _ => ⟨fun _ => q, fun z => absurd rfl z⟩) (fun _ => ⟨fun _ => q, fun z => absurd rfl z⟩)⟩⟩
theorem s_replace {G : GX} {c : Nat} {F : FS} {σ : ST} (h : RX G c F σ) (p : Int64) : SimR G c F σ (fun K => wp_X_replace σ (G 6 0) p K) (fun K => wf_M_replace F p K) := by
  obtain ⟨n, hN, hO, hL, hC⟩ := h.2.2.2.2.2.1
  have hn := hN.1
  rcases num_or n p with ⟨i, hi, rfl⟩ | hp
  · have hin : vp_in (nI (i + 1)) 301 := vp_in_nI (by omega) (by decide)
    have hne : ¬ nI (i + 1) = 0 := nI_ne0 (by omega) (by omega)
    have hcl : (nI (i + 1)).toNatClampNeg = i + 1 := nI_clamp (by omega)
    obtain ⟨-, o2, -, -, -, -, -, -, o9, -⟩ := hO.1 i hi
    have M0 : ∀ K' : Int32 → FS → Prop, ((fI F 41 (i + 1) = 0 ∨ fI F 41 (i + 1) = 2) → wfb_M_replace_35 K' F (nI (i + 1))) → (¬ (fI F 41 (i + 1) = 0 ∨ fI F 41 (i + 1) = 2) → K' (-103) F) → wf_M_replace F (lN (nfN (i + 1))) K' := fun K' q1 q2 => by
      unfold wf_M_replace
      refine mf_in hn hN.2.1 hi ⟨fun _ => ⟨hin, ?_⟩, fun z => absurd z hne⟩
      rw [hcl]
      exact ⟨fun z => q1 (Or.inl z), fun z => ⟨hin, ⟨fun y => q1 (Or.inr y), fun y => q2 (fun x => x.elim z y)⟩⟩⟩
    have X0 : ∀ K : Int32 → ST → Prop, ((fI F 41 (i + 1) = 0 ∨ fI F 41 (i + 1) = 2) → (nI n < (300 : Int32) → wp_Order_become σ (G 3 i) 4 (fun σ15 => st_tg σ15 (G 3 i) = some 5 ∧ st_tg σ15 (G 6 0) = some 0 ∧ wp_X_addOrder σ15 (G 6 0) (st_R σ15 201 (G 3 i)) (st_J σ15 202 (G 3 i)) (st_J σ15 203 (G 3 i)) (st_R σ15 204 (G 3 i)) (st_I σ15 205 (G 3 i)) (fun r σ => K r σ))) ∧ (¬ nI n < (300 : Int32) → K (-104) σ)) → (¬ (fI F 41 (i + 1) = 0 ∨ fI F 41 (i + 1) = 2) → K (-103) σ) → wp_X_replace σ (G 6 0) (lN (nfN (i + 1))) K := fun K q1 q2 => by
      unfold wp_X_replace
      refine ⟨h.1.1.1, xf_in h.1 hN hO hi ⟨fun _ => ⟨G 3 i, rfl, o2, ?_⟩, fun z => by cases z⟩⟩
      have A : (fI F 41 (i + 1) = 0 ∨ fI F 41 (i + 1) = 2) → st_tg σ (G 6 0) = some 0 ∧ (st_I σ 3 (G 6 0) < (300 : Int32) → st_tg σ (G 3 i) = some 5 ∧ wp_Order_become σ (G 3 i) 4 (fun σ15 => st_tg σ15 (G 3 i) = some 5 ∧ st_tg σ15 (G 6 0) = some 0 ∧ wp_X_addOrder σ15 (G 6 0) (st_R σ15 201 (G 3 i)) (st_J σ15 202 (G 3 i)) (st_J σ15 203 (G 3 i)) (st_R σ15 204 (G 3 i)) (st_I σ15 205 (G 3 i)) (fun r σ => K r σ))) ∧ (¬ st_I σ 3 (G 6 0) < (300 : Int32) → K (-104) σ) := fun z => by
        rw [hN.2.2.1]
        exact ⟨h.1.1.1, fun y => ⟨o2, (q1 z).1 y⟩, (q1 z).2⟩
      unfold wp_Order_isUnpaid
      rw [o9]
      refine ⟨o2, ⟨fun z => ⟨fun _ => A (Or.inl z), fun y => absurd y (by decide)⟩, fun z => ⟨fun y => ⟨fun x => absurd rfl x, fun _ => q2 (fun x => x.elim z y)⟩, fun y => ⟨fun _ => A (Or.inr y), fun x => absurd x (by decide)⟩⟩⟩⟩
    by_cases hs : fI F 41 (i + 1) = 0 ∨ fI F 41 (i + 1) = 2
    · have hs1 : ¬ fI F 41 (i + 1) = 1 := fun z => by
        rw [z] at hs
        exact hs.elim (fun y => absurd y (by decide)) (fun y => absurd y (by decide))
      by_cases h3 : n = 300
      · refine sim_same h (-104) (fun K' q => M0 K' (fun _ => ?_) (fun z => absurd hs z)) (fun K q => X0 K (fun _ => ⟨fun z => absurd z (by rw [h3]; decide), fun _ => q⟩) (fun z => absurd hs z))
        unfold wfb_M_replace_35
        exact ⟨fun z => absurd (by rw [hN.2.1, h3]; rfl) z, fun _ => q⟩
      · have hn3 : n < 300 := by omega
        obtain ⟨F2, eF2⟩ : ∃ z, z = fsI (fsI F 41 (i + 1) 4) 48 (i + 1) (-1) := ⟨_, rfl⟩
        have g46 : fI F2 46 = fI F 46 := by rw [eF2]; rfl
        have g44 : fI F2 44 = fI F 44 := by rw [eF2]; rfl
        have g45 : fI F2 45 = fI F 45 := by rw [eF2]; rfl
        have gJ : fJ F2 = fJ F := by rw [eF2]; rfl
        have gN : fN F2 40 = nI n := by rw [eF2]; exact hN.2.1
        refine ⟨nI (nfN (n + 1)), addF F2 n (fI F 46 (i + 1)) (fJ F 42 (i + 1)) (fJ F 43 (i + 1)) (fI F 44 (i + 1)) (fI F 45 (i + 1)), fun K' q => M0 K' (fun _ => ?_) (fun z => absurd hs z), fun K hK => X0 K (fun _ => ⟨fun _ => ?_, fun z => absurd (nI_lt (a := n) (b := 300) hn3 (by decide)) z⟩) (fun z => absurd hs z)⟩
        · unfold wfb_M_replace_35
          rw [hcl]
          refine ⟨fun _ => ⟨hin, fun Fa ea => ⟨hin, fun Fb eb => ⟨hin, hin, hin, hin, hin, ?_⟩⟩⟩, fun z => absurd ((nI_eq (a := n) (b := 300) (by omega) (by decide)).mp (hN.2.1.symm.trans z)) h3⟩
          rw [ea] at eb
          rw [← eF2] at eb
          subst eb
          rw [g46, g44, g45, gJ]
          exact m_add hn3 gN q
        · refine x_become h.up hn hN.2.1 hi (v := 4) hs1 (by decide) (fun σ' q1 q2 => ?_)
          rw [← eF2] at q1
          obtain ⟨-, hO', -, -⟩ := q1.ods hn gN
          obtain ⟨-, p2, -, ⟨u1, u2, u3, u4⟩, p5, p6, ⟨w1, w2, w3, w4⟩, p8, -⟩ := hO'.1 i hi
          refine ⟨p2, q1.1.1.1, ?_⟩
          rw [u3, w3, p5, p6, p8, gJ, g45]
          rw [g46] at u4
          rw [g44] at w4
          refine x_add q1 hn3 gN u2 w2 (fun G' σ2 r1 r2 r3 => hK G' σ2 ?_ (q2.tr r2) r3)
          rw [← u4, ← w4] at r1
          exact r1
    · exact sim_same h (-103) (fun K' q => M0 K' (fun z => absurd z hs) (fun _ => q)) (fun K q => X0 K (fun z => absurd z hs) (fun _ => q))
  · refine sim_same h (-101) (fun K' q => ?_) (fun K q => ?_)
    · unfold wf_M_replace
      exact mf_out hn hN.2.1 hp ⟨fun z => absurd rfl z, fun _ => q⟩
    · unfold wp_X_replace
      exact ⟨h.1.1.1, xf_out h.1 hN hO hp ⟨fun z => absurd rfl z, fun _ => q⟩⟩
