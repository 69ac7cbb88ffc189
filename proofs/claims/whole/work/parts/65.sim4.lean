/-! set -/
theorem w7_in {F : FS} {k : Nat} (hk : k < 8) {K : Int32 → FS → Prop} (h1 : K 1 F) : wf_M_in F (nI k).toInt64 0 7 K := mi_in ((t64_le (x := 0)).mpr (nI_pos' (by omega))) ((t64_le (y := 7)).mpr (nI_le (a := k) (b := 7) (by omega) (by decide))) h1
theorem w7_out {F : FS} {p : Int32} (hp : p < 0 ∨ nI 8 ≤ p) {K : Int32 → FS → Prop} (h0 : K 0 F) : wf_M_in F p.toInt64 0 7 K := mi_out (hp.elim (fun q => Or.inl ((t64_lt (y := 0)).mpr q)) (fun q => Or.inr ((t64_lt (x := 7)).mpr (Int32.lt_of_lt_of_le (by decide) q)))) h0
theorem w3_in {F : FS} {k : Nat} (hk : k < 4) {K : Int32 → FS → Prop} (h1 : K 1 F) : wf_M_in F (nI k).toInt64 0 3 K := mi_in ((t64_le (x := 0)).mpr (nI_pos' (by omega))) ((t64_le (y := 3)).mpr (nI_le (a := k) (b := 3) (by omega) (by decide))) h1
theorem w3_out {F : FS} {p : Int32} (hp : p < 0 ∨ nI 4 ≤ p) {K : Int32 → FS → Prop} (h0 : K 0 F) : wf_M_in F p.toInt64 0 3 K := mi_out (hp.elim (fun q => Or.inl ((t64_lt (y := 0)).mpr q)) (fun q => Or.inr ((t64_lt (x := 3)).mpr (Int32.lt_of_lt_of_le (by decide) q)))) h0
theorem CUR.c {G : GX} {F : FS} {σ : ST} (hS : SX G σ) (h : CUR G F σ) {k : Nat} (hk : k < 4) (v : Int64) : CUR G (fsJ F 51 k v) (st_sJ σ 120 (G 2 k) v) := by
  intro i hi
  rw [g_J_sJ, j_sJ]
  by_cases e : i = k
  · rw [e, if_pos ⟨rfl, rfl⟩, if_pos ⟨rfl, rfl⟩]
  · rw [if_neg (fun q => e (hS.2.2.2.2 i k hi hk q.2)), if_neg (fun q => e q.2)]
    exact h i hi
theorem s_set0 {G : GX} {c : Nat} {F : FS} {σ : ST} (h : RX G c F σ) (p : Int32) (v : Int64) : SimR G c F σ (fun K => wp_X_set σ (G 6 0) 0 p v K) (fun K => wf_M_set F 0 p v K) := by
  have M0 : ∀ K' : Int32 → FS → Prop, wfb_M_set_29 K' F 0 p v 7 0 p.toInt64 → wf_M_set F 0 p v K' := fun K' q => by
    unfold wf_M_set
    exact mi_in (by decide) (by decide) ⟨fun z => absurd z (by decide), fun _ => ⟨fun _ => q, fun z => absurd z (by decide)⟩⟩
  have X0 : ∀ K : Int32 → ST → Prop, wp_X_officeAt σ (G 6 0) p (fun r σ4 => st_tg σ4 (G 6 0) = some 0 ∧ wp_X_changeTill σ4 (G 6 0) r v (fun r σ => K r σ)) → wp_X_set σ (G 6 0) 0 p v K := fun K q => by
    unfold wp_X_set
    exact ⟨fun _ => ⟨h.1.1.1, q⟩, fun z => absurd rfl z⟩
  rcases off_or p with ⟨k, hk, rfl⟩ | hp
  · have hin : vp_in (nI k) 8 := vp_in_nI hk (by decide)
    have M1 : ∀ K' : Int32 → FS → Prop, wfb_M_set_72 K' F 0 (nI k) v 1000000000 (-1000000000) v → wf_M_set F 0 (nI k) v K' := fun K' q => M0 K' (by
      unfold wfb_M_set_29
      refine w7_in hk ⟨fun z => absurd z (by decide), fun _ => ⟨fun z => absurd rfl z, fun _ => ?_⟩⟩
      unfold wfb_M_set_58
      exact ⟨fun _ => q, fun z => absurd z (by decide)⟩)
    have X1 : ∀ K : Int32 → ST → Prop, wp_X_changeTill σ (G 6 0) (some (G 1 k)) v (fun r σ => K r σ) → wp_X_set σ (G 6 0) 0 (nI k) v K := fun K q => X0 K (xo_in h.1 hk ⟨h.1.1.1, q⟩)
    by_cases hlo : v < -1000000000
    · refine sim_same h (-102) (fun K' q => M1 K' ?_) (fun K q => X1 K ?_)
      · unfold wfb_M_set_72
        exact mi_out (Or.inl hlo) ⟨fun z => absurd rfl z, fun _ => q⟩
      · unfold wp_X_changeTill
        exact ⟨fun z => (by cases z), fun _ => ⟨fun _ => q, fun z => absurd ((lg_cmp_lt _ _).mpr hlo) z⟩⟩
    · by_cases hhi : v ≤ 1000000000
      · have hx := (h.2.1 k hk).1
        by_cases hneg : 0 ≤ fJ F 52 k + v
        · have hR : RX G (c + 1) (fsJ (fsJ F 52 k (fJ F 52 k + v)) 71 5 (fJ F 71 5 + v)) (st_uJ (st_sJ σ 161 (G 1 k) (fJ F 52 k + v)) (G 0 9) 5 (fJ F 71 5 + v)) := by
            obtain ⟨h1, h2, h3, h4, h5, h6, h7, h8⟩ := h.up
            exact ⟨h1, OFF.c52 h1 h2 hk _, h3, h4, TOT.c (F := fsJ F 52 k (fJ F 52 k + v)) h5 5 _, ODS.keep h6 (fun _ q => q) (fun _ q => q) rfl rfl rfl rfl rfl rfl rfl rfl, h7, h8⟩
          refine sim_to 1 _ G _ hR (FrX.sJ.tr FrX.uJ) GG.rf (fun K' q => M1 K' ?_) (fun K q => X1 K ?_)
          · unfold wfb_M_set_72
            refine mi_in (Int64.not_lt.mp hlo) hhi ⟨fun _ => ⟨fun z => absurd rfl z, fun _ => ⟨hin, ?_⟩⟩, fun z => absurd z (by decide)⟩
            rw [nI_clamp (by omega)]
            refine ⟨fun _ => ?_, fun z => absurd ((lg_cmp_ge _ _).mpr hneg) z⟩
            unfold wfb_M_set_101
            refine ⟨fun z => absurd rfl z, fun _ => ⟨hin, hin, ?_⟩⟩
            rw [nI_clamp (by omega)]
            intro F8 e8
            subst e8
            refine ⟨vp_in_nI (n := 5) (N := 9) (by decide) (by decide), vp_in_nI (n := 5) (N := 9) (by decide) (by decide), fun F10 e10 => ?_⟩
            subst e10
            exact q
          · unfold wp_X_changeTill
            refine ⟨fun z => (by cases z), fun _ => ⟨fun z => absurd ((lg_cmp_lt _ _).mp z) hlo, fun _ => ⟨fun _ => ⟨G 1 k, rfl, (h.1.2.2.1 k hk).2.1, ?_⟩, fun z => absurd ((lg_cmp_le _ _).mpr hhi) z⟩⟩⟩
            rw [hx]
            refine ⟨fun _ => ?_, fun z => absurd ((lg_cmp_ge _ _).mpr hneg) z⟩
            intro σ8 e8
            subst e8
            have h9 : vp_in 5 (st_ln σ (G 0 9)) := by rw [h.1.2.1.2.2.2.2.2.2]; exact vp_in_nI (n := 5) (N := 9) (by decide) (by decide)
            refine ⟨h.1.1.1, G 0 9, h.1.1.2.2.2.2.2.2, h.1.2.1.2.2.2.2.2.1, h9, h9, ?_⟩
            intro σ17 e17
            have e5 : st_eJ (st_sJ σ 161 (G 1 k) (fJ F 52 k + v)) (G 0 9) (Int32.toNatClampNeg 5) = fJ F 71 5 := h.2.2.2.2.1 5 (by decide)
            rw [e5] at e17
            subst e17
            exact q
        · refine sim_same h (-103) (fun K' q => M1 K' ?_) (fun K q => X1 K ?_)
          · unfold wfb_M_set_72
            refine mi_in (Int64.not_lt.mp hlo) hhi ⟨fun _ => ⟨fun z => absurd rfl z, fun _ => ⟨hin, ?_⟩⟩, fun z => absurd z (by decide)⟩
            rw [nI_clamp (by omega)]
            exact ⟨fun z => absurd ((lg_cmp_ge _ _).mp z) hneg, fun _ => q⟩
          · unfold wp_X_changeTill
            refine ⟨fun z => (by cases z), fun _ => ⟨fun z => absurd ((lg_cmp_lt _ _).mp z) hlo, fun _ => ⟨fun _ => ⟨G 1 k, rfl, (h.1.2.2.1 k hk).2.1, ?_⟩, fun z => absurd ((lg_cmp_le _ _).mpr hhi) z⟩⟩⟩
            rw [hx]
            exact ⟨fun z => absurd ((lg_cmp_ge _ _).mp z) hneg, fun _ => q⟩
      · refine sim_same h (-102) (fun K' q => M1 K' ?_) (fun K q => X1 K ?_)
        · unfold wfb_M_set_72
          exact mi_out (Or.inr (Int64.not_le.mp hhi)) ⟨fun z => absurd rfl z, fun _ => q⟩
        · unfold wp_X_changeTill
          exact ⟨fun z => (by cases z), fun _ => ⟨fun z => absurd ((lg_cmp_lt _ _).mp z) hlo, fun _ => ⟨fun z => absurd ((lg_cmp_le _ _).mp z) hhi, fun _ => q⟩⟩⟩
  · refine sim_same h (-102) (fun K' q => M0 K' ?_) (fun K q => X0 K ?_)
    · unfold wfb_M_set_29
      exact w7_out hp ⟨fun _ => q, fun z => absurd rfl z⟩
    · refine xo_out h.1 hp ⟨h.1.1.1, ?_⟩
      unfold wp_X_changeTill
      exact ⟨fun _ => q, fun z => absurd rfl z⟩
theorem s_set1 {G : GX} {c : Nat} {F : FS} {σ : ST} (h : RX G c F σ) (p : Int32) (v : Int64) : SimR G c F σ (fun K => wp_X_set σ (G 6 0) 1 p v K) (fun K => wf_M_set F 1 p v K) := by
  have M0 : ∀ K' : Int32 → FS → Prop, wfb_M_set_29 K' F 1 p v 7 0 p.toInt64 → wf_M_set F 1 p v K' := fun K' q => by
    unfold wf_M_set
    exact mi_in (by decide) (by decide) ⟨fun z => absurd z (by decide), fun _ => ⟨fun _ => q, fun z => absurd z (by decide)⟩⟩
  have X0 : ∀ K : Int32 → ST → Prop, wp_X_officeAt σ (G 6 0) p (fun r σ4 => wp_X_changeLimit σ4 r v (fun r σ => K r σ)) → wp_X_set σ (G 6 0) 1 p v K := fun K q => by
    unfold wp_X_set
    exact ⟨fun z => absurd z (by decide), fun _ => ⟨fun _ => ⟨h.1.1.1, q⟩, fun z => absurd rfl z⟩⟩
  rcases off_or p with ⟨k, hk, rfl⟩ | hp
  · have hin : vp_in (nI k) 8 := vp_in_nI hk (by decide)
    have M1 : ∀ K' : Int32 → FS → Prop, wfb_M_set_72 K' F 1 (nI k) v 1000000000 (-1) v → wf_M_set F 1 (nI k) v K' := fun K' q => M0 K' (by
      unfold wfb_M_set_29
      refine w7_in hk ⟨fun z => absurd z (by decide), fun _ => ⟨fun _ => ⟨fun z => absurd rfl z, fun _ => ?_⟩, fun z => absurd z (by decide)⟩⟩
      unfold wfb_M_set_58
      exact ⟨fun _ => q, fun z => absurd z (by decide)⟩)
    have X1 : ∀ K : Int32 → ST → Prop, wp_X_changeLimit σ (some (G 1 k)) v (fun r σ => K r σ) → wp_X_set σ (G 6 0) 1 (nI k) v K := fun K q => X0 K (xo_in h.1 hk q)
    by_cases hlo : v < -1
    · refine sim_same h (-102) (fun K' q => M1 K' ?_) (fun K q => X1 K ?_)
      · unfold wfb_M_set_72
        exact mi_out (Or.inl hlo) ⟨fun z => absurd rfl z, fun _ => q⟩
      · unfold wp_X_changeLimit
        exact ⟨fun z => (by cases z), fun _ => ⟨fun _ => q, fun z => absurd ((lg_cmp_lt _ _).mpr hlo) z⟩⟩
    · by_cases hhi : v ≤ 1000000000
      · have hR : RX G (c + 1) (fsJ F 53 k v) (st_sJ σ 162 (G 1 k) v) := by
          obtain ⟨h1, h2, h3, h4, h5, h6, h7, h8⟩ := h.up
          exact ⟨h1, OFF.c53 h1 h2 hk _, h3.c53 (Int64.not_lt.mp hlo), h4, h5, ODS.keep h6 (fun _ q => q) (fun _ q => q) rfl rfl rfl rfl rfl rfl rfl rfl, h7, h8⟩
        refine sim_to 1 _ G _ hR FrX.sJ GG.rf (fun K' q => M1 K' ?_) (fun K q => X1 K ?_)
        · unfold wfb_M_set_72
          refine mi_in (Int64.not_lt.mp hlo) hhi ⟨fun _ => ⟨fun _ => ?_, fun z => absurd z (by decide)⟩, fun z => absurd z (by decide)⟩
          unfold wfb_M_set_101
          refine ⟨fun _ => ⟨fun z => absurd rfl z, fun _ => ⟨hin, ?_⟩⟩, fun z => absurd z (by decide)⟩
          rw [nI_clamp (by omega)]
          intro F8 e8
          subst e8
          exact q
        · unfold wp_X_changeLimit
          refine ⟨fun z => (by cases z), fun _ => ⟨fun z => absurd ((lg_cmp_lt _ _).mp z) hlo, fun _ => ⟨fun _ => ⟨G 1 k, rfl, (h.1.2.2.1 k hk).2.1, ?_⟩, fun z => absurd ((lg_cmp_le _ _).mpr hhi) z⟩⟩⟩
          intro σ8 e8
          subst e8
          exact q
      · refine sim_same h (-102) (fun K' q => M1 K' ?_) (fun K q => X1 K ?_)
        · unfold wfb_M_set_72
          exact mi_out (Or.inr (Int64.not_le.mp hhi)) ⟨fun z => absurd rfl z, fun _ => q⟩
        · unfold wp_X_changeLimit
          exact ⟨fun z => (by cases z), fun _ => ⟨fun z => absurd ((lg_cmp_lt _ _).mp z) hlo, fun _ => ⟨fun z => absurd ((lg_cmp_le _ _).mp z) hhi, fun _ => q⟩⟩⟩
  · refine sim_same h (-102) (fun K' q => M0 K' ?_) (fun K q => X0 K ?_)
    · unfold wfb_M_set_29
      exact w7_out hp ⟨fun _ => q, fun z => absurd rfl z⟩
    · refine xo_out h.1 hp ?_
      unfold wp_X_changeLimit
      exact ⟨fun _ => q, fun z => absurd rfl z⟩
theorem s_set2 {G : GX} {c : Nat} {F : FS} {σ : ST} (h : RX G c F σ) (p : Int32) (v : Int64) : SimR G c F σ (fun K => wp_X_set σ (G 6 0) 2 p v K) (fun K => wf_M_set F 2 p v K) := by
  have M0 : ∀ K' : Int32 → FS → Prop, wfb_M_set_29 K' F 2 p v 3 0 p.toInt64 → wf_M_set F 2 p v K' := fun K' q => by
    unfold wf_M_set
    exact mi_in (by decide) (by decide) ⟨fun z => absurd z (by decide), fun _ => ⟨fun z => absurd rfl z, fun _ => q⟩⟩
  have X0 : ∀ K : Int32 → ST → Prop, wp_X_currencyAt σ (G 6 0) p (fun r σ4 => wp_X_changeRate σ4 r v (fun r σ => K r σ)) → wp_X_set σ (G 6 0) 2 p v K := fun K q => by
    unfold wp_X_set
    exact ⟨fun z => absurd z (by decide), fun _ => ⟨fun z => absurd z (by decide), fun _ => ⟨fun _ => ⟨h.1.1.1, q⟩, fun z => absurd rfl z⟩⟩⟩
  rcases cur_or p with ⟨k, hk, rfl⟩ | hp
  · have hin : vp_in (nI k) 4 := vp_in_nI hk (by decide)
    have M1 : ∀ K' : Int32 → FS → Prop, wfb_M_set_72 K' F 2 (nI k) v 100000 1 v → wf_M_set F 2 (nI k) v K' := fun K' q => M0 K' (by
      unfold wfb_M_set_29
      refine w3_in hk ⟨fun z => absurd z (by decide), fun _ => ⟨fun _ => ⟨fun _ => ?_, fun z => absurd z (by decide)⟩, fun z => absurd z (by decide)⟩⟩
      unfold wfb_M_set_58
      exact ⟨fun z => absurd rfl z, fun _ => q⟩)
    have X1 : ∀ K : Int32 → ST → Prop, wp_X_changeRate σ (some (G 2 k)) v (fun r σ => K r σ) → wp_X_set σ (G 6 0) 2 (nI k) v K := fun K q => X0 K (xc_in h.1 hk q)
    by_cases hlo : v < 1
    · refine sim_same h (-102) (fun K' q => M1 K' ?_) (fun K q => X1 K ?_)
      · unfold wfb_M_set_72
        exact mi_out (Or.inl hlo) ⟨fun z => absurd rfl z, fun _ => q⟩
      · unfold wp_X_changeRate
        exact ⟨fun z => (by cases z), fun _ => ⟨fun _ => q, fun z => absurd ((lg_cmp_lt _ _).mpr hlo) z⟩⟩
    · by_cases hhi : v ≤ 100000
      · have hR : RX G (c + 1) (fsJ F 51 k v) (st_sJ σ 120 (G 2 k) v) := by
          obtain ⟨h1, h2, h3, h4, h5, h6, h7, h8⟩ := h.up
          exact ⟨h1, h2, h3, CUR.c h1 h4 hk v, h5, ODS.keep h6 (fun _ q => q) (fun _ q => q) rfl rfl rfl rfl rfl rfl rfl rfl, h7, h8⟩
        refine sim_to 1 _ G _ hR FrX.sJ GG.rf (fun K' q => M1 K' ?_) (fun K q => X1 K ?_)
        · unfold wfb_M_set_72
          refine mi_in (Int64.not_lt.mp hlo) hhi ⟨fun _ => ⟨fun _ => ?_, fun z => absurd z (by decide)⟩, fun z => absurd z (by decide)⟩
          unfold wfb_M_set_101
          refine ⟨fun _ => ⟨fun _ => ⟨hin, ?_⟩, fun z => absurd z (by decide)⟩, fun z => absurd z (by decide)⟩
          rw [nI_clamp (by omega)]
          intro F8 e8
          subst e8
          exact q
        · unfold wp_X_changeRate
          refine ⟨fun z => (by cases z), fun _ => ⟨fun z => absurd ((lg_cmp_lt _ _).mp z) hlo, fun _ => ⟨fun _ => ⟨G 2 k, rfl, (h.1.2.2.2.1 k hk).2, ?_⟩, fun z => absurd ((lg_cmp_le _ _).mpr hhi) z⟩⟩⟩
          intro σ8 e8
          subst e8
          exact q
      · refine sim_same h (-102) (fun K' q => M1 K' ?_) (fun K q => X1 K ?_)
        · unfold wfb_M_set_72
          exact mi_out (Or.inr (Int64.not_le.mp hhi)) ⟨fun z => absurd rfl z, fun _ => q⟩
        · unfold wp_X_changeRate
          exact ⟨fun z => (by cases z), fun _ => ⟨fun z => absurd ((lg_cmp_lt _ _).mp z) hlo, fun _ => ⟨fun z => absurd ((lg_cmp_le _ _).mp z) hhi, fun _ => q⟩⟩⟩
  · refine sim_same h (-102) (fun K' q => M0 K' ?_) (fun K q => X0 K ?_)
    · unfold wfb_M_set_29
      exact w3_out hp ⟨fun _ => q, fun z => absurd rfl z⟩
    · refine xc_out h.1 hp ?_
      unfold wp_X_changeRate
      exact ⟨fun _ => q, fun z => absurd rfl z⟩
theorem s_set {G : GX} {c : Nat} {F : FS} {σ : ST} (h : RX G c F σ) (w p : Int32) (v : Int64) : SimR G c F σ (fun K => wp_X_set σ (G 6 0) w p v K) (fun K => wf_M_set F w p v K) := by
  by_cases w0 : w = 0
  · subst w0; exact s_set0 h p v
  by_cases w1 : w = 1
  · subst w1; exact s_set1 h p v
  by_cases w2 : w = 2
  · subst w2; exact s_set2 h p v
  refine sim_same h (-102) (fun K' q => ?_) (fun K q => ?_)
  · unfold wf_M_set
    refine mi_out ?_ ⟨fun _ => q, fun z => absurd rfl z⟩
    rcases pk_ix w (n := 3) (by decide) with y | y | ⟨k, hk, rfl⟩
    · exact Or.inl ((t64_lt (y := 0)).mpr y)
    · exact Or.inr ((t64_lt (x := 2)).mpr (Int32.lt_of_lt_of_le (by decide) y))
    · rcases (show k = 0 ∨ k = 1 ∨ k = 2 by omega) with rfl | rfl | rfl
      · exact absurd rfl w0
      · exact absurd rfl w1
      · exact absurd rfl w2
  · unfold wp_X_set
    exact ⟨fun z => absurd z w0, fun _ => ⟨fun z => absurd z w1, fun _ => ⟨fun z => absurd z w2, fun _ => q⟩⟩⟩
