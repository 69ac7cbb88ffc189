/-! pass, the class's side -/
theorem psK_I {F : FS} {l i j : Nat} (h1 : ¬ j = 68) (h2 : ¬ j = 70) : fI (psK F l i) j = fI F j := by
  funext x
  unfold psK
  rw [i_sI, if_neg (fun z => h2 z.1), i_sJ, i_sI, if_neg (fun z => h1 z.1)]
theorem psK_J {F : FS} {l i j : Nat} (h1 : ¬ j = 69) : fJ (psK F l i) j = fJ F j := by
  funext x
  unfold psK
  rw [j_sI, j_sJ, if_neg (fun z => h1 z.1), j_sI]
theorem RXn.F {G : GX} {c : Nat} {F F' : FS} {σ : ST} (f1 : ∀ j, ¬ j = 68 → ¬ j = 70 → fI F' j = fI F j) (f2 : ∀ j, ¬ j = 69 → fJ F' j = fJ F j) (f3 : ∀ j, ¬ j = 67 → fN F' j = fN F j) (h : RXn G c F σ) : RXn G c F' σ := by
  obtain ⟨h1, h2, h3, h4, h5, h6, ⟨a, v, h7⟩⟩ := h
  refine ⟨h1, ?_, ?_, ?_, ?_, ODS.F51 (fun j hj => f1 j (by omega) (by omega)) (fun j hj => f2 j (by omega)) (f3 40 (by decide)) h6, ⟨a, v, ?_⟩⟩
  · unfold OFF
    rw [f2 52 (by decide), f2 53 (by decide), f2 56 (by decide), f2 57 (by decide), f1 54 (by decide) (by decide), f1 55 (by decide) (by decide)]
    exact h2
  · unfold OFR
    rw [f2 53 (by decide), f1 54 (by decide) (by decide), f1 55 (by decide) (by decide)]
    exact h3
  · unfold CUR
    rw [f2 51 (by decide)]
    exact h4
  · unfold TOT
    rw [f2 71 (by decide)]
    exact h5
  · unfold TRS TR1
    rw [f3 60 (by decide), f3 61 (by decide), f1 62 (by decide) (by decide), f2 63 (by decide), f1 64 (by decide) (by decide), f2 65 (by decide), f1 66 (by decide) (by decide)]
    exact h7
theorem RXn.uR {G : GX} {c : Nat} {F : FS} {σ : ST} {i : Nat} {x : Option Nat} (h : RXn G c F σ) : RXn G c F (st_uR σ (G 0 7) i x) := by
  obtain ⟨h1, h2, h3, h4, h5, h6, ⟨a, v, h7⟩⟩ := h
  refine ⟨h1.uR h1.2.1.2.2.2.2.1.1 (by decide) (by decide), h2, h3, h4, h5, ODS.to h6 ⟨rfl, rfl, rfl, rfl, rfl⟩ rfl rfl ?_ rfl (fun _ _ => rfl) rfl rfl, ⟨a, v, h7.uR (tg_ne h1.2.1.2.2.2.1.1 h1.2.1.2.2.2.2.1.1 (by decide))⟩⟩
  funext j
  rw [g_eR_uR, if_neg (fun z => tg_ne h1.2.1.2.2.1.1 h1.2.1.2.2.2.2.1.1 (by decide) z.1)]
theorem CO1.uR {G : GX} {F : FS} {σ : ST} {i j : Nat} {x : Option Nat} (hj : ¬ j = i) (h : CO1 G F σ j) : CO1 G F (st_uR σ (G 0 7) i x) j := by
  obtain ⟨z, s1, s2⟩ := h
  exact ⟨z, by rw [g_eR_uR, if_neg (fun y => hj y.2)]; exact s1, s2⟩
theorem x_passLoop {G : GX} {c : Nat} {F : FS} {σ0 : ST} {w : Nat} {d : Int32} (hw : w ≤ 100) (h0 : RXn G c F σ0) (hC0 : ∀ j, j < w → CO1 G F σ0 j) (e80 : st_I σ0 8 (G 6 0) = nI w) {K : Int32 → ST → Prop} (hK : ∀ σ', RX G c (fsN (psF d w F).1 67 (nI (psF d w F).2)) σ' → FrX (G 0 9) σ0 σ' → K (nI (w - (psF d w F).2)) σ') : ∃ m : Nat, wb_X_pass_20 (G 6 0) K m σ0 d (nI w) 0 0 := by
  have key : ∀ m i σ, w ≤ i + m → i ≤ w → RXn G c (psF d i F).1 σ → (∀ j, j < (psF d i F).2 → CO1 G (psF d i F).1 σ j) → (∀ j, i ≤ j → j < w → CO1 G (psF d i F).1 σ j) → st_I σ 8 (G 6 0) = nI w → FrX (G 0 9) σ0 σ → wb_X_pass_20 (G 6 0) K (m + 1) σ d (nI w) (nI (psF d i F).2) (nI i) := by
    have fin : ∀ σ, RXn G c (psF d w F).1 σ → (∀ j, j < (psF d w F).2 → CO1 G (psF d w F).1 σ j) → FrX (G 0 9) σ0 σ → st_tg σ (G 6 0) = some 0 ∧ (∀ σ_9 : ST, σ_9 = st_sI σ 8 (G 6 0) (nI (psF d w F).2) → K (nI w - nI (psF d w F).2) σ_9) := fun σ hR hL hf => by
      have hb := (psF_N d F w).2
      refine ⟨hR.1.1.1, fun σ9 e9 => ?_⟩
      rw [pk_sub hb]
      have hR' : RXn G c (fsN (psF d w F).1 67 (nI (psF d w F).2)) σ := hR.F (fun j _ _ => by rw [i_sN]) (fun j _ => by rw [j_sN]) (fun j hj => by rw [n_sN, if_neg hj])
      obtain ⟨h1, h2, h3, h4, h5, h6, h7⟩ := hR'
      refine hK σ9 ?_ (by rw [e9]; exact hf.tr (FrX.sI (by decide)))
      rw [e9]
      refine ⟨h1, h2, h3, h4, h5, ODS.keep h6 (fun _ q => q) (fun _ q => q) rfl rfl rfl rfl rfl rfl rfl rfl, h7, ⟨(psF d w F).2, by omega, ?_, ?_, fun j hj => hL j hj⟩⟩
      · rw [n_sN, if_pos rfl]
      · rw [g_I_sI, if_pos ⟨rfl, rfl⟩]
    intro m
    induction m with
    | zero =>
      intro i σ h1 h2 hR hL hU e8 hf
      have e : i = w := by omega
      subst e
      unfold wb_X_pass_20
      exact ⟨fun _ => fin σ hR hL hf, fun cc => absurd (nI_le (a := i) (b := i) (Nat.le_refl _) (by omega)) cc⟩
    | succ m ih =>
      intro i σ h1 h2 hR hL hU e8 hf
      unfold wb_X_pass_20
      refine ⟨fun cc => ?_, fun cc => ?_⟩
      · have := (nI_leI (a := w) (b := i) (by omega) (by omega)).mp cc
        have e : i = w := by omega
        subst e
        exact fin σ hR hL hf
      · have hi : i < w := by
          rcases Nat.lt_or_ge i w with q | q
          · exact q
          · exact absurd ((nI_leI (a := w) (b := i) (by omega) (by omega)).mpr q) cc
        have hb := (psF_N d F i).2
        obtain ⟨z, s1, s2, ⟨hh, hh8, s3, s4⟩, s5, s6⟩ := hU i (Nat.le_refl _) hi
        have hcl : (fI (psF d i F).1 68 i).toNatClampNeg = hh := by rw [s4]; exact nI_clamp (by omega)
        have st : psF d (i + 1) F = if psU d (psF d i F).1 i then (psP (psF d i F).1 i, (psF d i F).2) else (psK (psF d i F).1 (psF d i F).2 i, (psF d i F).2 + 1) := rfl
        have hv : vp_in (nI i) (st_ln σ (G 0 7)) := by rw [hR.1.2.1.2.2.2.2.1.2]; exact vp_in_nI (by omega) (by decide)
        refine ⟨hR.1.1.1, G 0 7, hR.1.1.2.2.2.2.2.1, hR.1.2.1.2.2.2.2.1.1, hv, hv, ?_⟩
        rw [nI_clamp (by omega), s1]
        intro σ18 e18
        have hR18 : RXn G c (psF d i F).1 σ18 := by rw [e18]; exact hR.uR
        have hL18 : ∀ j, j < (psF d i F).2 → CO1 G (psF d i F).1 σ18 j := fun j hj => by rw [e18]; exact (hL j hj).uR (by omega)
        have hU18 : ∀ j, i + 1 ≤ j → j < w → CO1 G (psF d i F).1 σ18 j := fun j hj hjw => by rw [e18]; exact (hU j (by omega) hjw).uR (by omega)
        have hf18 : FrX (G 0 9) σ0 σ18 := by rw [e18]; exact hf.tr FrX.uR
        have e818 : st_I σ18 8 (G 6 0) = nI w := by rw [e18, g_I_uR]; exact e8
        have z1 : st_tg σ18 z = some 2 := by rw [e18, g_tg_uR]; exact s2
        have z2 : st_R σ18 80 z = some (G 1 hh) := by rw [e18, g_R_uR]; exact s3
        have z3 : st_J σ18 81 z = fJ (psF d i F).1 69 i := by rw [e18, g_J_uR]; exact s5
        have z4 : st_I σ18 82 z = fI (psF d i F).1 70 i := by rw [e18, g_I_uR]; exact s6
        clear e18 hR hL hU hf e8 s1 s2 s3 s5 s6 hv
        have NS : ¬ psU d (psF d i F).1 i → ((¬ (0 : Int32) = 0) → ∀ x_28 : Int32, x_28 = nI i + 1 → (wb_X_pass_20 (G 6 0) K (m + 1) σ18 d (nI w) (nI (psF d i F).2) x_28)) ∧ (((0 : Int32) = 0) → st_tg σ18 (G 6 0) = some 0 ∧ (∃ a_31 : Nat, st_R σ18 7 (G 6 0) = some a_31 ∧ st_tg σ18 a_31 = some 312 ∧ (vp_in (nI (psF d i F).2) (st_ln σ18 a_31) ∧ ((∀ y : Nat, some z = some y → st_tg σ18 y = some 2) ∧ (∀ σ_36 : ST, σ_36 = st_uR σ18 a_31 (Int32.toNatClampNeg (nI (psF d i F).2)) (some z) → (∀ x_40 : Int32, x_40 = nI (psF d i F).2 + 1 → (∀ x_42 : Int32, x_42 = nI i + 1 → (wb_X_pass_20 (G 6 0) K (m + 1) σ_36 d (nI w) x_40 x_42)))))))) := fun hu => by
          refine ⟨fun y => absurd rfl y, fun _ => ⟨hR18.1.1.1, G 0 7, hR18.1.1.2.2.2.2.2.1, hR18.1.2.1.2.2.2.2.1.1, by rw [hR18.1.2.1.2.2.2.2.1.2]; exact vp_in_nI (by omega) (by decide), fun y hy => by cases hy; exact z1, ?_⟩⟩
          rw [nI_clamp (by omega)]
          intro σ36 e36 x ex x2 ex2
          rw [ex, ex2, nI_1, nI_1]
          have hst : psF d (i + 1) F = (psK (psF d i F).1 (psF d i F).2 i, (psF d i F).2 + 1) := by rw [st, if_neg hu]
          have ih1 := ih (i + 1) σ36 (by omega) (by omega)
          rw [hst] at ih1
          refine ih1 ?_ ?_ ?_ (by rw [e36, g_I_uR]; exact e818) (by rw [e36]; exact hf18.tr FrX.uR)
          · rw [e36]
            exact (hR18.F (fun j a1 a2 => psK_I a1 a2) (fun j a1 => psK_J a1) (fun j _ => by rw [psK_N])).uR
          · intro j hj
            by_cases ej : j = (psF d i F).2
            · obtain ⟨l1, l2, l3⟩ := psK_l (F := (psF d i F).1) (l := (psF d i F).2) (i := i)
              rw [ej]
              refine ⟨z, ?_, by rw [e36, g_tg_uR]; exact z1, ⟨hh, hh8, by rw [e36, g_R_uR]; exact z2, by rw [l1]; exact s4⟩, by rw [e36, g_J_uR, l2]; exact z3, by rw [e36, g_I_uR, l3]; exact z4⟩
              rw [e36, g_eR_uR, if_pos ⟨rfl, rfl⟩]
            · have hj' : j < (psF d i F).2 := by
                have : j < (psF d i F).2 + 1 := hj
                omega
              obtain ⟨l1, l2, l3⟩ := psK_o (F := (psF d i F).1) (l := (psF d i F).2) (i := i) ej
              have := (hL18 j hj').uR (x := some z) ej
              rw [e36]
              unfold CO1 at this ⊢
              rw [l1, l2, l3]
              exact this
          · intro j hj hjw
            have ej : ¬ j = (psF d i F).2 := by omega
            obtain ⟨l1, l2, l3⟩ := psK_o (F := (psF d i F).1) (l := (psF d i F).2) (i := i) ej
            have := (hU18 j hj hjw).uR (x := some z) ej
            rw [e36]
            unfold CO1 at this ⊢
            rw [l1, l2, l3]
            exact this
        refine ⟨fun y => (by cases y), fun _ => ?_⟩
        unfold wp_X_passOn
        refine ⟨z, rfl, z1, ?_⟩
        rw [z4]
        refine ⟨fun y => NS (fun u => u.1 y), fun y => ⟨G 1 hh, z2, (hR18.1.2.2.1 hh hh8).2.1, ?_⟩⟩
        rw [z3]
        unfold wp_Office_giveOut
        rw [(hR18.2.1 hh hh8).1]
        refine ⟨(hR18.1.2.2.1 hh hh8).2.1, ⟨fun u σ3 e3 => ⟨fun _ => ?_, fun v => absurd v (by decide)⟩, fun u => ⟨fun v => absurd rfl v, fun _ => NS (fun v => u ((lg_cmp_ge _ _).mpr (by rw [← hcl]; exact v.2)))⟩⟩⟩
        have hle := (lg_cmp_ge _ _).mp u
        have t3 : st_tg σ3 = st_tg σ18 := by rw [e3, g_tg_sJ]
        have l3 : st_ln σ3 = st_ln σ18 := by rw [e3, g_ln_sJ]
        have r3 : st_R σ3 = st_R σ18 := by rw [e3, g_R_sJ]
        have h9 : vp_in 3 (st_ln σ3 (G 0 9)) := by rw [l3, hR18.1.2.1.2.2.2.2.2.2]; exact vp_in_nI (n := 3) (N := 9) (by decide) (by decide)
        refine ⟨by rw [t3]; exact hR18.1.1.1, G 0 9, by rw [r3]; exact hR18.1.1.2.2.2.2.2.2, by rw [t3]; exact hR18.1.2.1.2.2.2.2.2.1, h9, by rw [t3]; exact z1, h9, ?_⟩
        have e4 : st_eJ σ3 (G 0 9) (Int32.toNatClampNeg 3) = fJ (psF d i F).1 71 3 := by rw [e3, g_eJ_sJ]; exact hR18.2.2.2.2.1 3 (by decide)
        have e5 : st_J σ3 81 z = fJ (psF d i F).1 69 i := by rw [e3, g_J_sJ, if_neg (fun y => absurd y.1 (by decide))]; exact z3
        rw [e4, e5]
        intro σ21 e21
        refine ⟨fun _ x ex => ?_, fun v => absurd v (by decide)⟩
        rw [ex, nI_1]
        have hst : psF d (i + 1) F = (psP (psF d i F).1 i, (psF d i F).2) := by rw [st, if_pos ⟨y, by rw [hcl]; exact hle⟩]
        have ih1 := ih (i + 1) σ21 (by omega) (by omega)
        rw [hst] at ih1
        have eP : psP (psF d i F).1 i = fsJ (fsJ (psF d i F).1 52 hh (fJ (psF d i F).1 52 hh - fJ (psF d i F).1 69 i)) 71 3 (fJ (psF d i F).1 71 3 + fJ (psF d i F).1 69 i) := by unfold psP; rw [hcl]
        refine ih1 ?_ (fun j hj => ?_) (fun j hj hjw => ?_) ?_ ?_
        · obtain ⟨h1, h2, h3, h4, h5, h6, h7⟩ := hR18
          show RXn G c (psP (psF d i F).1 i) σ21
          rw [eP, e21, e3]
          exact ⟨h1, OFF.c52 h1 h2 hh8 _, h3, h4, TOT.c (F := fsJ (psF d i F).1 52 hh (fJ (psF d i F).1 52 hh - fJ (psF d i F).1 69 i)) h5 3 _, ODS.keep h6 (fun _ q => q) (fun _ q => q) rfl rfl rfl rfl rfl rfl rfl rfl, h7⟩
        · have := hL18 j hj
          show CO1 G (psP (psF d i F).1 i) σ21 j
          rw [eP, e21, e3]
          exact this
        · have := hU18 j hj hjw
          show CO1 G (psP (psF d i F).1 i) σ21 j
          rw [eP, e21, e3]
          exact this
        · rw [e21, g_I_uJ, e3, g_I_sJ]; exact e818
        · rw [e21, e3]
          exact (hf18.tr FrX.sJ).tr FrX.uJ
  have hz : (psF d 0 F).2 = 0 := rfl
  exact ⟨w + 1, key w 0 σ0 (by omega) (by omega) h0 (fun j hj => by rw [hz] at hj; omega) (fun j _ hj => hC0 j hj) e80 FrX.rf⟩
