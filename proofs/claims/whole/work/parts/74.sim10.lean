/-! tick -/
abbrev tkU (F : FS) (i : Nat) : Prop := (fI F 41 (i + 1) = 0 ∨ fI F 41 (i + 1) = 2) ∧ fJ F 42 (i + 1) ≤ fJ F 52 (fI F 46 (i + 1)).toNatClampNeg
def tk1 (F : FS) (i : Nat) : FS := fsI (fsI (fsJ (fsJ F 52 (fI F 46 (i + 1)).toNatClampNeg (fJ F 52 (fI F 46 (i + 1)).toNatClampNeg - fJ F 42 (i + 1))) 71 4 (fJ F 71 4 + fJ F 42 (i + 1))) 41 (i + 1) 3) 48 (i + 1) (-1)
def tkF (t : Int64) : Nat → FS → FS × Nat
  | 0, F => (F, 0)
  | i + 1, F => if fJ (tkF t i F).1 43 (i + 1) < t ∧ tkU (tkF t i F).1 i then (tk1 (tkF t i F).1 i, (tkF t i F).2 + 1) else tkF t i F
theorem tk1_N (F : FS) (i : Nat) : fN (tk1 F i) = fN F := by
  unfold tk1
  rw [n_sI, n_sI, n_sJ, n_sJ]
theorem tkF_N (t : Int64) (F : FS) : ∀ i, fN (tkF t i F).1 = fN F ∧ (tkF t i F).2 ≤ i
  | 0 => ⟨rfl, Nat.le_refl _⟩
  | i + 1 => by
    obtain ⟨a, b⟩ := tkF_N t F i
    have st : tkF t (i + 1) F = if fJ (tkF t i F).1 43 (i + 1) < t ∧ tkU (tkF t i F).1 i then (tk1 (tkF t i F).1 i, (tkF t i F).2 + 1) else tkF t i F := rfl
    rw [st]
    by_cases e : fJ (tkF t i F).1 43 (i + 1) < t ∧ tkU (tkF t i F).1 i
    · rw [if_pos e]
      exact ⟨by rw [tk1_N]; exact a, by show (tkF t i F).2 + 1 ≤ i + 1; omega⟩
    · rw [if_neg e]
      exact ⟨a, by omega⟩
/-- an order goes back, or not -/
theorem x_sendBack {G : GX} {c : Nat} {F : FS} {σ : ST} (h : RX G c F σ) {n i : Nat} (hn : n ≤ 300) (hF : fN F 40 = nI n) (hi : i < n) {K : Int32 → ST → Prop} (h1 : tkU F i → ∀ σ', RX G c (tk1 F i) σ' → FrX (G 0 9) σ σ' → K 1 σ') (h0 : ¬ tkU F i → K 0 σ) : wp_X_sendBack σ (G 6 0) (some (G 3 i)) K := by
  obtain ⟨hN, hO, hL, hC⟩ := h.ods hn hF
  have hO1 := hO.1 i hi
  obtain ⟨-, o2, -, ⟨hh, hh8, oh, eh⟩, o5, -, -, -, o9, -⟩ := id hO1
  have hcl : (fI F 46 (i + 1)).toNatClampNeg = hh := by rw [eh]; exact nI_clamp (by omega)
  unfold wp_X_sendBack
  refine ⟨G 3 i, rfl, o2, ?_⟩
  have A : (fI F 41 (i + 1) = 0 ∨ fI F 41 (i + 1) = 2) → st_tg σ (G 3 i) = some 5 ∧ (∃ a_8 : Nat, st_R σ 201 (G 3 i) = some a_8 ∧ st_tg σ a_8 = some 4 ∧ (wp_Office_giveOut σ a_8 (st_J σ 202 (G 3 i)) (fun (r_11 : Int32) σ_12 => ((¬ r_11 = 0) → st_tg σ_12 (G 6 0) = some 0 ∧ (∃ a_15 : Nat, st_R σ_12 9 (G 6 0) = some a_15 ∧ st_tg σ_12 a_15 = some 302 ∧ (vp_in 4 (st_ln σ_12 a_15) ∧ (st_tg σ_12 (G 3 i) = some 5 ∧ (vp_in 4 (st_ln σ_12 a_15) ∧ (∀ σ_21 : ST, σ_21 = st_uJ σ_12 a_15 (Int32.toNatClampNeg 4) (st_eJ σ_12 a_15 (Int32.toNatClampNeg 4) + st_J σ_12 202 (G 3 i)) → (wp_Order_become σ_21 (G 3 i) 3 (fun σ_27 => K 1 σ_27)))))))) ∧ ((r_11 = 0) → K 0 σ_12)))) := fun hs => by
    have hs1 : ¬ fI F 41 (i + 1) = 1 := fun z => by
      rw [z] at hs
      exact hs.elim (fun y => absurd y (by decide)) (fun y => absurd y (by decide))
    refine ⟨o2, G 1 hh, oh, (h.1.2.2.1 hh hh8).2.1, ?_⟩
    rw [o5]
    unfold wp_Office_giveOut
    rw [(h.2.1 hh hh8).1]
    refine ⟨(h.1.2.2.1 hh hh8).2.1, ⟨fun z σ3 e3 => ⟨fun _ => ?_, fun y => absurd y (by decide)⟩, fun z => ⟨fun y => absurd rfl y, fun _ => h0 (fun y => z ((lg_cmp_ge _ _).mpr (by rw [← hcl]; exact y.2)))⟩⟩⟩
    have hle := (lg_cmp_ge _ _).mp z
    have t3 : st_tg σ3 = st_tg σ := by rw [e3, g_tg_sJ]
    have l3 : st_ln σ3 = st_ln σ := by rw [e3, g_ln_sJ]
    have r3 : st_R σ3 = st_R σ := by rw [e3, g_R_sJ]
    have h9 : vp_in 4 (st_ln σ3 (G 0 9)) := by rw [l3, h.1.2.1.2.2.2.2.2.2]; exact vp_in_nI (n := 4) (N := 9) (by decide) (by decide)
    refine ⟨by rw [t3]; exact h.1.1.1, G 0 9, by rw [r3]; exact h.1.1.2.2.2.2.2.2, by rw [t3]; exact h.1.2.1.2.2.2.2.2.1, h9, by rw [t3]; exact o2, h9, ?_⟩
    have e4 : st_eJ σ3 (G 0 9) (Int32.toNatClampNeg 4) = fJ F 71 4 := by rw [e3, g_eJ_sJ]; exact h.2.2.2.2.1 4 (by decide)
    have e5 : st_J σ3 202 (G 3 i) = fJ F 42 (i + 1) := by rw [e3, g_J_sJ, if_neg (fun y => absurd y.1 (by decide))]; exact o5
    rw [e4, e5]
    intro σ21 e21
    have hR : RX G c (fsJ (fsJ F 52 hh (fJ F 52 hh - fJ F 42 (i + 1))) 71 4 (fJ F 71 4 + fJ F 42 (i + 1))) σ21 := by
      obtain ⟨h1, h2, h3, h4, h5, h6, h7, h8⟩ := h
      rw [e21, e3]
      exact ⟨h1, OFF.c52 h1 h2 hh8 _, h3, h4, TOT.c (F := fsJ F 52 hh (fJ F 52 hh - fJ F 42 (i + 1))) h5 4 _, ODS.keep h6 (fun _ q => q) (fun _ q => q) rfl rfl rfl rfl rfl rfl rfl rfl, h7, h8⟩
    have hf : FrX (G 0 9) σ σ21 := by rw [e21, e3]; exact FrX.sJ.tr FrX.uJ
    have f40 : fN (fsJ (fsJ F 52 hh (fJ F 52 hh - fJ F 42 (i + 1))) 71 4 (fJ F 71 4 + fJ F 42 (i + 1))) 40 = nI n := by rw [n_sJ, n_sJ]; exact hF
    refine x_become hR hn f40 hi (v := 3) (by rw [i_sJ, i_sJ]; exact hs1) (by decide) (fun σ' q1 q2 => h1 ⟨hs, by rw [hcl]; exact hle⟩ σ' ?_ (hf.tr q2))
    unfold tk1
    rw [hcl]
    exact q1
  unfold wp_Order_isUnpaid
  rw [o9]
  exact ⟨o2, ⟨fun z => ⟨fun y => absurd y (by decide), fun _ => A (Or.inl z)⟩, fun z => ⟨fun y => ⟨fun _ => h0 (fun x => x.1.elim z y), fun x => absurd rfl x⟩, fun y => ⟨fun x => absurd x (by decide), fun _ => A (Or.inr y)⟩⟩⟩⟩
theorem x_tickLoop {G : GX} {c : Nat} {F : FS} {σ0 : ST} {n : Nat} {t : Int64} (hn : n ≤ 300) (hF : fN F 40 = nI n) (h0 : RX G c F σ0) {K : Int32 → ST → Prop} (hK : ∀ σ', RX G c (tkF t n F).1 σ' → FrX (G 0 9) σ0 σ' → K (nI (tkF t n F).2) σ') : ∃ d : Nat, wb_X_tick_14 (G 6 0) K d σ0 t 0 0 := by
  have key : ∀ d i σ, n ≤ i + d → i ≤ n → RX G c (tkF t i F).1 σ → FrX (G 0 9) σ0 σ → wb_X_tick_14 (G 6 0) K (d + 1) σ t (nI (tkF t i F).2) (nI i) := by
    intro d
    induction d with
    | zero =>
      intro i σ h1 h2 hR hf
      have e : i = n := by omega
      subst e
      obtain ⟨hN, -⟩ := hR.ods hn (by rw [(tkF_N t F i).1]; exact hF)
      unfold wb_X_tick_14
      rw [hN.2.2.1]
      exact ⟨hR.1.1.1, ⟨fun _ => hK σ hR hf, fun c => absurd (nI_le (a := i) (b := i) (Nat.le_refl _) (by omega)) c⟩⟩
    | succ d ih =>
      intro i σ h1 h2 hR hf
      have hF' : fN (tkF t i F).1 40 = nI n := by rw [(tkF_N t F i).1]; exact hF
      obtain ⟨hN, hO, -⟩ := hR.ods hn hF'
      unfold wb_X_tick_14
      rw [hN.2.2.1]
      refine ⟨hR.1.1.1, ⟨fun c => ?_, fun c => ?_⟩⟩
      · have := (nI_leI (a := n) (b := i) (by omega) (by omega)).mp c
        have e : i = n := by omega
        subst e
        exact hK σ hR hf
      · have hi : i < n := by
          rcases Nat.lt_or_ge i n with q | q
          · exact q
          · exact absurd ((nI_leI (a := n) (b := i) (by omega) (by omega)).mpr q) c
        have hO1 := hO.1 i hi
        have st : tkF t (i + 1) F = if fJ (tkF t i F).1 43 (i + 1) < t ∧ tkU (tkF t i F).1 i then (tk1 (tkF t i F).1 i, (tkF t i F).2 + 1) else tkF t i F := rfl
        refine ⟨G 0 2, hR.1.1.2.2.2.1, hR.1.2.1.2.2.1.1, ?_, ?_⟩
        · rw [hR.1.2.1.2.2.1.2]
          exact vp_in_nI (by omega) (by decide)
        rw [nI_clamp (by omega), hO1.1]
        refine ⟨fun z => (by cases z), fun _ => ⟨G 3 i, rfl, hO1.2.1, ?_⟩⟩
        rw [hO1.2.2.2.2.2.1]
        refine ⟨fun z x ex => ?_, fun z => ?_⟩
        · rw [ex, nI_1]
          have hst : tkF t (i + 1) F = tkF t i F := by rw [st, if_neg (fun y => absurd ((lg_cmp_ge _ _).mp z) (Int64.not_le.mpr y.1))]
          have ih1 := ih (i + 1) σ (by omega) (by omega) (by rw [hst]; exact hR) hf
          rw [hst] at ih1
          exact ih1
        · have hlt : fJ (tkF t i F).1 43 (i + 1) < t := Int64.not_le.mp (fun y => z ((lg_cmp_ge _ _).mpr y))
          refine x_sendBack hR hn hF' hi (fun hu σ' q1 q2 => ?_) (fun hu => ?_)
          · have hst : tkF t (i + 1) F = (tk1 (tkF t i F).1 i, (tkF t i F).2 + 1) := by rw [st, if_pos ⟨hlt, hu⟩]
            have ih1 := ih (i + 1) σ' (by omega) (by omega) (by rw [hst]; exact q1) (hf.tr q2)
            rw [hst] at ih1
            refine ⟨fun y => absurd y (by decide), fun _ x ex x2 ex2 => ?_⟩
            rw [ex, ex2, nI_1, nI_1]
            exact ih1
          · have hst : tkF t (i + 1) F = tkF t i F := by rw [st, if_neg (fun y => hu y.2)]
            have ih1 := ih (i + 1) σ (by omega) (by omega) (by rw [hst]; exact hR) hf
            rw [hst] at ih1
            refine ⟨fun _ x ex => ?_, fun y => absurd rfl y⟩
            rw [ex, nI_1]
            exact ih1
  exact ⟨n + 1, key n 0 σ0 (by omega) (by omega) h0 FrX.rf⟩
