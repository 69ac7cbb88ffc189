/-! pass -/
def RXn (G : GX) (c : Nat) (F : FS) (σ : ST) : Prop := SX G σ ∧ OFF G F σ ∧ OFR F ∧ CUR G F σ ∧ TOT G F σ ∧ ODS G F σ ∧ ∃ a v, TRS G F c a v σ
abbrev psU (d : Int32) (F : FS) (i : Nat) : Prop := ¬ d < fI F 70 i ∧ fJ F 69 i ≤ fJ F 52 (fI F 68 i).toNatClampNeg
def psP (F : FS) (i : Nat) : FS := fsJ (fsJ F 52 (fI F 68 i).toNatClampNeg (fJ F 52 (fI F 68 i).toNatClampNeg - fJ F 69 i)) 71 3 (fJ F 71 3 + fJ F 69 i)
def psK (F : FS) (l i : Nat) : FS := fsI (fsJ (fsI F 68 l (fI F 68 i)) 69 l (fJ F 69 i)) 70 l (fI F 70 i)
def psF (d : Int32) : Nat → FS → FS × Nat
  | 0, F => (F, 0)
  | i + 1, F => if psU d (psF d i F).1 i then (psP (psF d i F).1 i, (psF d i F).2) else (psK (psF d i F).1 (psF d i F).2 i, (psF d i F).2 + 1)
theorem psP_N (F : FS) (i : Nat) : fN (psP F i) = fN F := by unfold psP; rw [n_sJ, n_sJ]
theorem psK_N (F : FS) (l i : Nat) : fN (psK F l i) = fN F := by unfold psK; rw [n_sI, n_sJ, n_sI]
theorem psF_N (d : Int32) (F : FS) : ∀ i, fN (psF d i F).1 = fN F ∧ (psF d i F).2 ≤ i
  | 0 => ⟨rfl, Nat.le_refl _⟩
  | i + 1 => by
    obtain ⟨a, b⟩ := psF_N d F i
    have st : psF d (i + 1) F = if psU d (psF d i F).1 i then (psP (psF d i F).1 i, (psF d i F).2) else (psK (psF d i F).1 (psF d i F).2 i, (psF d i F).2 + 1) := rfl
    rw [st]
    by_cases e : psU d (psF d i F).1 i
    · rw [if_pos e]
      exact ⟨by rw [psP_N]; exact a, by show (psF d i F).2 ≤ i + 1; omega⟩
    · rw [if_neg e]
      exact ⟨by rw [psK_N]; exact a, by show (psF d i F).2 + 1 ≤ i + 1; omega⟩
theorem psK_o {F : FS} {l i j : Nat} (h : ¬ j = l) : fI (psK F l i) 68 j = fI F 68 j ∧ fJ (psK F l i) 69 j = fJ F 69 j ∧ fI (psK F l i) 70 j = fI F 70 j := by
  unfold psK
  refine ⟨?_, ?_, ?_⟩
  · rw [i_sI, if_neg (fun z => h z.2), i_sJ, i_sI, if_neg (fun z => h z.2)]
  · rw [j_sI, j_sJ, if_neg (fun z => h z.2), j_sI]
  · rw [i_sI, if_neg (fun z => h z.2), i_sJ, i_sI, if_neg (fun z => h z.2)]
theorem psK_l {F : FS} {l i : Nat} : fI (psK F l i) 68 l = fI F 68 i ∧ fJ (psK F l i) 69 l = fJ F 69 i ∧ fI (psK F l i) 70 l = fI F 70 i := by
  unfold psK
  refine ⟨?_, ?_, ?_⟩
  · rw [i_sI, if_neg (fun z => absurd z.1 (by decide)), i_sJ, i_sI, if_pos ⟨rfl, rfl⟩]
  · rw [j_sI, j_sJ, if_pos ⟨rfl, rfl⟩]
  · rw [i_sI, if_pos ⟨rfl, rfl⟩]
/-- the reference's loop -/
theorem m_passLoop {F : FS} {w : Nat} {d : Int32} (hw : w ≤ 100) (hF : fN F 67 = nI w) (h68 : ∀ i, i < w → ∃ hh, hh < 8 ∧ fI (psF d i F).1 68 i = nI hh) {K : Int32 → FS → Prop} (hK : K (nI (w - (psF d w F).2)) (fsN (psF d w F).1 67 (nI (psF d w F).2))) : ∃ m : Nat, wfb_M_pass_22 K m F d 0 0 0 := by
  have key : ∀ m i, w ≤ i + m → i ≤ w → wfb_M_pass_22 K (m + 1) (psF d i F).1 d (nI (psF d i F).2) (nI (i - (psF d i F).2)) (nI i) := by
    intro m
    induction m with
    | zero =>
      intro i h1 h2
      have e : i = w := by omega
      subst e
      unfold wfb_M_pass_22
      rw [(psF_N d F i).1, hF]
      exact ⟨fun _ F2 e2 => by rw [e2]; exact hK, fun c => absurd (nI_le (a := i) (b := i) (Nat.le_refl _) (by omega)) c⟩
    | succ m ih =>
      intro i h1 h2
      unfold wfb_M_pass_22
      rw [(psF_N d F i).1, hF]
      refine ⟨fun c F2 e2 => ?_, fun c => ?_⟩
      · have := (nI_leI (a := w) (b := i) (by omega) (by omega)).mp c
        have e : i = w := by omega
        subst e
        rw [e2]
        exact hK
      · have hi : i < w := by
          rcases Nat.lt_or_ge i w with q | q
          · exact q
          · exact absurd ((nI_leI (a := w) (b := i) (by omega) (by omega)).mpr q) c
        have hb := (psF_N d F i).2
        have hin : vp_in (nI i) 100 := vp_in_nI (by omega) (by decide)
        have hil : vp_in (nI (psF d i F).2) 100 := vp_in_nI (by omega) (by decide)
        have hcl : (nI (psF d i F).2).toNatClampNeg = (psF d i F).2 := nI_clamp (by omega)
        have h3 : vp_in 3 9 := vp_in_nI (n := 3) (N := 9) (by decide) (by decide)
        obtain ⟨hh, hh8, eh⟩ := h68 i hi
        have hi52 : vp_in (fI (psF d i F).1 68 i) 8 := by rw [eh]; exact vp_in_nI hh8 (by decide)
        have st : psF d (i + 1) F = if psU d (psF d i F).1 i then (psP (psF d i F).1 i, (psF d i F).2) else (psK (psF d i F).1 (psF d i F).2 i, (psF d i F).2 + 1) := rfl
        have ih1 := ih (i + 1) (by omega) (by omega)
        have NS : ¬ psU d (psF d i F).1 i → ∀ F8 x x2, F8 = psK (psF d i F).1 (psF d i F).2 i → x = nI (psF d i F).2 + 1 → x2 = nI i + 1 → wfb_M_pass_22 K (m + 1) F8 d x (nI (i - (psF d i F).2)) x2 := fun z F8 x x2 e8 ex ex2 => by
          rw [st, if_neg z] at ih1
          rw [e8, ex, ex2, nI_1, nI_1]
          rw [show i - (psF d i F).2 = i + 1 - ((psF d i F).2 + 1) by omega]
          exact ih1
        have GO : psU d (psF d i F).1 i → ∀ F8 x x2, F8 = psP (psF d i F).1 i → x = nI (i - (psF d i F).2) + 1 → x2 = nI i + 1 → wfb_M_pass_22 K (m + 1) F8 d (nI (psF d i F).2) x x2 := fun z F8 x x2 e8 ex ex2 => by
          rw [st, if_pos z] at ih1
          rw [e8, ex, ex2, nI_1, nI_1]
          rw [show i - (psF d i F).2 + 1 = i + 1 - (psF d i F).2 by omega]
          exact ih1
        clear ih1 ih
        rw [nI_clamp (by omega), hcl]
        have SAVE : ∀ F4 F6 F8 : FS, F4 = fsI (psF d i F).1 68 (psF d i F).2 (fI (psF d i F).1 68 i) → F6 = fsJ F4 69 (psF d i F).2 (fJ F4 69 i) → F8 = fsI F6 70 (psF d i F).2 (fI F6 70 i) → F8 = psK (psF d i F).1 (psF d i F).2 i := fun F4 F6 F8 e4 e6 e8 => by
          have g1 : fJ F4 69 i = fJ (psF d i F).1 69 i := by rw [e4, j_sI]
          have g2 : fI F6 70 i = fI (psF d i F).1 70 i := by rw [e6, i_sJ, e4, i_sI, if_neg (fun z => absurd z.1 (by decide))]
          rw [e8, g2, e6, g1, e4]
          rfl
        refine ⟨hin, ⟨fun z => ⟨hin, hil, fun F4 e4 => ⟨hin, hil, fun F6 e6 => ⟨hin, hil, fun F8 e8 x ex x2 ex2 => NS (fun y => y.1 z) F8 x x2 (SAVE F4 F6 F8 e4 e6 e8) ex ex2⟩⟩⟩, fun z => ⟨hin, hi52, hin, ⟨fun y => ⟨hin, hil, fun F4 e4 => ⟨hin, hil, fun F6 e6 => ⟨hin, hil, fun F8 e8 x ex x2 ex2 => NS (fun u => absurd u.2 (Int64.not_le.mpr ((lg_cmp_lt _ _).mp y))) F8 x x2 (SAVE F4 F6 F8 e4 e6 e8) ex ex2⟩⟩⟩, fun y => ⟨hin, hi52, hin, hi52, fun F16 e16 => ⟨h3, hin, h3, fun F18 e18 x ex x2 ex2 => GO ⟨z, Int64.not_lt.mp (fun u => y ((lg_cmp_lt _ _).mpr u))⟩ F18 x x2 ?_ ex ex2⟩⟩⟩⟩⟩⟩
        have g1 : fJ F16 71 (Int32.toNatClampNeg 3) = fJ (psF d i F).1 71 3 := by rw [e16, j_sJ, if_neg (fun u => absurd u.1 (by decide))]; rfl
        have g2 : fJ F16 69 i = fJ (psF d i F).1 69 i := by rw [e16, j_sJ, if_neg (fun u => absurd u.1 (by decide))]
        rw [e18, g1, g2, e16]
        rfl
  exact ⟨w + 1, key w 0 (by omega) (by omega)⟩
