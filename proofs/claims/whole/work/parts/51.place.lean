/-! the place of a try in its row: Math.floorMod of a number that is not negative is its rest -/
theorem xor_nn {x y : Int32} (hx : 0 ≤ x) (hy : 0 ≤ y) : 0 ≤ x ^^^ y := by
  rw [Int32.le_iff_toBitVec_sle, BitVec.sle_iff_toInt_le] at *
  have e : ∀ b : BitVec 32, (Int32.toBitVec 0).toInt ≤ b.toInt ↔ b.msb = false := by
    intro b
    rw [BitVec.msb_eq_toInt]
    simp
  rw [e] at *
  rw [Int32.toBitVec_xor, BitVec.msb_xor, hx, hy]
  rfl
theorem x_place {σ : ST} {a : Nat} {K : Int32 → ST → Prop} (ha : a < 2 ^ 31) (h : K (nI (a % 100)) σ) : wp_X_placeOfTry σ (nI a) K := by
  have r100 : nI a - nI a / 100 * 100 = nI (a % 100) := pk_rem (a := a) (d := 100) ha (by decide) (by decide)
  have hn : (0 : Int32) ≤ nI a := nI_le (a := 0) (b := a) (Nat.zero_le _) ha
  unfold wp_X_placeOfTry wp_Math_floorMod
  refine ⟨by decide, fun x e => ?_⟩
  rw [r100] at e
  subst e
  exact ⟨fun _ => h, fun z => absurd (xor_nn hn (by decide)) z⟩
