/-! pay: what comes of it, and the reference's side -/
abbrev limP (F : FS) (k i : Nat) (d : Int64) : Prop := fJ F 53 k = -1 ∨ b0F F k d + sumF F (i + 1) ≤ fJ F 53 k
def wm0 (F : FS) (k i : Nat) : FS := fsI (fsI (fsI (fsJ (fsJ F 52 k (fJ F 52 k - sumF F (i + 1))) 71 1 (fJ F 71 1 + sumF F (i + 1))) 41 (i + 1) 1) 47 (i + 1) (nI k)) 48 (i + 1) (-1)
def wmF (F : FS) (k i : Nat) (d : Int64) : FS := knG (wm0 F k i) k d (b0F F k d + sumF F (i + 1)) (l0F F k d).toNatClampNeg (fI F 45 (i + 1))
def paidF (F : FS) (k i : Nat) (d : Int64) : FS := if cB (wmF F k i d) k (fI F 45 (i + 1)) ((l0F F k d).toNatClampNeg + 1) < 3 then wmF F k i d else fsJ (wmF F k i d) 71 7 (fJ F 71 7 + 1)
def payR (F : FS) (k i : Nat) (pr : Int32) (d : Int64) : Int32 × FS :=
  if told F k 1 then (-108, f6 (clrF F k 1)) else
  if told F k 2 then (-108, f6 (clrF F k 2)) else
  if ¬ pr = fI F 45 (i + 1) then (-105, F) else
  if told F k 3 then (-108, f6 (clrF F k 3)) else
  if ¬ limP F k i d then (-106, F) else
  if told F k 4 then (-108, f6 (clrF F k 4)) else
  if fJ F 52 k < sumF F (i + 1) then (-107, F) else
  if told F k 5 then (-108, f6 (clrF F k 5)) else (1, paidF F k i d)
theorem m_alike {F : FS} {k L : Nat} {p : Int32} (hk : k < 8) (hL : L ≤ 300) (e58 : fI F 58 k = nI L) {K : Int32 → FS → Prop} (h0 : cB F k p L < 3 → K 1 F) (h1 : ¬ cB F k p L < 3 → K 1 (fsJ F 71 7 (fJ F 71 7 + 1))) : ∃ n : Nat, wfb_M_pay_403 K n F (nI k) p 0 (nI (300 * k)) := by
  have hk8 : vp_in (nI k) 8 := vp_in_nI hk (by decide)
  have h7 : vp_in 7 9 := vp_in_nI (n := 7) (N := 9) (by decide) (by decide)
  have hck : (nI k).toNatClampNeg = k := nI_clamp (by omega)
  have e300 : 300 * nI k = nI (300 * k) := pk_mul 300 k
  have hcb := cB_le F k p L
  have fin : vp_in 7 (lnA 71) ∧ ((((nI (cB F k p L) ≤ (2 : Int32)) → vp_in 7 (lnA 71) ∧ (∀ F_29 : FS, F_29 = fsJ F 71 (Int32.toNatClampNeg 7) ((((fJ F 71 (Int32.toNatClampNeg 7))) + 0)) → (K 1 F_29))) ∧ ((¬ nI (cB F k p L) ≤ (2 : Int32)) → vp_in 7 (lnA 71) ∧ (∀ F_31 : FS, F_31 = fsJ F 71 (Int32.toNatClampNeg 7) ((((fJ F 71 (Int32.toNatClampNeg 7))) + 1)) → (K 1 F_31))))) := by
    refine ⟨h7, ⟨fun y => ⟨h7, fun F29 e29 => ?_⟩, fun y => ⟨h7, fun F31 e31 => ?_⟩⟩⟩
    · rw [Int64.add_zero, fsJ_self rfl] at e29
      rw [e29]
      exact h0 (by have := (nI_leI (b := 2) (by omega) (by decide)).mp y; omega)
    · rw [e31]
      exact h1 (fun q => y (nI_le (b := 2) (by omega) (by decide)))
  have key : ∀ m j, L ≤ j + m → j ≤ L → wfb_M_pay_403 K (m + 1) F (nI k) p (nI (cB F k p j)) (nI (300 * k + j)) := by
    intro m
    induction m with
    | zero =>
      intro j a1 a2
      have e : j = L := by omega
      subst e
      unfold wfb_M_pay_403
      rw [hck, e58, e300, nI_add]
      exact ⟨hk8, ⟨fun _ => fin, fun z => absurd (nI_le (Nat.le_refl _) (by omega)) z⟩⟩
    | succ m ih =>
      intro j a1 a2
      unfold wfb_M_pay_403
      rw [hck, e58, e300, nI_add]
      refine ⟨hk8, ⟨fun z => ?_, fun z => ?_⟩⟩
      · have e : j = L := by have := (nI_leI (a := 300 * k + L) (b := 300 * k + j) (by omega) (by omega)).mp z; omega
        subst e
        exact fin
      · have hj : j < L := by
          rcases Nat.lt_or_ge j L with q | q
          · exact q
          · exact absurd (nI_le (a := 300 * k + L) (b := 300 * k + j) (by omega) (by omega)) z
        have ih1 := ih (j + 1) (by omega) (by omega)
        have eC : cB F k p (j + 1) = cB F k p j + (if fI F 59 (300 * k + j) = p then 1 else 0) := rfl
        rw [nI_clamp (by omega)]
        refine ⟨vp_in_nI (N := 2400) (by omega) (by decide), ⟨fun y x ex x2 ex2 => ?_, fun y x ex x2 ex2 => ?_⟩⟩
        · rw [eC, if_neg y] at ih1
          rw [ex, ex2, Int32.add_zero, nI_1]
          exact ih1
        · rw [eC, if_pos y] at ih1
          rw [ex, ex2, nI_1, nI_1]
          exact ih1
  exact ⟨L + 1, key L 0 (by omega) (by omega)⟩
theorem m_344 {F : FS} {k L : Nat} {p : Int32} {d s b : Int64} (hk : k < 8) (hL : L < 300) {K : Int32 → FS → Prop} (h0 : cB (knG F k d (b + s) L p) k p (L + 1) < 3 → K 1 (knG F k d (b + s) L p)) (h1 : ¬ cB (knG F k d (b + s) L p) k p (L + 1) < 3 → K 1 (fsJ (knG F k d (b + s) L p) 71 7 (fJ F 71 7 + 1))) : wfb_M_pay_344 K F (nI k) p d s b (nI L) (nI k) := by
  have hk8 : vp_in (nI k) 8 := vp_in_nI hk (by decide)
  have hck : (nI k).toNatClampNeg = k := nI_clamp (by omega)
  have e300 : 300 * nI k = nI (300 * k) := pk_mul 300 k
  unfold wfb_M_pay_344
  rw [hck]
  refine ⟨hk8, fun F19 e19 => ⟨hk8, fun F21 e21 => ⟨hk8, fun F23 e23 => ?_⟩⟩⟩
  have g23 : fI F23 58 k = nI L := by rw [e23, i_sJ, e21, i_sJ, e19, i_sI, if_pos ⟨rfl, rfl⟩]
  rw [g23, e300, nI_add, nI_clamp (by omega)]
  refine ⟨hk8, vp_in_nI (N := 2400) (by omega) (by decide), fun F25 e25 => ?_⟩
  have g25 : fI F25 58 k = nI L := by rw [e25, i_sI, if_neg (fun z => absurd z.1 (by decide))]; exact g23
  rw [g25]
  refine ⟨hk8, hk8, fun F27 e27 x ex => ?_⟩
  have e28 : F27 = knG F k d (b + s) L p := by rw [e27, e25, e23, e21, e19]; rfl
  rw [e28, ex]
  have g71 : fJ (knG F k d (b + s) L p) 71 7 = fJ F 71 7 := rfl
  exact m_alike hk (L := L + 1) (by omega) (knG_g F k d (b + s) L p).2.2.1 h0 (by rw [g71]; exact h1)
theorem m_232 {F : FS} {n i k : Nat} {d : Int64} (hR : OFR F) (hn : n ≤ 300) (hi : i < n) (hk : k < 8) {L : Nat} (hL : L < 300) (eL : l0F F k d = nI L) {K : Int32 → FS → Prop} (k4 : told F k 4 → K (-108) (f6 (clrF F k 4))) (kp : ¬ told F k 4 → fJ F 52 k < sumF F (i + 1) → K (-107) F) (k5 : ¬ told F k 4 → ¬ fJ F 52 k < sumF F (i + 1) → told F k 5 → K (-108) (f6 (clrF F k 5))) (kd : ¬ told F k 4 → ¬ fJ F 52 k < sumF F (i + 1) → ¬ told F k 5 → K 1 (paidF F k i d)) : wfb_M_pay_232 K F (nI k) (fI F 45 (i + 1)) (nI (i + 1)) d (sumF F (i + 1)) (b0F F k d) := by
  have hk8 : vp_in (nI k) 8 := vp_in_nI hk (by decide)
  have hck : (nI k).toNatClampNeg = k := nI_clamp (by omega)
  have hin : vp_in (nI (i + 1)) 301 := vp_in_nI (by omega) (by decide)
  have hci : (nI (i + 1)).toNatClampNeg = i + 1 := nI_clamp (by omega)
  have h1 : vp_in 1 9 := vp_in_nI (n := 1) (N := 9) (by decide) (by decide)
  unfold wfb_M_pay_232
  rw [hck, hci]
  refine m_failsNow hR hk (s := 4) (by decide) (fun z => ⟨fun y => absurd y (by decide), fun _ => k4 z⟩) (fun z4 => ⟨fun _ => ⟨hk8, ⟨fun y => ?_, fun y => kp z4 (Int64.not_le.mp (fun q => y ((lg_cmp_ge _ _).mpr q)))⟩⟩, fun y => absurd rfl y⟩)
  have hc : ¬ fJ F 52 k < sumF F (i + 1) := Int64.not_lt.mpr ((lg_cmp_ge _ _).mp y)
  refine m_failsNow hR hk (s := 5) (by decide) (fun z => ⟨fun y => absurd y (by decide), fun _ => k5 z4 hc z⟩) (fun z5 => ⟨fun _ => ⟨hk8, hk8, fun F9 e9 => ⟨h1, h1, fun F11 e11 => ⟨hin, fun F13 e13 => ⟨hin, fun F15 e15 => ⟨hin, fun F17 e17 => ⟨hk8, ?_⟩⟩⟩⟩⟩⟩, fun y => absurd rfl y⟩)
  have kd := kd z4 hc z5
  have g9 : fJ F9 71 (Int32.toNatClampNeg 1) = fJ F 71 1 := by rw [e9]; rfl
  rw [g9] at e11
  have e18 : F17 = wm0 F k i := by rw [e17, e15, e13, e11, e9]; rfl
  rw [e18]
  unfold paidF wmF at kd
  rw [eL, nI_clamp (by omega)] at kd
  have gf : wfb_M_pay_344 K (wm0 F k i) (nI k) (fI F 45 (i + 1)) d (sumF F (i + 1)) (b0F F k d) (nI L) (nI k) := m_344 hk hL (fun q => by rw [if_pos q] at kd; exact kd) (fun q => by rw [if_neg q] at kd; exact kd)
  have g56 : fJ (wm0 F k i) 56 k = fJ F 56 k := rfl
  have g58 : fI (wm0 F k i) 58 k = fI F 58 k := rfl
  rw [g56, g58]
  unfold l0F at eL
  refine ⟨fun q => ?_, fun q => ⟨hk8, ?_⟩⟩
  · rw [if_neg (fun u => q ((lg_cmp_eq _ _).mpr u))] at eL
    rw [eL]
    exact gf
  · rw [if_pos ((lg_cmp_eq _ _).mp q)] at eL
    rw [eL]
    exact gf
theorem m_go {F : FS} {n i k : Nat} {pr : Int32} {t : Int64} (hR : OFR F) (hn : n ≤ 300) (hi : i < n) (hk : k < 8) {G : GX} {σ : ST} (hO : OR1 G F σ i) {L : Nat} (hL : L < 300) (eL : l0F F k (t / 86400) = nI L) {K : Int32 → FS → Prop} (hK : K (payR F k i pr (t / 86400)).1 (payR F k i pr (t / 86400)).2) : wfb_M_pay_112 K F (nI k) pr t (nI (i + 1)) := by
  have hk8 : vp_in (nI k) 8 := vp_in_nI hk (by decide)
  have hck : (nI k).toNatClampNeg = k := nI_clamp (by omega)
  have hin : vp_in (nI (i + 1)) 301 := vp_in_nI (by omega) (by decide)
  have hci : (nI (i + 1)).toNatClampNeg = i + 1 := nI_clamp (by omega)
  unfold payR at hK
  unfold wfb_M_pay_112
  rw [hck, hci]
  refine m_failsNow hR hk (s := 1) (by decide) (fun z => ⟨fun y => absurd y (by decide), fun _ => by rw [if_pos z] at hK; exact hK⟩) (fun z1 => ⟨fun _ => ?_, fun y => absurd rfl y⟩)
  rw [if_neg z1] at hK
  refine m_failsNow hR hk (s := 2) (by decide) (fun z => ⟨fun y => absurd y (by decide), fun _ => by rw [if_pos z] at hK; exact hK⟩) (fun z2 => ⟨fun _ => ⟨hin, ⟨fun ep => ?_, fun ep => by rw [if_neg z2, if_pos ep] at hK; exact hK⟩⟩, fun y => absurd rfl y⟩)
  rw [if_neg z2, if_neg (fun q => q ep)] at hK
  subst ep
  refine m_failsNow hR hk (s := 3) (by decide) (fun z => ⟨fun y => absurd y (by decide), fun _ => by rw [if_pos z] at hK; exact hK⟩) (fun z3 => ⟨fun _ x ex => m_sumOf (by omega) hO ⟨hk8, ?_⟩, fun y => absurd rfl y⟩)
  rw [if_neg z3] at hK
  rw [ex]
  have B : wfb_M_pay_201 K F (nI k) (fI F 45 (i + 1)) (nI (i + 1)) (t / 86400) (sumF F (i + 1)) (b0F F k (t / 86400)) := by
    have Y : limP F k i (t / 86400) → wfb_M_pay_232 K F (nI k) (fI F 45 (i + 1)) (nI (i + 1)) (t / 86400) (sumF F (i + 1)) (b0F F k (t / 86400)) := fun q => by
      rw [if_neg (fun u => u q)] at hK
      exact m_232 hR hn hi hk hL eL (fun a => by rw [if_pos a] at hK; exact hK) (fun a b => by rw [if_neg a, if_pos b] at hK; exact hK) (fun a b e => by rw [if_neg a, if_neg b, if_pos e] at hK; exact hK) (fun a b e => by rw [if_neg a, if_neg b, if_neg e] at hK; exact hK)
    unfold wfb_M_pay_201
    rw [hck]
    refine ⟨hk8, ⟨fun q => Y (Or.inl ?_), fun q => ⟨hk8, ⟨fun u => Y (Or.inr ((lg_cmp_le _ _).mp u)), fun u => ?_⟩⟩⟩⟩
    · have a1 := (lg_cmp_lt _ _).mp q
      have a2 := (hR k hk).2.1
      rw [Int64.lt_iff_toInt_lt] at a1
      rw [Int64.le_iff_toInt_le] at a2
      have a3 : (0 : Int64).toInt = 0 := by decide
      have a4 : (-1 : Int64).toInt = -1 := by decide
      exact Int64.toInt_inj.mp (by omega)
    · rw [if_pos (fun w => w.elim (fun w => q ((lg_cmp_lt _ _).mpr (by rw [w]; decide))) (fun w => u ((lg_cmp_le _ _).mpr w)))] at hK
      exact hK
  unfold b0F at B
  refine ⟨fun q => ?_, fun q => ⟨hk8, ?_⟩⟩
  · rw [if_neg (fun u => q ((lg_cmp_eq _ _).mpr u))] at B
    exact B
  · rw [if_pos ((lg_cmp_eq _ _).mp q)] at B
    exact B
