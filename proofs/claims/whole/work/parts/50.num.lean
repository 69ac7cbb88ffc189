/-! NUMBERS: the n-th order's number, as both sides make it -/
def dgN (n : Nat) : Nat := (2 * (n % 10) + 3 * (n / 10 % 10) + 4 * (n / 100 % 10)) % 10
def nfN (n : Nat) : Nat := 10 * n + dgN n
theorem nfN_div (n : Nat) : nfN n / 10 = n := by unfold nfN dgN; omega
theorem nfN_lt {n : Nat} (h : n < 302) : nfN n < 3030 := by unfold nfN dgN; omega
theorem nfN_inj {a b : Nat} (h : nfN a = nfN b) : a = b := by
  have h1 := nfN_div a
  rw [h, nfN_div] at h1
  exact h1.symm
def nxF : Nat → Int32 → Int32 → Int32 → Int32 → Option Int32
  | 0, _, _, _, _ => none
  | k + 1, v0, v1, v2, v3 => if 10 ≤ v3 then some (10 * v0 + (v1 - v1 / 10 * 10)) else nxF k v0 (v1 + (v2 - v2 / 10 * 10) * (2 + (v3 - v3 / 6 * 6))) (v2 / 10) (v3 + 1)
theorem nxF_wp {K : Int32 → ST → Prop} {σ : ST} : ∀ (k : Nat) (v0 v1 v2 v3 r : Int32), nxF k v0 v1 v2 v3 = some r → K r σ → wb_X_numberOf_6 K k σ v0 v1 v2 v3 := by
  intro k
  induction k with
  | zero => intro v0 v1 v2 v3 r h; cases h
  | succ k ih =>
    intro v0 v1 v2 v3 r h hk
    unfold nxF at h
    unfold wb_X_numberOf_6
    refine ⟨fun c => ?_, fun c => ?_⟩
    · rw [if_pos c] at h; cases h; exact hk
    · rw [if_neg c] at h
      intro x1 e1 x2 e2 x3 e3
      subst e1; subst e2; subst e3
      exact ih _ _ _ _ _ h hk
theorem nxF_ok : ∀ n, n < 302 → nxF 11 (nI n) 0 (nI n) 0 = some (nI (nfN n)) := by decide +kernel
theorem x_numberOf {σ : ST} {n : Nat} {K : Int32 → ST → Prop} (h : n < 302) (hk : K (nI (nfN n)) σ) : wp_X_numberOf σ (nI n) K := ⟨11, nxF_wp 11 _ _ _ _ _ (nxF_ok n h) hk⟩
def nmF : Nat → Int32 → Int32 → Int32 → Int32 → Option Int32
  | 0, _, _, _, _ => none
  | k + 1, v0, v1, v2, v3 => if v3 ≤ 0 then some (10 * v0 + (v1 - v1 / 10 * 10)) else if v2 = 7 then nmF k v0 (v1 + (v3 - v3 / 10 * 10) * v2) 2 (v3 / 10) else nmF k v0 (v1 + (v3 - v3 / 10 * 10) * v2) (v2 + 1) (v3 / 10)
theorem nmF_wf {K : Int32 → FS → Prop} {F : FS} : ∀ (k : Nat) (v0 v1 v2 v3 r : Int32), nmF k v0 v1 v2 v3 = some r → K r F → wfb_M_numberOf_6 K k F v0 v1 v2 v3 := by
  intro k
  induction k with
  | zero => intro v0 v1 v2 v3 r h; cases h
  | succ k ih =>
    intro v0 v1 v2 v3 r h hk
    unfold nmF at h
    unfold wfb_M_numberOf_6
    refine ⟨fun c => ?_, fun c => ?_⟩
    · rw [if_pos c] at h; cases h; exact hk
    · rw [if_neg c] at h
      intro x1 e1
      subst e1
      refine ⟨fun c2 => ?_, fun c2 => ?_⟩
      · rw [if_neg c2] at h
        intro x2 e2 x3 e3
        subst e2; subst e3
        exact ih _ _ _ _ _ h hk
      · rw [if_pos c2] at h
        intro x3 e3
        subst e3
        exact ih _ _ _ _ _ h hk
theorem nmF_ok : ∀ n, n < 302 → nmF 5 (nI n) 0 2 (nI n) = some (nI (nfN n)) := by decide +kernel
theorem m_numberOf {F : FS} {n : Nat} {K : Int32 → FS → Prop} (h : n < 302) (hk : K (nI (nfN n)) F) : wf_M_numberOf F (nI n) K := ⟨5, nmF_wf 5 _ _ _ _ _ (nmF_ok n h) hk⟩

