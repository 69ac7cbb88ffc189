/-! THE RELATION between the class's objects in σ and the reference's numbers F. G: where things lie: G 0 f the array in field f of the class's object; G 1 k office k; G 2 k currency k; G 3 i order i (from 0); G 4 t try t; G 5 j the reference's array j; G 6 0 the class's object, G 6 1 the reference; G 7 0: 1 while serve pays (the class has counted the try already), else 0. -/
abbrev GX : Type := Nat → Nat → Nat
def SX (G : GX) (σ : ST) : Prop :=
  (st_tg σ (G 6 0) = some 0 ∧ st_R σ 0 (G 6 0) = some (G 0 0) ∧ st_R σ 1 (G 6 0) = some (G 0 1) ∧ st_R σ 2 (G 6 0) = some (G 0 2) ∧ st_R σ 4 (G 6 0) = some (G 0 4) ∧ st_R σ 7 (G 6 0) = some (G 0 7) ∧ st_R σ 9 (G 6 0) = some (G 0 9)) ∧
  ((st_tg σ (G 0 0) = some 314 ∧ st_ln σ (G 0 0) = 8) ∧ (st_tg σ (G 0 1) = some 313 ∧ st_ln σ (G 0 1) = 4) ∧ (st_tg σ (G 0 2) = some 315 ∧ st_ln σ (G 0 2) = 300) ∧ (st_tg σ (G 0 4) = some 316 ∧ st_ln σ (G 0 4) = 100) ∧ (st_tg σ (G 0 7) = some 312 ∧ st_ln σ (G 0 7) = 100) ∧ st_tg σ (G 0 9) = some 302 ∧ st_ln σ (G 0 9) = 9) ∧
  (∀ k, k < 8 → st_eR σ (G 0 0) k = some (G 1 k) ∧ st_tg σ (G 1 k) = some 4 ∧ st_I σ 160 (G 1 k) = nI k) ∧
  (∀ k, k < 4 → st_eR σ (G 0 1) k = some (G 2 k) ∧ st_tg σ (G 2 k) = some 3) ∧
  (∀ i j, i < 4 → j < 4 → G 2 i = G 2 j → i = j)
def OFF (G : GX) (F : FS) (σ : ST) : Prop := ∀ k, k < 8 → st_J σ 161 (G 1 k) = fJ F 52 k ∧ st_J σ 162 (G 1 k) = fJ F 53 k ∧ st_I σ 163 (G 1 k) = fI F 54 k ∧ st_I σ 165 (G 1 k) = fI F 55 k ∧ st_J σ 166 (G 1 k) = fJ F 56 k ∧ st_J σ 167 (G 1 k) = fJ F 57 k
def OFR (F : FS) : Prop := ∀ k, k < 8 → (fI F 54 k = 0 ∨ fI F 54 k = 1) ∧ -1 ≤ fJ F 53 k ∧ ∃ b, b < 64 ∧ fI F 55 k = nI b
def CUR (G : GX) (F : FS) (σ : ST) : Prop := ∀ k, k < 4 → st_J σ 120 (G 2 k) = fJ F 51 k
def lnk (G : GX) (x : Option Nat) (v : Int32) : Prop := (x = none ∧ v = -1) ∨ ∃ k, k < 8 ∧ x = some (G 1 k) ∧ v = nI k
def OR1 (G : GX) (F : FS) (σ : ST) (i : Nat) : Prop :=
  st_eR σ (G 0 2) i = some (G 3 i) ∧ st_tg σ (G 3 i) = some 5 ∧ st_I σ 200 (G 3 i) = nI (nfN (i + 1)) ∧ (∃ h, h < 8 ∧ st_R σ 201 (G 3 i) = some (G 1 h) ∧ fI F 46 (i + 1) = nI h) ∧ st_J σ 202 (G 3 i) = fJ F 42 (i + 1) ∧ st_J σ 203 (G 3 i) = fJ F 43 (i + 1) ∧ (∃ c, c < 4 ∧ st_R σ 204 (G 3 i) = some (G 2 c) ∧ fI F 44 (i + 1) = nI c) ∧ st_I σ 205 (G 3 i) = fI F 45 (i + 1) ∧ st_I σ 206 (G 3 i) = fI F 41 (i + 1) ∧ st_J σ 207 (G 3 i) = (if fI F 50 (i + 1) = 0 then -1 else fJ F 49 (i + 1)) ∧ lnk G (st_R σ 208 (G 3 i)) (fI F 48 (i + 1)) ∧ lnk G (st_R σ 209 (G 3 i)) (fI F 47 (i + 1))
def ORD (G : GX) (F : FS) (n : Nat) (σ : ST) : Prop := (∀ i, i < n → OR1 G F σ i) ∧ (∀ i j, i < n → j < n → G 3 i = G 3 j → i = j)
/-- the orders' count, and what the reference holds of its own rows -/
def NUM (G : GX) (F : FS) (n : Nat) (σ : ST) : Prop := n ≤ 300 ∧ fN F 40 = nI n ∧ st_I σ 3 (G 6 0) = nI n ∧ ∀ i, n < i → fI F 50 i = 0
def cntL (F : FS) (k : Nat) : Nat → Nat
  | 0 => 0
  | i + 1 => cntL F k i + (if fI F 48 (i + 1) = nI k then 1 else 0)
def LST (G : GX) (F : FS) (n : Nat) (σ : ST) : Prop := ∀ k, k < 8 → st_I σ 164 (G 1 k) = nI (cntL F k n) ∧ cntL F k n ≤ 8
def cntP (F : FS) : Nat → Nat
  | 0 => 0
  | i + 1 => cntP F i + (if fI F 41 (i + 1) = 1 then 1 else 0)
/-- the payments of an office's known day, the latest first -/
def chn (G : GX) (σ : ST) : List Nat → Option Nat → Prop
  | [], x => x = none
  | i :: t, x => x = some (G 3 i) ∧ chn G σ t (st_R σ 210 (G 3 i))
def prf (F : FS) (k : Nat) : List Nat → Prop
  | [] => True
  | i :: t => fI F 59 (300 * k + t.length) = fI F 45 (i + 1) ∧ prf F k t
def CHN (G : GX) (F : FS) (n : Nat) (σ : ST) : Prop := ∀ k, k < 8 → ∃ ch : List Nat, chn G σ ch (st_R σ 168 (G 1 k)) ∧ fI F 58 k = nI ch.length ∧ prf F k ch ∧ (∀ i, i ∈ ch → i < n ∧ fI F 41 (i + 1) = 1) ∧ ch.length ≤ cntP F n
def TR1 (G : GX) (F : FS) (v : Nat) (σ : ST) (t : Nat) : Prop :=
  st_eR σ (G 0 4) (t % 100) = some (G 4 t) ∧ st_tg σ (G 4 t) = some 6 ∧ st_I σ 240 (G 4 t) = fI F 62 (t % 128) ∧ st_J σ 241 (G 4 t) = fJ F 63 (t % 128) ∧ st_I σ 242 (G 4 t) = fI F 64 (t % 128) ∧ st_J σ 243 (G 4 t) = fJ F 65 (t % 128) ∧ st_I σ 244 (G 4 t) = (if t < v then fI F 66 (t % 128) else -1)
def TRS (G : GX) (F : FS) (c a v : Nat) (σ : ST) : Prop :=
  fN F 60 = nI a ∧ st_I σ 5 (G 6 0) = nI a ∧ fN F 61 = nI v ∧ st_I σ 6 (G 6 0) = nI (v + G 7 0) ∧ v ≤ a ∧ a ≤ v + 20 ∧ a ≤ c ∧ (∀ t, t < a → a ≤ t + 100 → TR1 G F v σ t) ∧ (∀ i j, i < a → j < a → a ≤ i + 100 → a ≤ j + 100 → G 4 i = G 4 j → i = j)
def CO1 (G : GX) (F : FS) (σ : ST) (i : Nat) : Prop := ∃ z, st_eR σ (G 0 7) i = some z ∧ st_tg σ z = some 2 ∧ (∃ h, h < 8 ∧ st_R σ 80 z = some (G 1 h) ∧ fI F 68 i = nI h) ∧ st_J σ 81 z = fJ F 69 i ∧ st_I σ 82 z = fI F 70 i
def COL (G : GX) (F : FS) (w : Nat) (σ : ST) : Prop := w ≤ 100 ∧ fN F 67 = nI w ∧ st_I σ 8 (G 6 0) = nI w ∧ ∀ i, i < w → CO1 G F σ i
def TOT (G : GX) (F : FS) (σ : ST) : Prop := ∀ j, j < 9 → st_eJ σ (G 0 9) j = fJ F 71 j
def RX (G : GX) (c : Nat) (F : FS) (σ : ST) : Prop := SX G σ ∧ OFF G F σ ∧ OFR F ∧ CUR G F σ ∧ TOT G F σ ∧ (∃ n, NUM G F n σ ∧ ORD G F n σ ∧ LST G F n σ ∧ CHN G F n σ) ∧ (∃ a v, TRS G F c a v σ) ∧ ∃ w, COL G F w σ
theorem SX.oinj {G : GX} {σ : ST} (h : SX G σ) {i j : Nat} (hi : i < 8) (hj : j < 8) (e : G 1 i = G 1 j) : i = j := by
  have h1 := (h.2.2.1 i hi).2.2
  rw [e, (h.2.2.1 j hj).2.2] at h1
  exact ((nI_eq (by omega) (by omega)).mp h1).symm
/-! the class's looking up -/
theorem x_officeAt {G : GX} {σ : ST} (h : SX G σ) {p : Int32} {K : Option Nat → ST → Prop} (h0 : ∀ k, k < 8 → p = nI k → K (some (G 1 k)) σ) (h1 : (p < 0 ∨ nI 8 ≤ p) → K none σ) : wp_X_officeAt σ (G 6 0) p K := by
  unfold wp_X_officeAt
  refine ⟨fun c => h1 (Or.inl c), fun c => ⟨fun c2 => ?_, fun c2 => h1 (Or.inr (Int32.not_lt.mp c2))⟩⟩
  rcases pk_ix p (n := 8) (by decide) with q | q | ⟨k, hk, rfl⟩
  · exact absurd q c
  · exact absurd c2 (Int32.not_lt.mpr q)
  · refine ⟨h.1.1, G 0 0, h.1.2.1, h.2.1.1.1, by rw [h.2.1.1.2]; exact vp_in_nI hk (by decide), ?_⟩
    rw [nI_clamp (by omega), (h.2.2.1 k hk).1]
    exact h0 k hk rfl
theorem x_currencyAt {G : GX} {σ : ST} (h : SX G σ) {p : Int32} {K : Option Nat → ST → Prop} (h0 : ∀ k, k < 4 → p = nI k → K (some (G 2 k)) σ) (h1 : (p < 0 ∨ nI 4 ≤ p) → K none σ) : wp_X_currencyAt σ (G 6 0) p K := by
  unfold wp_X_currencyAt
  refine ⟨fun c => h1 (Or.inl c), fun c => ⟨fun c2 => ?_, fun c2 => h1 (Or.inr (Int32.not_lt.mp c2))⟩⟩
  rcases pk_ix p (n := 4) (by decide) with q | q | ⟨k, hk, rfl⟩
  · exact absurd q c
  · exact absurd c2 (Int32.not_lt.mpr q)
  · refine ⟨h.1.1, G 0 1, h.1.2.2.1, h.2.1.2.1.1, by rw [h.2.1.2.1.2]; exact vp_in_nI hk (by decide), ?_⟩
    rw [nI_clamp (by omega), (h.2.2.2.1 k hk).1]
    exact h0 k hk rfl
