/-! THE REFERENCE AS FUNCTIONS: FS holds its numbers by field (fN), its arrays by field and place (fI, fJ) -/
abbrev FS : Type := (Nat → Int32) × (Nat → Nat → Int32) × (Nat → Nat → Int64)
def fN (F : FS) : Nat → Int32 := F.1
def fI (F : FS) : Nat → Nat → Int32 := F.2.1
def fJ (F : FS) : Nat → Nat → Int64 := F.2.2
def fsN (F : FS) (k : Nat) (v : Int32) : FS := (fun j => if j = k then v else fN F j, fI F, fJ F)
def fsI (F : FS) (j i : Nat) (v : Int32) : FS := (fN F, fun g b => if g = j ∧ b = i then v else fI F g b, fJ F)
def fsJ (F : FS) (j i : Nat) (v : Int64) : FS := (fN F, fI F, fun g b => if g = j ∧ b = i then v else fJ F g b)
theorem n_sN (F : FS) (k : Nat) (v : Int32) (j : Nat) : fN (fsN F k v) j = if j = k then v else fN F j := rfl
theorem n_sI (F : FS) (j i : Nat) (v : Int32) : fN (fsI F j i v) = fN F := rfl
theorem n_sJ (F : FS) (j i : Nat) (v : Int64) : fN (fsJ F j i v) = fN F := rfl
theorem i_sN (F : FS) (k : Nat) (v : Int32) : fI (fsN F k v) = fI F := rfl
theorem i_sI (F : FS) (j i : Nat) (v : Int32) (g b : Nat) : fI (fsI F j i v) g b = if g = j ∧ b = i then v else fI F g b := rfl
theorem i_sJ (F : FS) (j i : Nat) (v : Int64) : fI (fsJ F j i v) = fI F := rfl
theorem j_sN (F : FS) (k : Nat) (v : Int32) : fJ (fsN F k v) = fJ F := rfl
theorem j_sI (F : FS) (j i : Nat) (v : Int32) : fJ (fsI F j i v) = fJ F := rfl
theorem j_sJ (F : FS) (j i : Nat) (v : Int64) (g b : Nat) : fJ (fsJ F j i v) g b = if g = j ∧ b = i then v else fJ F g b := rfl
/-- the reference's arrays: which fields, of what kind, how long -/
def isA (j : Nat) : Bool := decide (41 ≤ j ∧ j ≤ 71 ∧ j ≠ 60 ∧ j ≠ 61 ∧ j ≠ 67)
def isS (j : Nat) : Bool := decide (j = 40 ∨ j = 60 ∨ j = 61 ∨ j = 67)
def tagA (j : Nat) : Nat := if j = 50 ∨ j = 54 then 303 else if j = 42 ∨ j = 43 ∨ j = 49 ∨ j = 51 ∨ j = 52 ∨ j = 53 ∨ j = 56 ∨ j = 57 ∨ j = 63 ∨ j = 65 ∨ j = 69 ∨ j = 71 then 302 else 301
def lnA (j : Nat) : Nat := if j ≤ 50 then 301 else if j = 51 then 4 else if j ≤ 58 then 8 else if j = 59 then 2400 else if j ≤ 66 then 128 else if j ≤ 70 then 100 else 9
def RM (σ : ST) (am : Nat) (ma : Nat → Nat) (F : FS) : Prop :=
  st_tg σ am = some 1 ∧ (∀ j, isA j = true → st_R σ j am = some (ma j) ∧ st_tg σ (ma j) = some (tagA j) ∧ st_ln σ (ma j) = lnA j) ∧ (∀ i j, isA i = true → isA j = true → ma i = ma j → i = j) ∧ (∀ j, isA j = true → st_eI σ (ma j) = fI F j ∧ st_eJ σ (ma j) = fJ F j) ∧ ∀ j, isS j = true → st_I σ j am = fN F j
/-- what the reference's calls leave as it was -/
def FrM (am : Nat) (ma : Nat → Nat) (σ0 σ : ST) : Prop :=
  st_tg σ = st_tg σ0 ∧ st_ln σ = st_ln σ0 ∧ st_R σ = st_R σ0 ∧ st_J σ = st_J σ0 ∧ st_eR σ = st_eR σ0 ∧ (∀ f a, isS f = false → st_I σ f a = st_I σ0 f a) ∧ ∀ a, (∀ j, isA j = true → a ≠ ma j) → st_eI σ a = st_eI σ0 a ∧ st_eJ σ a = st_eJ σ0 a
theorem FrM.rf {am : Nat} {ma : Nat → Nat} {σ : ST} : FrM am ma σ σ := ⟨rfl, rfl, rfl, rfl, rfl, fun _ _ _ => rfl, fun _ _ => ⟨rfl, rfl⟩⟩
def RMF (σ0 σ : ST) (am : Nat) (ma : Nat → Nat) (F : FS) : Prop := RM σ am ma F ∧ FrM am ma σ0 σ
section RMFS
variable {σ0 σ : ST} {am : Nat} {ma : Nat → Nat} {F : FS}
theorem RMF.r (h : RMF σ0 σ am ma F) (j : Nat) (hj : isA j = true) : st_R σ j am = some (ma j) := (h.1.2.1 j hj).1
theorem RMF.t (h : RMF σ0 σ am ma F) (j : Nat) (hj : isA j = true) : st_tg σ (ma j) = some (tagA j) := (h.1.2.1 j hj).2.1
theorem RMF.l (h : RMF σ0 σ am ma F) (j : Nat) (hj : isA j = true) : st_ln σ (ma j) = lnA j := (h.1.2.1 j hj).2.2
theorem RMF.eI (h : RMF σ0 σ am ma F) (j : Nat) (hj : isA j = true) : st_eI σ (ma j) = fI F j := (h.1.2.2.2.1 j hj).1
theorem RMF.eJ (h : RMF σ0 σ am ma F) (j : Nat) (hj : isA j = true) : st_eJ σ (ma j) = fJ F j := (h.1.2.2.2.1 j hj).2
theorem RMF.n (h : RMF σ0 σ am ma F) (j : Nat) (hj : isS j = true) : st_I σ j am = fN F j := h.1.2.2.2.2 j hj
theorem RMF.sN (h : RMF σ0 σ am ma F) (k : Nat) (hk : isS k = true) (v : Int32) : RMF σ0 (st_sI σ k am v) am ma (fsN F k v) := by
  obtain ⟨⟨h1, h2, h3, h4, h5⟩, f1, f2, f3, f4, f5, f6, f7⟩ := h
  refine ⟨⟨h1, h2, h3, h4, fun j hj => ?_⟩, f1, f2, f3, f4, f5, fun f a hf => ?_, f7⟩
  · rw [g_I_sI, n_sN, h5 j hj]
    by_cases z : j = k
    · rw [if_pos ⟨z, rfl⟩, if_pos z]
    · rw [if_neg (fun q => z q.1), if_neg z]
  · rw [g_I_sI, if_neg (fun q => by rw [q.1, hk] at hf; cases hf)]
    exact f6 f a hf
theorem RMF.uI (h : RMF σ0 σ am ma F) (j : Nat) (hj : isA j = true) (i : Nat) (v : Int32) : RMF σ0 (st_uI σ (ma j) i v) am ma (fsI F j i v) := by
  obtain ⟨⟨h1, h2, h3, h4, h5⟩, f1, f2, f3, f4, f5, f6, f7⟩ := h
  refine ⟨⟨h1, h2, h3, fun k hk => ⟨?_, (h4 k hk).2⟩, h5⟩, f1, f2, f3, f4, f5, f6, fun a ha => ⟨?_, (f7 a ha).2⟩⟩
  · funext b
    rw [g_eI_uI, i_sI, (h4 k hk).1]
    by_cases z : k = j
    · subst z
      by_cases y : b = i
      · rw [if_pos ⟨rfl, y⟩, if_pos ⟨rfl, y⟩]
      · rw [if_neg (fun q => y q.2), if_neg (fun q => y q.2)]
    · rw [if_neg (fun q => z (h3 k j hk hj q.1)), if_neg (fun q => z q.1)]
  · funext b
    rw [g_eI_uI, if_neg (fun q => ha j hj q.1), (f7 a ha).1]
theorem RMF.uJ (h : RMF σ0 σ am ma F) (j : Nat) (hj : isA j = true) (i : Nat) (v : Int64) : RMF σ0 (st_uJ σ (ma j) i v) am ma (fsJ F j i v) := by
  obtain ⟨⟨h1, h2, h3, h4, h5⟩, f1, f2, f3, f4, f5, f6, f7⟩ := h
  refine ⟨⟨h1, h2, h3, fun k hk => ⟨(h4 k hk).1, ?_⟩, h5⟩, f1, f2, f3, f4, f5, f6, fun a ha => ⟨(f7 a ha).1, ?_⟩⟩
  · funext b
    rw [g_eJ_uJ, j_sJ, (h4 k hk).2]
    by_cases z : k = j
    · subst z
      by_cases y : b = i
      · rw [if_pos ⟨rfl, y⟩, if_pos ⟨rfl, y⟩]
      · rw [if_neg (fun q => y q.2), if_neg (fun q => y q.2)]
    · rw [if_neg (fun q => z (h3 k j hk hj q.1)), if_neg (fun q => z q.1)]
  · funext b
    rw [g_eJ_uJ, if_neg (fun q => ha j hj q.1), (f7 a ha).2]
end RMFS

