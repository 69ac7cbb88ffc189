/-! pay: what an office knows of its day -/
def knG (F : FS) (k : Nat) (d b : Int64) (L : Nat) (p : Int32) : FS := fsI (fsI (fsJ (fsJ (fsI F 58 k (nI L)) 56 k d) 57 k b) 59 (300 * k + L) p) 58 k (nI L + 1)
theorem knG_g (F : FS) (k : Nat) (d b : Int64) (L : Nat) (p : Int32) : fN (knG F k d b L p) = fN F ∧ (∀ j, ¬ j = 58 → ¬ j = 59 → fI (knG F k d b L p) j = fI F j) ∧ fI (knG F k d b L p) 58 k = nI (L + 1) ∧ (∀ j, ¬ j = k → fI (knG F k d b L p) 58 j = fI F 58 j) ∧ fI (knG F k d b L p) 59 (300 * k + L) = p ∧ (∀ j, ¬ j = 300 * k + L → fI (knG F k d b L p) 59 j = fI F 59 j) ∧ (∀ j, ¬ j = 56 → ¬ j = 57 → fJ (knG F k d b L p) j = fJ F j) ∧ fJ (knG F k d b L p) 56 k = d ∧ fJ (knG F k d b L p) 57 k = b ∧ (∀ j, ¬ j = k → fJ (knG F k d b L p) 56 j = fJ F 56 j ∧ fJ (knG F k d b L p) 57 j = fJ F 57 j) := by
  unfold knG
  refine ⟨rfl, fun j a1 a2 => ?_, ?_, fun j a1 => ?_, ?_, fun j a1 => ?_, fun j a1 a2 => ?_, ?_, ?_, fun j a1 => ⟨?_, ?_⟩⟩
  · funext x
    rw [i_sI, if_neg (fun z => a1 z.1), i_sI, if_neg (fun z => a2 z.1), i_sJ, i_sJ, i_sI, if_neg (fun z => a1 z.1)]
  · rw [i_sI, if_pos ⟨rfl, rfl⟩, nI_1]
  · rw [i_sI, if_neg (fun z => a1 z.2), i_sI, if_neg (fun z => absurd z.1 (by decide)), i_sJ, i_sJ, i_sI, if_neg (fun z => a1 z.2)]
  · rw [i_sI, if_neg (fun z => absurd z.1 (by decide)), i_sI, if_pos ⟨rfl, rfl⟩]
  · rw [i_sI, if_neg (fun z => absurd z.1 (by decide)), i_sI, if_neg (fun z => a1 z.2), i_sJ, i_sJ, i_sI, if_neg (fun z => absurd z.1 (by decide))]
  · funext x
    rw [j_sI, j_sI, j_sJ, if_neg (fun z => a2 z.1), j_sJ, if_neg (fun z => a1 z.1), j_sI]
  · rw [j_sI, j_sI, j_sJ, if_neg (fun z => absurd z.1 (by decide)), j_sJ, if_pos ⟨rfl, rfl⟩]
  · rw [j_sI, j_sI, j_sJ, if_pos ⟨rfl, rfl⟩]
  · rw [j_sI, j_sI, j_sJ, if_neg (fun z => absurd z.1 (by decide)), j_sJ, if_neg (fun z => a1 z.2), j_sI]
  · rw [j_sI, j_sI, j_sJ, if_neg (fun z => a1 z.2), j_sJ, if_neg (fun z => absurd z.1 (by decide)), j_sI]
def l0F (F : FS) (k : Nat) (d : Int64) : Int32 := if fJ F 56 k = d then fI F 58 k else 0
def b0F (F : FS) (k : Nat) (d : Int64) : Int64 := if fJ F 56 k = d then fJ F 57 k else 0
def knF (F : FS) (k i : Nat) (d : Int64) : FS := knG F k d (b0F F k d + sumF F (i + 1)) (l0F F k d).toNatClampNeg (fI F 45 (i + 1))
theorem x_know {G : GX} {c : Nat} {F : FS} {σ : ST} (h : RX G c F σ) {n i k : Nat} (hn : n ≤ 300) (hF : fN F 40 = nI n) (hi : i < n) (hk : k < 8) (hst : fI F 41 (i + 1) = 1) (h1c : CHN1 G F n σ i) {d : Int64} {K : ST → Prop} (hK : ∀ σ', RX G c (knF F k i d) σ' → FrX (G 0 9) σ σ' → K σ') : wp_Office_know σ (G 1 k) (some (G 3 i)) d K := by
  obtain ⟨hN, hO, hL, -⟩ := h.ods hn hF
  have hO1 := hO.1 i hi
  have ht4 := (h.1.2.2.1 k hk).2.1
  have hcn := cntP_le F n
  obtain ⟨-, -, -, -, e166, e167⟩ := h.2.1 k hk
  obtain ⟨ch, c1, c2, c3, c4, c5⟩ := h1c k hk
  unfold wp_Office_know
  refine ⟨ht4, ?_⟩
  rw [e166, e167]
  refine ⟨fun z => ⟨G 3 i, rfl, hO1.2.1, x_sum h.1 h.2.2.2.1 hO1 ⟨ht4, fun σ9 e9 => ⟨by rw [e9, g_tg_sJ]; exact hO1.2.1, fun σ13 e13 σ17 e17 => ?_⟩⟩⟩, fun z σ21 e21 σ24 e24 σ27 e27 => ⟨G 3 i, rfl, by rw [e27, g_tg_sR, e24, g_tg_sJ, e21, g_tg_sJ]; exact hO1.2.1, ?_⟩⟩
  · have ed : d = fJ F 56 k := (lg_cmp_eq _ _).mp z
    have el : l0F F k d = nI ch.length := by unfold l0F; rw [if_pos ed.symm]; exact c2
    have eb : b0F F k d = fJ F 57 k := by unfold b0F; rw [if_pos ed.symm]
    unfold knF at hK
    rw [el, eb, nI_clamp (by omega)] at hK
    have r9 : st_R σ9 = st_R σ := by rw [e9, g_R_sJ]
    rw [r9] at e13
    obtain ⟨g1, g2, g3, g4, g5, g6, g7, g8, g9, g10⟩ := knG_g F k d (fJ F 57 k + sumF F (i + 1)) ch.length (fI F 45 (i + 1))
    refine hK σ17 (RX.know h hn hF hi hk hst h1c c1 c3 c4 c5 ?_ ?_ ?_ ?_ ?_ ?_ ?_ ?_ ?_ ?_ ?_ ?_ ?_ ?_ g1 g2 g3 g4 g5 g6 g7 g8 g9 g10) ?_
    · rw [e17, g_tg_sR, e13, g_tg_sR, e9, g_tg_sJ]
    · rw [e17, g_ln_sR, e13, g_ln_sR, e9, g_ln_sJ]
    · rw [e17, g_I_sR, e13, g_I_sR, e9, g_I_sJ]
    · rw [e17, g_eR_sR, e13, g_eR_sR, e9, g_eR_sJ]
    · rw [e17, g_eJ_sR, e13, g_eJ_sR, e9, g_eJ_sJ]
    · intro f a1 a2
      funext a
      rw [e17, g_J_sR, e13, g_J_sR, e9, g_J_sJ, if_neg (fun y => a2 y.1)]
    · intro a ha
      exact ⟨by rw [e17, g_J_sR, e13, g_J_sR, e9, g_J_sJ, if_neg (fun y => ha y.2)], by rw [e17, g_J_sR, e13, g_J_sR, e9, g_J_sJ, if_neg (fun y => ha y.2)]⟩
    · rw [e17, g_J_sR, e13, g_J_sR, e9, g_J_sJ, if_neg (fun y => absurd y.1 (by decide)), e166, ed]
    · rw [e17, g_J_sR, e13, g_J_sR, e9, g_J_sJ, if_pos ⟨rfl, rfl⟩]
    · intro f a1 a2
      funext a
      rw [e17, g_R_sR, if_neg (fun y => a1 y.1), e13, g_R_sR, if_neg (fun y => a2 y.1), r9]
    · rw [e17, g_R_sR, if_pos ⟨rfl, rfl⟩]
    · intro a ha
      rw [e17, g_R_sR, if_neg (fun y => ha y.2), e13, g_R_sR, if_neg (fun y => absurd y.1 (by decide)), r9]
    · rw [e17, g_R_sR, if_neg (fun y => absurd y.1 (by decide)), e13, g_R_sR, if_pos ⟨rfl, rfl⟩]
    · intro a ha
      rw [e17, g_R_sR, if_neg (fun y => absurd y.1 (by decide)), e13, g_R_sR, if_neg (fun y => ha y.2), r9]
    · rw [e17, e13, e9]
      exact (FrX.sJ.tr (FrX.sR (by decide))).tr (FrX.sR (by decide))
  · have ed : ¬ fJ F 56 k = d := fun y => z ((lg_cmp_eq _ _).mpr y.symm)
    have el : l0F F k d = 0 := by unfold l0F; rw [if_neg ed]
    have eb : b0F F k d = 0 := by unfold b0F; rw [if_neg ed]
    unfold knF at hK
    rw [el, eb] at hK
    have t27 : st_tg σ27 = st_tg σ := by rw [e27, g_tg_sR, e24, g_tg_sJ, e21, g_tg_sJ]
    have j27 : st_J σ27 167 (G 1 k) = 0 := by rw [e27, g_J_sR, e24, g_J_sJ, if_pos ⟨rfl, rfl⟩]
    have s27 : ∀ {K2 : Int64 → ST → Prop}, K2 (sumF F (i + 1)) σ27 → wp_Order_sum σ27 (G 3 i) K2 := fun q => by
      obtain ⟨-, o2, -, -, o5, -, ⟨u, hu, ou, eu⟩, -⟩ := hO1
      unfold wp_Order_sum
      have r1 : st_R σ27 204 (G 3 i) = st_R σ 204 (G 3 i) := by rw [e27, g_R_sR, if_neg (fun y => absurd y.1 (by decide)), e24, g_R_sJ, e21, g_R_sJ]
      have r2 : st_J σ27 202 (G 3 i) = st_J σ 202 (G 3 i) := by rw [e27, g_J_sR, e24, g_J_sJ, if_neg (fun y => absurd y.1 (by decide)), e21, g_J_sJ, if_neg (fun y => absurd y.1 (by decide))]
      have r3 : st_J σ27 120 (G 2 u) = st_J σ 120 (G 2 u) := by rw [e27, g_J_sR, e24, g_J_sJ, if_neg (fun y => absurd y.1 (by decide)), e21, g_J_sJ, if_neg (fun y => absurd y.1 (by decide))]
      rw [t27, r1, r2]
      refine ⟨o2, G 2 u, ou, (h.1.2.2.2.1 u hu).2, ?_⟩
      rw [r3, o5, h.2.2.2.1 u hu]
      unfold sumF at q
      rw [eu, nI_clamp (by omega)] at q
      exact q
    refine s27 ⟨by rw [t27]; exact ht4, fun σ36 e36 => ⟨by rw [e36, g_tg_sJ, t27]; exact hO1.2.1, fun σ40 e40 σ44 e44 => ?_⟩⟩
    rw [j27] at e36
    have r36 : st_R σ36 168 (G 1 k) = none := by rw [e36, g_R_sJ, e27, g_R_sR, if_pos ⟨rfl, rfl⟩]
    rw [r36] at e40
    obtain ⟨g1, g2, g3, g4, g5, g6, g7, g8, g9, g10⟩ := knG_g F k d (0 + sumF F (i + 1)) 0 (fI F 45 (i + 1))
    refine hK σ44 (RX.know (ch := []) (x0 := none) h hn hF hi hk hst h1c rfl trivial (fun j hj => absurd hj (by simp)) (by show 0 + 1 ≤ cntP F n; omega) ?_ ?_ ?_ ?_ ?_ ?_ ?_ ?_ ?_ ?_ ?_ ?_ ?_ ?_ g1 g2 g3 g4 g5 g6 g7 g8 g9 g10) ?_
    · rw [e44, g_tg_sR, e40, g_tg_sR, e36, g_tg_sJ, t27]
    · rw [e44, g_ln_sR, e40, g_ln_sR, e36, g_ln_sJ, e27, g_ln_sR, e24, g_ln_sJ, e21, g_ln_sJ]
    · rw [e44, g_I_sR, e40, g_I_sR, e36, g_I_sJ, e27, g_I_sR, e24, g_I_sJ, e21, g_I_sJ]
    · rw [e44, g_eR_sR, e40, g_eR_sR, e36, g_eR_sJ, e27, g_eR_sR, e24, g_eR_sJ, e21, g_eR_sJ]
    · rw [e44, g_eJ_sR, e40, g_eJ_sR, e36, g_eJ_sJ, e27, g_eJ_sR, e24, g_eJ_sJ, e21, g_eJ_sJ]
    · intro f a1 a2
      funext a
      rw [e44, g_J_sR, e40, g_J_sR, e36, g_J_sJ, if_neg (fun y => a2 y.1), e27, g_J_sR, e24, g_J_sJ, if_neg (fun y => a2 y.1), e21, g_J_sJ, if_neg (fun y => a1 y.1)]
    · intro a ha
      exact ⟨by rw [e44, g_J_sR, e40, g_J_sR, e36, g_J_sJ, if_neg (fun y => ha y.2), e27, g_J_sR, e24, g_J_sJ, if_neg (fun y => ha y.2), e21, g_J_sJ, if_neg (fun y => ha y.2)], by rw [e44, g_J_sR, e40, g_J_sR, e36, g_J_sJ, if_neg (fun y => ha y.2), e27, g_J_sR, e24, g_J_sJ, if_neg (fun y => ha y.2), e21, g_J_sJ, if_neg (fun y => ha y.2)]⟩
    · rw [e44, g_J_sR, e40, g_J_sR, e36, g_J_sJ, if_neg (fun y => absurd y.1 (by decide)), e27, g_J_sR, e24, g_J_sJ, if_neg (fun y => absurd y.1 (by decide)), e21, g_J_sJ, if_pos ⟨rfl, rfl⟩]
    · rw [e44, g_J_sR, e40, g_J_sR, e36, g_J_sJ, if_pos ⟨rfl, rfl⟩]
    · intro f a1 a2
      funext a
      rw [e44, g_R_sR, if_neg (fun y => a1 y.1), e40, g_R_sR, if_neg (fun y => a2 y.1), e36, g_R_sJ, e27, g_R_sR, if_neg (fun y => a1 y.1), e24, g_R_sJ, e21, g_R_sJ]
    · rw [e44, g_R_sR, if_pos ⟨rfl, rfl⟩]
    · intro a ha
      rw [e44, g_R_sR, if_neg (fun y => ha y.2), e40, g_R_sR, if_neg (fun y => absurd y.1 (by decide)), e36, g_R_sJ, e27, g_R_sR, if_neg (fun y => ha y.2), e24, g_R_sJ, e21, g_R_sJ]
    · rw [e44, g_R_sR, if_neg (fun y => absurd y.1 (by decide)), e40, g_R_sR, if_pos ⟨rfl, rfl⟩]
    · intro a ha
      rw [e44, g_R_sR, if_neg (fun y => absurd y.1 (by decide)), e40, g_R_sR, if_neg (fun y => ha y.2), e36, g_R_sJ, e27, g_R_sR, if_neg (fun y => absurd y.1 (by decide)), e24, g_R_sJ, e21, g_R_sJ]
    · rw [e44, e40, e36, e27, e24, e21]
      exact ((((FrX.sJ.tr FrX.sJ).tr (FrX.sR (by decide))).tr FrX.sJ).tr (FrX.sR (by decide))).tr (FrX.sR (by decide))
