/-! pay: steps are undone -/
theorem fsJ_fsJ {F : FS} {j i : Nat} {a b : Int64} : fsJ (fsJ F j i a) j i b = fsJ F j i b := by
  have e : (fun g x => if g = j ∧ x = i then b else fJ (fsJ F j i a) g x) = (fun g x => if g = j ∧ x = i then b else fJ F g x) := by
    funext g x
    by_cases z : g = j ∧ x = i
    · rw [if_pos z, if_pos z]
    · rw [if_neg z, if_neg z, j_sJ, if_neg z]
  show (fN F, fI F, (fun g x => if g = j ∧ x = i then b else fJ (fsJ F j i a) g x)) = (fN F, fI F, (fun g x => if g = j ∧ x = i then b else fJ F g x))
  rw [e]
theorem fsI_fsI {F : FS} {j i : Nat} {a b : Int32} : fsI (fsI F j i a) j i b = fsI F j i b := by
  have e : (fun g x => if g = j ∧ x = i then b else fI (fsI F j i a) g x) = (fun g x => if g = j ∧ x = i then b else fI F g x) := by
    funext g x
    by_cases z : g = j ∧ x = i
    · rw [if_pos z, if_pos z]
    · rw [if_neg z, if_neg z, i_sI, if_neg z]
  show (fN F, (fun g x => if g = j ∧ x = i then b else fI (fsI F j i a) g x), fJ F) = (fN F, (fun g x => if g = j ∧ x = i then b else fI F g x), fJ F)
  rw [e]
theorem fsJ_com {F : FS} {j i j' i' : Nat} {v v' : Int64} (h : ¬ (j = j' ∧ i = i')) : fsJ (fsJ F j i v) j' i' v' = fsJ (fsJ F j' i' v') j i v := by
  have e : (fun g x => if g = j' ∧ x = i' then v' else fJ (fsJ F j i v) g x) = (fun g x => if g = j ∧ x = i then v else fJ (fsJ F j' i' v') g x) := by
    funext g x
    rw [j_sJ, j_sJ]
    by_cases z : g = j' ∧ x = i'
    · rw [if_pos z, if_pos z, if_neg (fun y => h ⟨y.1.symm.trans z.1, y.2.symm.trans z.2⟩)]
    · rw [if_neg z, if_neg z]
  show (fN F, fI F, (fun g x => if g = j' ∧ x = i' then v' else fJ (fsJ F j i v) g x)) = (fN F, fI F, (fun g x => if g = j ∧ x = i then v else fJ (fsJ F j' i' v') g x))
  rw [e]
theorem RX.tot {G : GX} {c : Nat} {F : FS} {σ : ST} (h : RX G c F σ) (j : Nat) (v : Int64) : RX G c (fsJ F 71 j v) (st_uJ σ (G 0 9) j v) := by
  obtain ⟨h1, h2, h3, h4, h5, h6, h7, h8⟩ := h
  exact ⟨h1, h2, h3, h4, TOT.c h5 j v, ODS.keep h6 (fun _ q => q) (fun _ q => q) rfl rfl rfl rfl rfl rfl rfl rfl, h7, h8⟩
theorem RX.cash {G : GX} {c : Nat} {F : FS} {σ : ST} (h : RX G c F σ) {k : Nat} (hk : k < 8) (v : Int64) : RX G c (fsJ F 52 k v) (st_sJ σ 161 (G 1 k) v) := by
  obtain ⟨h1, h2, h3, h4, h5, h6, h7, h8⟩ := h
  exact ⟨h1, OFF.c52 h1 h2 hk v, h3, h4, h5, ODS.keep h6 (fun _ q => q) (fun _ q => q) rfl rfl rfl rfl rfl rfl rfl rfl, h7, h8⟩
def hF (F : FS) : FS := fsJ F 71 8 (fJ F 71 8 + 1)
def cF (F : FS) (k i : Nat) : FS := fsJ F 52 k (fJ F 52 k - sumF F (i + 1))
def f6 (F : FS) : FS := fsJ F 71 6 (fJ F 71 6 + 1)
/-- what stands after s steps -/
def dnF (F : FS) (k i : Nat) : Nat → FS
  | 0 => F
  | 4 => cF (hF F) k i
  | _ => hF F
theorem hF_un (F : FS) : fsJ (hF F) 71 8 (fJ (hF F) 71 8 - 1) = F := by
  have e : fJ (hF F) 71 8 - 1 = fJ F 71 8 := by
    show fJ F 71 8 + 1 - 1 = fJ F 71 8
    rw [Int64.add_sub_cancel]
  rw [e]
  unfold hF
  rw [fsJ_fsJ, fsJ_self rfl]
theorem cF_un (F : FS) (k i : Nat) : fsJ (cF F k i) 52 k (fJ (cF F k i) 52 k + sumF F (i + 1)) = F := by
  have e : fJ (cF F k i) 52 k + sumF F (i + 1) = fJ F 52 k := by
    unfold cF
    rw [j_sJ, if_pos ⟨rfl, rfl⟩, Int64.sub_add_cancel]
  rw [e]
  unfold cF
  rw [fsJ_fsJ, fsJ_self rfl]
theorem f6_hF (F : FS) : f6 (hF F) = hF (f6 F) := by
  show fsJ (fsJ F 71 8 (fJ F 71 8 + 1)) 71 6 (fJ F 71 6 + 1) = fsJ (fsJ F 71 6 (fJ F 71 6 + 1)) 71 8 (fJ F 71 8 + 1)
  exact fsJ_com (by decide)
theorem f6_cF (F : FS) (k i : Nat) : f6 (cF F k i) = cF (f6 F) k i := by
  show fsJ (fsJ F 52 k (fJ F 52 k - sumF F (i + 1))) 71 6 (fJ F 71 6 + 1) = fsJ (fsJ F 71 6 (fJ F 71 6 + 1)) 52 k (fJ F 52 k - sumF F (i + 1))
  exact fsJ_com (fun z => absurd z.1 (by decide))
theorem f6_dnF (F : FS) (k i : Nat) : ∀ s, s < 5 → f6 (dnF F k i s) = dnF (f6 F) k i s
  | 0, _ => rfl
  | 1, _ => f6_hF F
  | 2, _ => f6_hF F
  | 3, _ => f6_hF F
  | 4, _ => by
    show f6 (cF (hF F) k i) = cF (hF (f6 F)) k i
    rw [f6_cF, f6_hF]
theorem x_undo {G : GX} {c : Nat} {F : FS} {σ : ST} {n k i : Nat} (hn : n ≤ 300) (hF0 : fN F 40 = nI n) (hi : i < n) (hk : k < 8) {s : Nat} (hs : s < 5) (h : RX G c (dnF F k i s) σ) {K : ST → Prop} (hK : ∀ σ', RX G c F σ' → FrX (G 0 9) σ σ' → K σ') : wp_X_undoSteps σ (G 6 0) (nI s) (some (G 1 k)) (some (G 3 i)) K := by
  have U0 : ∀ σ1, RX G c F σ1 → FrX (G 0 9) σ σ1 → wb_X_undoSteps_3 (G 6 0) K 1 σ1 (some (G 1 k)) (some (G 3 i)) 0 := fun σ1 q1 q2 => by
    unfold wb_X_undoSteps_3
    exact ⟨fun _ => hK σ1 q1 q2, fun z => absurd (by decide) z⟩
  have U1 : ∀ σ1, RX G c (hF F) σ1 → FrX (G 0 9) σ σ1 → wb_X_undoSteps_3 (G 6 0) K 2 σ1 (some (G 1 k)) (some (G 3 i)) 1 := fun σ1 q1 q2 => by
    have h8 : vp_in 8 (st_ln σ1 (G 0 9)) := by rw [q1.1.2.1.2.2.2.2.2.2]; exact vp_in_nI (n := 8) (N := 9) (by decide) (by decide)
    unfold wb_X_undoSteps_3
    refine ⟨fun z => absurd z (by decide), fun _ => ⟨fun _ => ⟨fun z => absurd rfl z, fun _ => ⟨q1.1.1.1, G 0 9, q1.1.1.2.2.2.2.2.2, q1.1.2.1.2.2.2.2.2.1, h8, h8, fun σ12 e12 x ex => ?_⟩⟩, fun z => absurd z (by decide)⟩⟩
    have e9 : st_eJ σ1 (G 0 9) (Int32.toNatClampNeg 8) = fJ (hF F) 71 8 := q1.2.2.2.2.1 8 (by decide)
    rw [e9] at e12
    have q3 := q1.tot 8 (fJ (hF F) 71 8 - 1)
    rw [hF_un] at q3
    have e13 : σ12 = st_uJ σ1 (G 0 9) 8 (fJ (hF F) 71 8 - 1) := e12
    rw [← e13] at q3
    rw [ex]
    exact U0 σ12 q3 (q2.tr (by rw [e13]; exact FrX.uJ))
  have U2 : ∀ σ1, RX G c (hF F) σ1 → FrX (G 0 9) σ σ1 → wb_X_undoSteps_3 (G 6 0) K 3 σ1 (some (G 1 k)) (some (G 3 i)) 2 := fun σ1 q1 q2 => by
    unfold wb_X_undoSteps_3
    refine ⟨fun z => absurd z (by decide), fun _ => ⟨fun _ => ⟨fun _ x ex => ?_, fun z => absurd z (by decide)⟩, fun z => absurd z (by decide)⟩⟩
    rw [ex]
    exact U1 σ1 q1 q2
  have U3 : ∀ σ1, RX G c (hF F) σ1 → FrX (G 0 9) σ σ1 → wb_X_undoSteps_3 (G 6 0) K 4 σ1 (some (G 1 k)) (some (G 3 i)) 3 := fun σ1 q1 q2 => by
    unfold wb_X_undoSteps_3
    refine ⟨fun z => absurd z (by decide), fun _ => ⟨fun _ => ⟨fun _ x ex => ?_, fun z => absurd z (by decide)⟩, fun z => absurd z (by decide)⟩⟩
    rw [ex]
    exact U2 σ1 q1 q2
  have U4 : ∀ σ1, RX G c (cF (hF F) k i) σ1 → FrX (G 0 9) σ σ1 → wb_X_undoSteps_3 (G 6 0) K 5 σ1 (some (G 1 k)) (some (G 3 i)) 4 := fun σ1 q1 q2 => by
    obtain ⟨-, hO, -, -⟩ := q1.ods (n := n) hn hF0
    have hO1 := hO.1 i hi
    unfold wb_X_undoSteps_3
    refine ⟨fun z => absurd z (by decide), fun _ => ⟨fun z => absurd rfl z, fun _ => ⟨G 1 k, rfl, (q1.1.2.2.1 k hk).2.1, G 3 i, rfl, hO1.2.1, x_sum q1.1 q1.2.2.2.1 hO1 ⟨(q1.1.2.2.1 k hk).2.1, fun σ27 e27 x ex => ?_⟩⟩⟩⟩
    rw [(q1.2.1 k hk).1] at e27
    have q3 := q1.cash hk (fJ (cF (hF F) k i) 52 k + sumF (hF F) (i + 1))
    rw [cF_un] at q3
    have e28 : σ27 = st_sJ σ1 161 (G 1 k) (fJ (cF (hF F) k i) 52 k + sumF (hF F) (i + 1)) := e27
    rw [← e28] at q3
    rw [ex]
    exact U3 σ27 q3 (q2.tr (by rw [e28]; exact FrX.sJ))
  unfold wp_X_undoSteps
  match s, hs, h with
  | 0, _, h => exact ⟨1, U0 σ h FrX.rf⟩
  | 1, _, h => exact ⟨2, U1 σ h FrX.rf⟩
  | 2, _, h => exact ⟨3, U2 σ h FrX.rf⟩
  | 3, _, h => exact ⟨4, U3 σ h FrX.rf⟩
  | 4, _, h => exact ⟨5, U4 σ h FrX.rf⟩
theorem x_exit {G : GX} {c : Nat} {F : FS} {σ : ST} {n k i : Nat} (hn : n ≤ 300) (hF0 : fN F 40 = nI n) (hi : i < n) (hk : k < 8) {s : Nat} (hs : s < 5) (h : RX G c (dnF F k i s) σ) {v : Int32} (hv : ¬ v = 1) {K : Int32 → ST → Prop} (h1 : v = -108 → ∀ σ', RX G c (f6 F) σ' → FrX (G 0 9) σ σ' → K v σ') (h0 : ¬ v = -108 → ∀ σ', RX G c F σ' → FrX (G 0 9) σ σ' → K v σ') : wb_X_goThroughSteps_64 (G 6 0) K σ (some (G 1 k)) (some (G 3 i)) v (nI s) := by
  unfold wb_X_goThroughSteps_64
  refine ⟨fun z => ?_, fun z => ?_⟩
  · unfold wb_X_goThroughSteps_82
    exact ⟨fun _ => ⟨h.1.1.1, x_undo hn hF0 hi hk hs h (h0 z)⟩, fun y => absurd y hv⟩
  · have h8 : vp_in 6 (st_ln σ (G 0 9)) := by rw [h.1.2.1.2.2.2.2.2.2]; exact vp_in_nI (n := 6) (N := 9) (by decide) (by decide)
    refine ⟨h.1.1.1, G 0 9, h.1.1.2.2.2.2.2.2, h.1.2.1.2.2.2.2.2.1, h8, h8, fun σ23 e23 => ?_⟩
    have e9 : st_eJ σ (G 0 9) (Int32.toNatClampNeg 6) = fJ (dnF F k i s) 71 6 := h.2.2.2.2.1 6 (by decide)
    rw [e9] at e23
    have q3 : RX G c (f6 (dnF F k i s)) _ := h.tot 6 (fJ (dnF F k i s) 71 6 + 1)
    rw [f6_dnF F k i s hs] at q3
    have e24 : σ23 = st_uJ σ (G 0 9) 6 (fJ (dnF F k i s) 71 6 + 1) := e23
    rw [← e24] at q3
    have hf : FrX (G 0 9) σ σ23 := by rw [e24]; exact FrX.uJ
    unfold wb_X_goThroughSteps_82
    exact ⟨fun _ => ⟨q3.1.1.1, x_undo (F := f6 F) hn hF0 hi hk hs q3 (fun σ' a b => h1 z σ' a (hf.tr b))⟩, fun y => absurd y hv⟩
