/-! pay: the class's side -/
theorem x_stop {h0 : Nat} {K : Int32 → ST → Prop} {m : Nat} {σ : ST} {v1 v2 : Option Nat} {v3 : Int32} {v4 : Int64} {v v7 x : Int32} (hv : ¬ v = 1) (q : wb_X_goThroughSteps_64 h0 K σ v1 v2 v v7) : wb_X_goThroughSteps_9 h0 K (m + 1) σ v1 v2 v3 v4 v v7 x := by
  unfold wb_X_goThroughSteps_9
  exact ⟨fun _ => q, fun _ => ⟨fun _ => q, fun z => absurd z hv⟩⟩
theorem x_step {G : GX} {c : Nat} {F : FS} {σ : ST} (h : RX G c F σ) {k s s0 m : Nat} (hk : k < 8) (hs : s < 6) {v2 : Option Nat} {pr : Int32} {d : Int64} {K : Int32 → ST → Prop} (h1 : told F k s → ∀ σ', RX G c (clrF F k s) σ' → FrX (G 0 9) σ σ' → wb_X_goThroughSteps_64 (G 6 0) K σ' (some (G 1 k)) v2 (-108) (nI s0)) (h0 : ¬ told F k s → ∀ σ', RX G c F σ' → FrX (G 0 9) σ σ' → ∀ K2 : Int32 → ST → Prop, (∀ σ3, wb_X_goThroughSteps_9 (G 6 0) K (m + 1) σ3 (some (G 1 k)) v2 pr d 1 (nI s) (nI (s + 1)) → K2 1 σ3) → (∀ r σ3, ¬ r = 1 → wb_X_goThroughSteps_64 (G 6 0) K σ3 (some (G 1 k)) v2 r (nI s0) → K2 r σ3) → wp_X_takeStep σ' (G 6 0) (nI s) (some (G 1 k)) v2 pr d K2) : wb_X_goThroughSteps_9 (G 6 0) K (m + 2) σ (some (G 1 k)) v2 pr d 1 (nI s0) (nI s) := by
  unfold wb_X_goThroughSteps_9
  refine ⟨fun z => absurd ((nI_ltI (a := 5) (b := s) (by decide) (by omega)).mp z) (by omega), fun _ => ⟨fun z => absurd rfl z, fun _ => ⟨G 1 k, rfl, (h.1.2.2.1 k hk).2.1, x_takesFailing h hk hs (fun z σ' q1 q2 => ⟨fun y => absurd y (by decide), fun _ => ⟨fun _ x ex => x_stop (by decide) (h1 z σ' q1 q2), fun y => absurd y (by decide)⟩⟩) (fun z σ' q1 q2 => ⟨fun _ => ⟨q1.1.1.1, h0 z σ' q1 q2 _ (fun σ3 q => ⟨fun y => absurd rfl y, fun _ x ex => ?_⟩) (fun r σ3 hr q => ⟨fun _ x ex => x_stop hr q, fun y => absurd y hr⟩)⟩, fun y => absurd rfl y⟩)⟩⟩⟩
  rw [ex, nI_1]
  exact q
theorem t_1 {G : GX} {c : Nat} {F : FS} {σ : ST} (h : RX G c F σ) {v1 v2 : Option Nat} {pr : Int32} {d : Int64} {K : Int32 → ST → Prop} (hK : ∀ σ', RX G c (hF F) σ' → FrX (G 0 9) σ σ' → K 1 σ') : wp_X_takeStep σ (G 6 0) (nI 1) v1 v2 pr d K := by
  have h8 : vp_in 8 (st_ln σ (G 0 9)) := by rw [h.1.2.1.2.2.2.2.2.2]; exact vp_in_nI (n := 8) (N := 9) (by decide) (by decide)
  unfold wp_X_takeStep
  refine ⟨fun _ => ⟨h.1.1.1, G 0 9, h.1.1.2.2.2.2.2.2, h.1.2.1.2.2.2.2.2.1, h8, h8, fun σ8 e8 => ?_⟩, fun z => absurd (by decide) z⟩
  have e9 : st_eJ σ (G 0 9) (Int32.toNatClampNeg 8) = fJ F 71 8 := h.2.2.2.2.1 8 (by decide)
  rw [e9] at e8
  have e10 : σ8 = st_uJ σ (G 0 9) 8 (fJ F 71 8 + 1) := e8
  exact hK σ8 (by rw [e10]; exact h.tot 8 _) (by rw [e10]; exact FrX.uJ)
theorem t_2 {G : GX} {F : FS} {σ : ST} {i : Nat} (hO : OR1 G F σ i) {v1 : Option Nat} {pr : Int32} {d : Int64} {K : Int32 → ST → Prop} (h1 : pr = fI F 45 (i + 1) → K 1 σ) (h0 : ¬ pr = fI F 45 (i + 1) → K (-105) σ) : wp_X_takeStep σ (G 6 0) (nI 2) v1 (some (G 3 i)) pr d K := by
  unfold wp_X_takeStep
  rw [show nI 2 = 2 from rfl]
  refine ⟨fun z => absurd z (by decide), fun _ => ⟨fun _ => ⟨G 3 i, rfl, hO.2.1, ?_⟩, fun z => absurd rfl z⟩⟩
  rw [hO.2.2.2.2.2.2.2.1]
  exact ⟨h0, h1⟩
theorem t_3 {G : GX} {c : Nat} {F : FS} {σ : ST} (h : RX G c F σ) {i k : Nat} (hk : k < 8) (hO : OR1 G F σ i) {pr : Int32} {d : Int64} {K : Int32 → ST → Prop} (h1 : limP F k i d → K 1 σ) (h0 : ¬ limP F k i d → K (-106) σ) : wp_X_takeStep σ (G 6 0) (nI 3) (some (G 1 k)) (some (G 3 i)) pr d K := by
  have ht4 := (h.1.2.2.1 k hk).2.1
  obtain ⟨-, e162, -, -, e166, e167⟩ := h.2.1 k hk
  unfold wp_X_takeStep
  rw [show nI 3 = 3 from rfl]
  refine ⟨fun z => absurd z (by decide), fun _ => ⟨fun z => absurd z (by decide), fun _ => ⟨fun _ => ⟨G 3 i, rfl, hO.2.1, x_sum h.1 h.2.2.2.1 hO ⟨G 1 k, rfl, ht4, ?_⟩⟩, fun z => absurd rfl z⟩⟩⟩
  have B : ∀ K2 : Int32 → ST → Prop, (limP F k i d → K2 1 σ) → (¬ limP F k i d → K2 0 σ) → wb_Office_keepsLimit_17 (G 1 k) K2 σ (sumF F (i + 1)) (b0F F k d) := fun K2 a1 a0 => by
    unfold wb_Office_keepsLimit_17
    rw [e162]
    exact ⟨ht4, ⟨fun z => a1 (Or.inl ((lg_cmp_eq _ _).mp z)), fun z => ⟨fun y => a0 (fun w => w.elim (fun w => z ((lg_cmp_eq _ _).mpr w)) (fun w => absurd ((lg_cmp_gt _ _).mp y) (Int64.not_lt.mpr w))), fun y => a1 (Or.inr (Int64.not_lt.mp (fun w => y ((lg_cmp_gt _ _).mpr w))))⟩⟩⟩
  have B2 := B (fun (r_26 : Int32) σ_27 => (((r_26 = 0) → K ((-106)) σ_27) ∧ ((¬ r_26 = 0) → K 1 σ_27))) (fun q => ⟨fun y => absurd y (by decide), fun _ => h1 q⟩) (fun q => ⟨fun _ => h0 q, fun y => absurd rfl y⟩)
  unfold b0F at B2
  unfold wp_Office_keepsLimit
  rw [e166, e167]
  refine ⟨ht4, ⟨fun z => ?_, fun z => ?_⟩⟩
  · rw [if_neg (fun u => z ((lg_cmp_eq _ _).mpr u.symm))] at B2
    exact B2
  · rw [if_pos ((lg_cmp_eq _ _).mp z).symm] at B2
    exact B2
theorem t_4 {G : GX} {c : Nat} {F : FS} {σ : ST} (h : RX G c F σ) {i k : Nat} (hk : k < 8) (hO : OR1 G F σ i) {pr : Int32} {d : Int64} {K : Int32 → ST → Prop} (h1 : ¬ fJ F 52 k < sumF F (i + 1) → ∀ σ', RX G c (cF F k i) σ' → FrX (G 0 9) σ σ' → K 1 σ') (h0 : fJ F 52 k < sumF F (i + 1) → K (-107) σ) : wp_X_takeStep σ (G 6 0) (nI 4) (some (G 1 k)) (some (G 3 i)) pr d K := by
  have ht4 := (h.1.2.2.1 k hk).2.1
  unfold wp_X_takeStep
  rw [show nI 4 = 4 from rfl]
  refine ⟨fun z => absurd z (by decide), fun _ => ⟨fun z => absurd z (by decide), fun _ => ⟨fun z => absurd z (by decide), fun _ => ⟨fun _ => ⟨G 3 i, rfl, hO.2.1, x_sum h.1 h.2.2.2.1 hO ⟨G 1 k, rfl, ht4, ?_⟩⟩, fun z => absurd rfl z⟩⟩⟩⟩
  unfold wp_Office_giveOut
  rw [(h.2.1 k hk).1]
  refine ⟨ht4, ⟨fun z σ3 e3 => ⟨fun y => absurd y (by decide), fun _ => h1 (Int64.not_lt.mpr ((lg_cmp_ge _ _).mp z)) σ3 (by rw [e3]; exact h.cash hk _) (by rw [e3]; exact FrX.sJ)⟩, fun z => ⟨fun _ => h0 (Int64.not_le.mp (fun y => z ((lg_cmp_ge _ _).mpr y))), fun y => absurd rfl y⟩⟩⟩
theorem x_fin {G : GX} {c : Nat} {F : FS} {σ : ST} (h : RX G c F σ) {v1 v2 : Option Nat} {pr : Int32} {d : Int64} {K : Int32 → ST → Prop} (hK : ∀ σ', RX G c (fsJ F 71 8 (fJ F 71 8 - 1)) σ' → FrX (G 0 9) σ σ' → K 1 σ') : wb_X_goThroughSteps_9 (G 6 0) K 2 σ v1 v2 pr d 1 (nI 5) (nI 6) := by
  have h8 : vp_in 8 (st_ln σ (G 0 9)) := by rw [h.1.2.1.2.2.2.2.2.2]; exact vp_in_nI (n := 8) (N := 9) (by decide) (by decide)
  have q : wb_X_goThroughSteps_64 (G 6 0) K σ v1 v2 1 (nI 5) := by
    unfold wb_X_goThroughSteps_64 wb_X_goThroughSteps_82
    refine ⟨fun _ => ⟨fun z => absurd rfl z, fun _ => ⟨h.1.1.1, G 0 9, h.1.1.2.2.2.2.2.2, h.1.2.1.2.2.2.2.2.1, h8, h8, fun σ8 e8 => ?_⟩⟩, fun z => absurd z (by decide)⟩
    have e9 : st_eJ σ (G 0 9) (Int32.toNatClampNeg 8) = fJ F 71 8 := h.2.2.2.2.1 8 (by decide)
    rw [e9] at e8
    have e10 : σ8 = st_uJ σ (G 0 9) 8 (fJ F 71 8 - 1) := e8
    exact hK σ8 (by rw [e10]; exact h.tot 8 _) (by rw [e10]; exact FrX.uJ)
  unfold wb_X_goThroughSteps_9
  exact ⟨fun _ => q, fun z => absurd (by decide) z⟩
theorem fsJ_I {A : FS} {j i j' i' : Nat} {v : Int64} {v' : Int32} : fsJ (fsI A j' i' v') j i v = fsI (fsJ A j i v) j' i' v' := rfl
theorem knG_J {A : FS} {k L j : Nat} {d b v : Int64} {p : Int32} : fsJ (knG A k d b L p) 71 j v = knG (fsJ A 71 j v) k d b L p := by
  unfold knG
  generalize hB : fsJ (fsJ (fsI A 58 k (nI L)) 56 k d) 57 k b = B
  generalize hC : fsJ (fsJ (fsI (fsJ A 71 j v) 58 k (nI L)) 56 k d) 57 k b = C
  have hBC : fsJ B 71 j v = C := by
    rw [← hB, ← hC, fsJ_com (j := 57) (i := k) (j' := 71) (i' := j) (fun z => absurd z.1 (by decide)), fsJ_com (j := 56) (i := k) (j' := 71) (i' := j) (fun z => absurd z.1 (by decide)), fsJ_I (A := A) (j := 71)]
  rw [fsJ_I, fsJ_I, hBC]
theorem wr_J {A : FS} {k i j : Nat} {v : Int64} : fsJ (wrF A k i) 71 j v = wrF (fsJ A 71 j v) k i := by
  unfold wrF
  rw [fsJ_I, fsJ_I, fsJ_I]
theorem pay_eq (F : FS) (k i : Nat) (d : Int64) : fsJ (kn1 (cF (hF F) k i) k i d) 71 8 (fJ (kn1 (cF (hF F) k i) k i d) 71 8 - 1) = wmF F k i d := by
  have a1 : sumF (cF (hF F) k i) (i + 1) = sumF F (i + 1) := rfl
  have a2 : b0F (wrF (cF (hF F) k i) k i) k d = b0F F k d := rfl
  have a3 : sumF (wrF (cF (hF F) k i) k i) (i + 1) = sumF F (i + 1) := rfl
  have a4 : l0F (wrF (cF (hF F) k i) k i) k d = l0F F k d := rfl
  have a5 : fI (wrF (cF (hF F) k i) k i) 45 (i + 1) = fI F 45 (i + 1) := rfl
  have a6 : fJ (cF (hF F) k i) 71 1 = fJ F 71 1 := rfl
  have a7 : fJ (wrF (cF (hF F) k i) k i) 71 8 = fJ F 71 8 + 1 := rfl
  have a8 : cF (hF F) k i = fsJ (fsJ F 71 8 (fJ F 71 8 + 1)) 52 k (fJ F 52 k - sumF F (i + 1)) := rfl
  unfold kn1 knF wmF
  rw [a1, a2, a3, a4, a5, a6]
  have a10 : fsJ (fsJ (wrF (cF (hF F) k i) k i) 71 1 (fJ F 71 1 + sumF F (i + 1))) 71 8 (fJ F 71 8) = wm0 F k i := by
    have b1 : fJ (fsJ (fsJ F 52 k (fJ F 52 k - sumF F (i + 1))) 71 1 (fJ F 71 1 + sumF F (i + 1))) 71 8 = fJ F 71 8 := by
      rw [j_sJ, if_neg (by decide), j_sJ, if_neg (fun z => absurd z.1 (by decide))]
    rw [wr_J, wr_J, a8, fsJ_com (j := 71) (i := 8) (j' := 52) (i' := k) (fun z => absurd z.1 (by decide)), fsJ_com (j := 71) (i := 8) (j' := 71) (i' := 1) (by decide), fsJ_fsJ, fsJ_self b1]
    unfold wrF wm0
    rw [fsI_comm (j := 48) (j' := 47) (by decide)]
  generalize b0F F k d + sumF F (i + 1) = B
  generalize (l0F F k d).toNatClampNeg = L
  generalize fI F 45 (i + 1) = p
  have a9 : fJ (fsJ (knG (wrF (cF (hF F) k i) k i) k d B L p) 71 1 (fJ F 71 1 + sumF F (i + 1))) 71 8 - 1 = fJ F 71 8 := by
    rw [j_sJ, if_neg (by decide), (knG_g (wrF (cF (hF F) k i) k i) k d B L p).2.2.2.2.2.2.1 71 (by decide) (by decide), a7, Int64.add_sub_cancel]
  rw [a9, knG_J, knG_J, a10]
