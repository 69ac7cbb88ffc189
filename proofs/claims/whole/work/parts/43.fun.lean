def wfb_M_cut_31 (K : Int32 → FS → Prop) : Nat → FS → Int32 → Int32 → Int32 → Prop
  | 0, _, _, _, _ => False
  | n + 1, F, v1, v2, v3 =>
  (((((fN F 40)) < v3) → K 1 F) ∧
  ((¬ ((fN F 40)) < v3) → (((¬ v2 = 0) → K 1 F) ∧
  ((v2 = 0) → vp_in v3 (lnA 48) ∧ ((((¬ ((fI F 48 (Int32.toNatClampNeg v3))) = v1) → vp_in v3 (lnA 48) ∧ (vp_in v3 (lnA 48) ∧ (∀ F_4 : FS, F_4 = fsI F 48 (Int32.toNatClampNeg v3) ((fI F 48 (Int32.toNatClampNeg v3))) → (∀ x_30 : Int32, x_30 = v3 + 1 → (wfb_M_cut_31 K n F_4 v1 v2 x_30))))) ∧
  ((((fI F 48 (Int32.toNatClampNeg v3))) = v1) → vp_in v3 (lnA 48) ∧ (∀ F_6 : FS, F_6 = fsI F 48 (Int32.toNatClampNeg v3) ((-1)) → (∀ x_37 : Int32, x_37 = v3 + 1 → (wfb_M_cut_31 K n F_6 v1 v2 x_37))))))))))
def wf_M_cut (F : FS) (p1 : Int32) (p2 : Int32) (K : Int32 → FS → Prop) : Prop :=
  wf_M_isOffice F p1 (fun (r_1 : Int32) F_1 =>
  (((¬ r_1 = 0) → vp_in p1 (lnA 54) ∧ ((((¬ ((fI F_1 54 (Int32.toNatClampNeg p1))) = p2) → vp_in p1 (lnA 54) ∧ ((p2 = 0 ∨ p2 = 1) ∧ (∀ F_2 : FS, F_2 = fsI F_1 54 (Int32.toNatClampNeg p1) p2 → (∃ n : Nat, wfb_M_cut_31 K n F_2 p1 p2 1)))) ∧
  ((((fI F_1 54 (Int32.toNatClampNeg p1))) = p2) → K 0 F_1)))) ∧
  ((r_1 = 0) → K ((-102)) F_1)))
set_option maxHeartbeats 4000000 in
set_option maxRecDepth 100000 in
theorem fM_M_cut {σ0 σ : ST} {h0 : Nat} {ma : Nat → Nat} {F : FS} {p1 : Int32} {p2 : Int32} {K : Int32 → ST → Prop} {K' : Int32 → FS → Prop} (hR : RMF σ0 σ h0 ma F) (hk : ∀ (r : Int32) (F' : FS) (σ' : ST), K' r F' → RMF σ0 σ' h0 ma F' → K r σ') (h : wf_M_cut F p1 p2 K') : wp_M_cut σ h0 p1 p2 K := by
  have b_31 : ∀ (n : Nat) (σ : ST) (F : FS) (v1 : Int32) (v2 : Int32) (v3 : Int32), RMF σ0 σ h0 ma F → wfb_M_cut_31 K' n F v1 v2 v3 → wb_M_cut_31 h0 K n σ v1 v2 v3 := by
    intro n
    induction n with
    | zero =>
      intro σ F v1 v2 v3 hR h
      exact h.elim
    | succ n ih =>
      intro σ F v1 v2 v3 hR h
      unfold wfb_M_cut_31 at h
      unfold wb_M_cut_31
      refine ⟨hR.1.1, ?_⟩
      try rw [hR.n 40 rfl]
      refine ⟨fun c_17 => ?_, fun c_17 => ?_⟩
      · have h := h.1 c_17
        exact hk _ _ _ h hR
      · have h := h.2 c_17
        refine ⟨fun c_18 => ?_, fun c_18 => ?_⟩
        · have h := h.1 c_18
          exact hk _ _ _ h hR
        · have h := h.2 c_18
          try rw [hR.r 48 rfl]
          try rw [hR.r 48 rfl]
          refine ⟨ma 48, rfl, hR.t 48 rfl, ?_⟩
          refine ⟨by rw [hR.l 48 rfl]; exact h.1, ?_⟩
          have h := h.2
          try rw [hR.eI 48 rfl]
          refine ⟨fun c_23 => ?_, fun c_23 => ?_⟩
          · have h := h.1 c_23
            try rw [hR.r 48 rfl]
            refine ⟨by rw [hR.l 48 rfl]; exact h.1, ?_⟩
            have h := h.2
            try rw [hR.eI 48 rfl]
            refine ⟨by rw [hR.l 48 rfl]; exact h.1, ?_⟩
            have h := h.2
            intro σ_26 z_27
            obtain ⟨F_4, y_5⟩ : ∃ y : FS, y = fsI F 48 (Int32.toNatClampNeg v3) ((fI F 48 (Int32.toNatClampNeg v3))) := ⟨_, rfl⟩
            have h := h F_4 y_5
            have hR := hR.uI 48 rfl (Int32.toNatClampNeg v3) ((fI F 48 (Int32.toNatClampNeg v3)))
            rw [← z_27, ← y_5] at hR
            intro x_30 q_31
            have h := h x_30 q_31
            exact ih _ _ _ _ _ hR h
          · have h := h.2 c_23
            refine ⟨by rw [hR.l 48 rfl]; exact h.1, ?_⟩
            have h := h.2
            intro σ_33 z_34
            obtain ⟨F_6, y_7⟩ : ∃ y : FS, y = fsI F 48 (Int32.toNatClampNeg v3) ((-1)) := ⟨_, rfl⟩
            have h := h F_6 y_7
            have hR := hR.uI 48 rfl (Int32.toNatClampNeg v3) ((-1))
            rw [← z_34, ← y_7] at hR
            intro x_37 q_38
            have h := h x_37 q_38
            exact ih _ _ _ _ _ hR h
  unfold wf_M_cut at h
  unfold wp_M_cut
  refine fM_M_isOffice hR ?_ h
  intro r_1 F_1 σ_2 h hR
  refine ⟨fun c_3 => ?_, fun c_3 => ?_⟩
  · have h := h.1 c_3
    refine ⟨hR.1.1, ?_⟩
    try rw [hR.r 54 rfl]
    refine ⟨ma 54, rfl, hR.t 54 rfl, ?_⟩
    refine ⟨by rw [hR.l 54 rfl]; exact h.1, ?_⟩
    have h := h.2
    try rw [hR.eI 54 rfl]
    refine ⟨fun c_9 => ?_, fun c_9 => ?_⟩
    · have h := h.1 c_9
      try rw [hR.r 54 rfl]
      refine ⟨by rw [hR.l 54 rfl]; exact h.1, ?_⟩
      have h := h.2
      refine ⟨h.1, ?_⟩
      have h := h.2
      intro σ_12 z_13
      obtain ⟨F_2, y_3⟩ : ∃ y : FS, y = fsI F_1 54 (Int32.toNatClampNeg p1) p2 := ⟨_, rfl⟩
      have h := h F_2 y_3
      have hR := hR.uI 54 rfl (Int32.toNatClampNeg p1) p2
      rw [← z_13, ← y_3] at hR
      obtain ⟨n, h⟩ := h
      refine ⟨n, ?_⟩
      exact b_31 n _ _ _ _ _ hR h
    · have h := h.2 c_9
      exact hk _ _ _ h hR
  · have h := h.2 c_3
    exact hk _ _ _ h hR
def wf_M_list (F : FS) (p1 : Int32) (p2 : Int64) (K : Int32 → FS → Prop) : Prop :=
  wf_M_find F p2 (fun (r_2 : Int32) F_1 =>
  (((¬ r_2 = 0) → wf_M_isOffice F_1 p1 (fun (r_5 : Int32) F_2 =>
  (((¬ r_5 = 0) → vp_in r_2 (lnA 41) ∧ ((((¬ ((fI F_2 41 (Int32.toNatClampNeg r_2))) = 0) → K ((-103)) F_2) ∧
  ((((fI F_2 41 (Int32.toNatClampNeg r_2))) = 0) → vp_in r_2 (lnA 48) ∧ ((((¬ ((fI F_2 48 (Int32.toNatClampNeg r_2))) = ((-1) : Int32)) → K ((-103)) F_2) ∧
  ((((fI F_2 48 (Int32.toNatClampNeg r_2))) = ((-1) : Int32)) → vp_in p1 (lnA 54) ∧ ((((((fI F_2 54 (Int32.toNatClampNeg p1))) = 0) → wf_M_listed F_2 p1 (fun (r_24 : Int32) F_3 =>
  (((¬ r_24 = (8 : Int32)) → vp_in r_2 (lnA 48) ∧ (∀ F_4 : FS, F_4 = fsI F_3 48 (Int32.toNatClampNeg r_2) p1 → (wf_M_listed F_4 p1 (fun (r_36 : Int32) F_6 =>
  K r_36 F_6)))) ∧
  ((r_24 = (8 : Int32)) → K ((-104)) F_3)))) ∧
  ((¬ ((fI F_2 54 (Int32.toNatClampNeg p1))) = 0) → K ((-103)) F_2)))))))))) ∧
  ((r_5 = 0) → K ((-102)) F_2)))) ∧
  ((r_2 = 0) → K ((-101)) F_1)))
set_option maxHeartbeats 4000000 in
set_option maxRecDepth 100000 in
theorem fM_M_list {σ0 σ : ST} {h0 : Nat} {ma : Nat → Nat} {F : FS} {p1 : Int32} {p2 : Int64} {K : Int32 → ST → Prop} {K' : Int32 → FS → Prop} (hR : RMF σ0 σ h0 ma F) (hk : ∀ (r : Int32) (F' : FS) (σ' : ST), K' r F' → RMF σ0 σ' h0 ma F' → K r σ') (h : wf_M_list F p1 p2 K') : wp_M_list σ h0 p1 p2 K := by
  unfold wf_M_list at h
  unfold wp_M_list
  refine ⟨hR.1.1, ?_⟩
  refine fM_M_find hR ?_ h
  intro r_2 F_1 σ_3 h hR
  refine ⟨fun c_4 => ?_, fun c_4 => ?_⟩
  · have h := h.1 c_4
    refine fM_M_isOffice hR ?_ h
    intro r_5 F_2 σ_6 h hR
    refine ⟨fun c_7 => ?_, fun c_7 => ?_⟩
    · have h := h.1 c_7
      refine ⟨hR.1.1, ?_⟩
      try rw [hR.r 41 rfl]
      refine ⟨ma 41, rfl, hR.t 41 rfl, ?_⟩
      refine ⟨by rw [hR.l 41 rfl]; exact h.1, ?_⟩
      have h := h.2
      try rw [hR.eI 41 rfl]
      refine ⟨fun c_13 => ?_, fun c_13 => ?_⟩
      · have h := h.1 c_13
        exact hk _ _ _ h hR
      · have h := h.2 c_13
        try rw [hR.r 48 rfl]
        refine ⟨ma 48, rfl, hR.t 48 rfl, ?_⟩
        refine ⟨by rw [hR.l 48 rfl]; exact h.1, ?_⟩
        have h := h.2
        try rw [hR.eI 48 rfl]
        refine ⟨fun c_18 => ?_, fun c_18 => ?_⟩
        · have h := h.1 c_18
          exact hk _ _ _ h hR
        · have h := h.2 c_18
          try rw [hR.r 54 rfl]
          refine ⟨ma 54, rfl, hR.t 54 rfl, ?_⟩
          refine ⟨by rw [hR.l 54 rfl]; exact h.1, ?_⟩
          have h := h.2
          try rw [hR.eI 54 rfl]
          refine ⟨fun c_23 => ?_, fun c_23 => ?_⟩
          · have h := h.1 c_23
            refine fM_M_listed hR ?_ h
            intro r_24 F_3 σ_25 h hR
            refine ⟨fun c_26 => ?_, fun c_26 => ?_⟩
            · have h := h.1 c_26
              refine ⟨hR.1.1, ?_⟩
              try rw [hR.r 48 rfl]
              refine ⟨ma 48, rfl, hR.t 48 rfl, ?_⟩
              refine ⟨by rw [hR.l 48 rfl]; exact h.1, ?_⟩
              have h := h.2
              intro σ_32 z_33
              obtain ⟨F_4, y_5⟩ : ∃ y : FS, y = fsI F_3 48 (Int32.toNatClampNeg r_2) p1 := ⟨_, rfl⟩
              have h := h F_4 y_5
              have hR := hR.uI 48 rfl (Int32.toNatClampNeg r_2) p1
              rw [← z_33, ← y_5] at hR
              refine fM_M_listed hR ?_ h
              intro r_36 F_6 σ_37 h hR
              exact hk _ _ _ h hR
            · have h := h.2 c_26
              exact hk _ _ _ h hR
          · have h := h.2 c_23
            exact hk _ _ _ h hR
    · have h := h.2 c_7
      exact hk _ _ _ h hR
  · have h := h.2 c_4
    exact hk _ _ _ h hR
def wfb_M_set_101 (K : Int32 → FS → Prop) (F : FS) (v1 : Int32) (v2 : Int32) (v3 : Int64) : Prop :=
  (((¬ v1 = 0) → (((¬ v1 = (1 : Int32)) → vp_in v2 (lnA 51) ∧ (∀ F_4 : FS, F_4 = fsJ F 51 (Int32.toNatClampNeg v2) v3 → (K 1 F_4))) ∧
  ((v1 = (1 : Int32)) → vp_in v2 (lnA 53) ∧ (∀ F_6 : FS, F_6 = fsJ F 53 (Int32.toNatClampNeg v2) v3 → (K 1 F_6))))) ∧
  ((v1 = 0) → vp_in v2 (lnA 52) ∧ (vp_in v2 (lnA 52) ∧ (∀ F_8 : FS, F_8 = fsJ F 52 (Int32.toNatClampNeg v2) ((((fJ F 52 (Int32.toNatClampNeg v2))) + v3)) → (vp_in 5 (lnA 71) ∧ (vp_in 5 (lnA 71) ∧ (∀ F_10 : FS, F_10 = fsJ F_8 71 (Int32.toNatClampNeg 5) ((((fJ F_8 71 (Int32.toNatClampNeg 5))) + v3)) → (K 1 F_10))))))))
def wfb_M_set_72 (K : Int32 → FS → Prop) (F : FS) (v1 : Int32) (v2 : Int32) (v3 : Int64) (s0 : Int64) (s1 : Int64) (s2 : Int64) : Prop :=
  wf_M_in F s2 s1 s0 (fun (r_11 : Int32) F_3 =>
  (((¬ r_11 = 0) → (((¬ v1 = 0) → wfb_M_set_101 K F_3 v1 v2 v3) ∧
  ((v1 = 0) → vp_in v2 (lnA 52) ∧ ((((0 ≤ ((lg_cmp ((((fJ F_3 52 (Int32.toNatClampNeg v2))) + v3)) 0))) → wfb_M_set_101 K F_3 v1 v2 v3) ∧
  ((¬ 0 ≤ ((lg_cmp ((((fJ F_3 52 (Int32.toNatClampNeg v2))) + v3)) 0))) → K ((-103)) F_3)))))) ∧
  ((r_11 = 0) → K ((-102)) F_3)))
def wfb_M_set_58 (K : Int32 → FS → Prop) (F : FS) (v1 : Int32) (v2 : Int32) (v3 : Int64) (s0 : Int64) (s1 : Int64) : Prop :=
  (((¬ v1 = (2 : Int32)) → wfb_M_set_72 K F v1 v2 v3 1000000000 s0 s1) ∧
  ((v1 = (2 : Int32)) → wfb_M_set_72 K F v1 v2 v3 100000 s0 s1))
def wfb_M_set_29 (K : Int32 → FS → Prop) (F : FS) (v1 : Int32) (v2 : Int32) (v3 : Int64) (s0 : Int64) (s1 : Int64) (s2 : Int64) : Prop :=
  wf_M_in F s2 s1 s0 (fun (r_5 : Int32) F_2 =>
  (((r_5 = 0) → K ((-102)) F_2) ∧
  ((¬ r_5 = 0) → (((¬ v1 = 0) → (((¬ v1 = (1 : Int32)) → wfb_M_set_58 K F_2 v1 v2 v3 1 v3) ∧
  ((v1 = (1 : Int32)) → wfb_M_set_58 K F_2 v1 v2 v3 ((-1)) v3))) ∧
  ((v1 = 0) → wfb_M_set_58 K F_2 v1 v2 v3 ((-1000000000)) v3)))))
def wf_M_set (F : FS) (p1 : Int32) (p2 : Int32) (p3 : Int64) (K : Int32 → FS → Prop) : Prop :=
  wf_M_in F ((Int32.toInt64 p1)) 0 2 (fun (r_1 : Int32) F_1 =>
  (((r_1 = 0) → K ((-102)) F_1) ∧
  ((¬ r_1 = 0) → (((¬ p1 = (2 : Int32)) → wfb_M_set_29 K F_1 p1 p2 p3 7 0 ((Int32.toInt64 p2))) ∧
  ((p1 = (2 : Int32)) → wfb_M_set_29 K F_1 p1 p2 p3 3 0 ((Int32.toInt64 p2)))))))
set_option maxHeartbeats 4000000 in
set_option maxRecDepth 100000 in
theorem fM_M_set {σ0 σ : ST} {h0 : Nat} {ma : Nat → Nat} {F : FS} {p1 : Int32} {p2 : Int32} {p3 : Int64} {K : Int32 → ST → Prop} {K' : Int32 → FS → Prop} (hR : RMF σ0 σ h0 ma F) (hk : ∀ (r : Int32) (F' : FS) (σ' : ST), K' r F' → RMF σ0 σ' h0 ma F' → K r σ') (h : wf_M_set F p1 p2 p3 K') : wp_M_set σ h0 p1 p2 p3 K := by
  have b_101 : ∀ (σ : ST) (F : FS) (v1 : Int32) (v2 : Int32) (v3 : Int64), RMF σ0 σ h0 ma F → wfb_M_set_101 K' F v1 v2 v3 → wb_M_set_101 h0 K σ v1 v2 v3 := by
    intro σ F v1 v2 v3 hR h
    unfold wfb_M_set_101 at h
    unfold wb_M_set_101
    refine ⟨fun c_15 => ?_, fun c_15 => ?_⟩
    · have h := h.1 c_15
      refine ⟨fun c_16 => ?_, fun c_16 => ?_⟩
      · have h := h.1 c_16
        refine ⟨hR.1.1, ?_⟩
        try rw [hR.r 51 rfl]
        refine ⟨ma 51, rfl, hR.t 51 rfl, ?_⟩
        refine ⟨by rw [hR.l 51 rfl]; exact h.1, ?_⟩
        have h := h.2
        intro σ_22 z_23
        obtain ⟨F_4, y_5⟩ : ∃ y : FS, y = fsJ F 51 (Int32.toNatClampNeg v2) v3 := ⟨_, rfl⟩
        have h := h F_4 y_5
        have hR := hR.uJ 51 rfl (Int32.toNatClampNeg v2) v3
        rw [← z_23, ← y_5] at hR
        exact hk _ _ _ h hR
      · have h := h.2 c_16
        refine ⟨hR.1.1, ?_⟩
        try rw [hR.r 53 rfl]
        refine ⟨ma 53, rfl, hR.t 53 rfl, ?_⟩
        refine ⟨by rw [hR.l 53 rfl]; exact h.1, ?_⟩
        have h := h.2
        intro σ_31 z_32
        obtain ⟨F_6, y_7⟩ : ∃ y : FS, y = fsJ F 53 (Int32.toNatClampNeg v2) v3 := ⟨_, rfl⟩
        have h := h F_6 y_7
        have hR := hR.uJ 53 rfl (Int32.toNatClampNeg v2) v3
        rw [← z_32, ← y_7] at hR
        exact hk _ _ _ h hR
    · have h := h.2 c_15
      refine ⟨hR.1.1, ?_⟩
      try rw [hR.r 52 rfl]
      refine ⟨ma 52, rfl, hR.t 52 rfl, ?_⟩
      refine ⟨by rw [hR.l 52 rfl]; exact h.1, ?_⟩
      have h := h.2
      try rw [hR.eJ 52 rfl]
      refine ⟨by rw [hR.l 52 rfl]; exact h.1, ?_⟩
      have h := h.2
      intro σ_41 z_42
      obtain ⟨F_8, y_9⟩ : ∃ y : FS, y = fsJ F 52 (Int32.toNatClampNeg v2) ((((fJ F 52 (Int32.toNatClampNeg v2))) + v3)) := ⟨_, rfl⟩
      have h := h F_8 y_9
      have hR := hR.uJ 52 rfl (Int32.toNatClampNeg v2) ((((fJ F 52 (Int32.toNatClampNeg v2))) + v3))
      rw [← z_42, ← y_9] at hR
      try rw [hR.r 71 rfl]
      refine ⟨ma 71, rfl, hR.t 71 rfl, ?_⟩
      refine ⟨by rw [hR.l 71 rfl]; exact h.1, ?_⟩
      have h := h.2
      try rw [hR.eJ 71 rfl]
      refine ⟨by rw [hR.l 71 rfl]; exact h.1, ?_⟩
      have h := h.2
      intro σ_50 z_51
      obtain ⟨F_10, y_11⟩ : ∃ y : FS, y = fsJ F_8 71 (Int32.toNatClampNeg 5) ((((fJ F_8 71 (Int32.toNatClampNeg 5))) + v3)) := ⟨_, rfl⟩
      have h := h F_10 y_11
      have hR := hR.uJ 71 rfl (Int32.toNatClampNeg 5) ((((fJ F_8 71 (Int32.toNatClampNeg 5))) + v3))
      rw [← z_51, ← y_11] at hR
      exact hk _ _ _ h hR
  have b_72 : ∀ (σ : ST) (F : FS) (v1 : Int32) (v2 : Int32) (v3 : Int64) (s0 : Int64) (s1 : Int64) (s2 : Int64), RMF σ0 σ h0 ma F → wfb_M_set_72 K' F v1 v2 v3 s0 s1 s2 → wb_M_set_72 h0 K σ v1 v2 v3 s0 s1 s2 := by
    intro σ F v1 v2 v3 s0 s1 s2 hR h
    unfold wfb_M_set_72 at h
    unfold wb_M_set_72
    refine fM_M_in hR ?_ h
    intro r_11 F_3 σ_12 h hR
    refine ⟨fun c_13 => ?_, fun c_13 => ?_⟩
    · have h := h.1 c_13
      refine ⟨fun c_14 => ?_, fun c_14 => ?_⟩
      · have h := h.1 c_14
        exact b_101 _ _ _ _ _ hR h
      · have h := h.2 c_14
        refine ⟨hR.1.1, ?_⟩
        try rw [hR.r 52 rfl]
        refine ⟨ma 52, rfl, hR.t 52 rfl, ?_⟩
        refine ⟨by rw [hR.l 52 rfl]; exact h.1, ?_⟩
        have h := h.2
        try rw [hR.eJ 52 rfl]
        refine ⟨fun c_60 => ?_, fun c_60 => ?_⟩
        · have h := h.1 c_60
          exact b_101 _ _ _ _ _ hR h
        · have h := h.2 c_60
          exact hk _ _ _ h hR
    · have h := h.2 c_13
      exact hk _ _ _ h hR
  have b_58 : ∀ (σ : ST) (F : FS) (v1 : Int32) (v2 : Int32) (v3 : Int64) (s0 : Int64) (s1 : Int64), RMF σ0 σ h0 ma F → wfb_M_set_58 K' F v1 v2 v3 s0 s1 → wb_M_set_58 h0 K σ v1 v2 v3 s0 s1 := by
    intro σ F v1 v2 v3 s0 s1 hR h
    unfold wfb_M_set_58 at h
    unfold wb_M_set_58
    refine ⟨fun c_10 => ?_, fun c_10 => ?_⟩
    · have h := h.1 c_10
      exact b_72 _ _ _ _ _ _ _ _ hR h
    · have h := h.2 c_10
      exact b_72 _ _ _ _ _ _ _ _ hR h
  have b_29 : ∀ (σ : ST) (F : FS) (v1 : Int32) (v2 : Int32) (v3 : Int64) (s0 : Int64) (s1 : Int64) (s2 : Int64), RMF σ0 σ h0 ma F → wfb_M_set_29 K' F v1 v2 v3 s0 s1 s2 → wb_M_set_29 h0 K σ v1 v2 v3 s0 s1 s2 := by
    intro σ F v1 v2 v3 s0 s1 s2 hR h
    unfold wfb_M_set_29 at h
    unfold wb_M_set_29
    refine fM_M_in hR ?_ h
    intro r_5 F_2 σ_6 h hR
    refine ⟨fun c_7 => ?_, fun c_7 => ?_⟩
    · have h := h.1 c_7
      exact hk _ _ _ h hR
    · have h := h.2 c_7
      refine ⟨fun c_8 => ?_, fun c_8 => ?_⟩
      · have h := h.1 c_8
        refine ⟨fun c_9 => ?_, fun c_9 => ?_⟩
        · have h := h.1 c_9
          exact b_58 _ _ _ _ _ _ _ hR h
        · have h := h.2 c_9
          exact b_58 _ _ _ _ _ _ _ hR h
      · have h := h.2 c_8
        exact b_58 _ _ _ _ _ _ _ hR h
  unfold wf_M_set at h
  unfold wp_M_set
  refine fM_M_in hR ?_ h
  intro r_1 F_1 σ_2 h hR
  refine ⟨fun c_3 => ?_, fun c_3 => ?_⟩
  · have h := h.1 c_3
    exact hk _ _ _ h hR
  · have h := h.2 c_3
    refine ⟨fun c_4 => ?_, fun c_4 => ?_⟩
    · have h := h.1 c_4
      exact b_29 _ _ _ _ _ _ _ _ hR h
    · have h := h.2 c_4
      exact b_29 _ _ _ _ _ _ _ _ hR h
def wf_M_collect (F : FS) (p1 : Int32) (p2 : Int64) (p4 : Int32) (K : Int32 → FS → Prop) : Prop :=
  wf_M_isOffice F p1 (fun (r_1 : Int32) F_1 =>
  (((r_1 = 0) → K ((-102)) F_1) ∧
  ((¬ r_1 = 0) → wf_M_in F_1 p2 1 500000 (fun (r_4 : Int32) F_2 =>
  (((r_4 = 0) → K ((-102)) F_2) ∧
  ((¬ r_4 = 0) → wf_M_in F_2 ((Int32.toInt64 p4)) 0 9999 (fun (r_7 : Int32) F_3 =>
  (((¬ r_7 = 0) → (((¬ ((fN F_3 67)) = (100 : Int32)) → vp_in ((fN F_3 67)) (lnA 68) ∧ (∀ F_4 : FS, F_4 = fsI F_3 68 (Int32.toNatClampNeg ((fN F_3 67))) p1 → (vp_in ((fN F_4 67)) (lnA 69) ∧ (∀ F_6 : FS, F_6 = fsJ F_4 69 (Int32.toNatClampNeg ((fN F_4 67))) p2 → (vp_in ((fN F_6 67)) (lnA 70) ∧ (∀ F_8 : FS, F_8 = fsI F_6 70 (Int32.toNatClampNeg ((fN F_6 67))) p4 → (∀ F_10 : FS, F_10 = fsN F_8 67 ((((fN F_8 67)) + 1)) → (vp_in p1 (lnA 52) ∧ (vp_in p1 (lnA 52) ∧ (∀ F_12 : FS, F_12 = fsJ F_10 52 (Int32.toNatClampNeg p1) ((((fJ F_10 52 (Int32.toNatClampNeg p1))) + p2)) → (vp_in 2 (lnA 71) ∧ (vp_in 2 (lnA 71) ∧ (∀ F_14 : FS, F_14 = fsJ F_12 71 (Int32.toNatClampNeg 2) ((((fJ F_12 71 (Int32.toNatClampNeg 2))) + p2)) → (K ((fN F_14 67)) F_14)))))))))))))) ∧
  ((((fN F_3 67)) = (100 : Int32)) → K ((-104)) F_3))) ∧
  ((r_7 = 0) → K ((-102)) F_3)))))))))
set_option maxHeartbeats 4000000 in
set_option maxRecDepth 100000 in
theorem fM_M_collect {σ0 σ : ST} {h0 : Nat} {ma : Nat → Nat} {F : FS} {p1 : Int32} {p2 : Int64} {p4 : Int32} {K : Int32 → ST → Prop} {K' : Int32 → FS → Prop} (hR : RMF σ0 σ h0 ma F) (hk : ∀ (r : Int32) (F' : FS) (σ' : ST), K' r F' → RMF σ0 σ' h0 ma F' → K r σ') (h : wf_M_collect F p1 p2 p4 K') : wp_M_collect σ h0 p1 p2 p4 K := by
  unfold wf_M_collect at h
  unfold wp_M_collect
  refine fM_M_isOffice hR ?_ h
  intro r_1 F_1 σ_2 h hR
  refine ⟨fun c_3 => ?_, fun c_3 => ?_⟩
  · have h := h.1 c_3
    exact hk _ _ _ h hR
  · have h := h.2 c_3
    refine fM_M_in hR ?_ h
    intro r_4 F_2 σ_5 h hR
    refine ⟨fun c_6 => ?_, fun c_6 => ?_⟩
    · have h := h.1 c_6
      exact hk _ _ _ h hR
    · have h := h.2 c_6
      refine fM_M_in hR ?_ h
      intro r_7 F_3 σ_8 h hR
      refine ⟨fun c_9 => ?_, fun c_9 => ?_⟩
      · have h := h.1 c_9
        refine ⟨hR.1.1, ?_⟩
        try rw [hR.n 67 rfl]
        refine ⟨fun c_11 => ?_, fun c_11 => ?_⟩
        · have h := h.1 c_11
          try rw [hR.r 68 rfl]
          try rw [hR.n 67 rfl]
          refine ⟨ma 68, rfl, hR.t 68 rfl, ?_⟩
          refine ⟨by rw [hR.l 68 rfl]; exact h.1, ?_⟩
          have h := h.2
          intro σ_16 z_17
          obtain ⟨F_4, y_5⟩ : ∃ y : FS, y = fsI F_3 68 (Int32.toNatClampNeg ((fN F_3 67))) p1 := ⟨_, rfl⟩
          have h := h F_4 y_5
          have hR := hR.uI 68 rfl (Int32.toNatClampNeg ((fN F_3 67))) p1
          rw [← z_17, ← y_5] at hR
          try rw [hR.r 69 rfl]
          try rw [hR.n 67 rfl]
          refine ⟨ma 69, rfl, hR.t 69 rfl, ?_⟩
          refine ⟨by rw [hR.l 69 rfl]; exact h.1, ?_⟩
          have h := h.2
          intro σ_24 z_25
          obtain ⟨F_6, y_7⟩ : ∃ y : FS, y = fsJ F_4 69 (Int32.toNatClampNeg ((fN F_4 67))) p2 := ⟨_, rfl⟩
          have h := h F_6 y_7
          have hR := hR.uJ 69 rfl (Int32.toNatClampNeg ((fN F_4 67))) p2
          rw [← z_25, ← y_7] at hR
          try rw [hR.r 70 rfl]
          try rw [hR.n 67 rfl]
          refine ⟨ma 70, rfl, hR.t 70 rfl, ?_⟩
          refine ⟨by rw [hR.l 70 rfl]; exact h.1, ?_⟩
          have h := h.2
          intro σ_33 z_34
          obtain ⟨F_8, y_9⟩ : ∃ y : FS, y = fsI F_6 70 (Int32.toNatClampNeg ((fN F_6 67))) p4 := ⟨_, rfl⟩
          have h := h F_8 y_9
          have hR := hR.uI 70 rfl (Int32.toNatClampNeg ((fN F_6 67))) p4
          rw [← z_34, ← y_9] at hR
          try rw [hR.n 67 rfl]
          intro σ_39 z_40
          obtain ⟨F_10, y_11⟩ : ∃ y : FS, y = fsN F_8 67 ((((fN F_8 67)) + 1)) := ⟨_, rfl⟩
          have h := h F_10 y_11
          have hR := hR.sN 67 rfl ((((fN F_8 67)) + 1))
          rw [← z_40, ← y_11] at hR
          try rw [hR.r 52 rfl]
          refine ⟨ma 52, rfl, hR.t 52 rfl, ?_⟩
          refine ⟨by rw [hR.l 52 rfl]; exact h.1, ?_⟩
          have h := h.2
          try rw [hR.eJ 52 rfl]
          refine ⟨by rw [hR.l 52 rfl]; exact h.1, ?_⟩
          have h := h.2
          intro σ_50 z_51
          obtain ⟨F_12, y_13⟩ : ∃ y : FS, y = fsJ F_10 52 (Int32.toNatClampNeg p1) ((((fJ F_10 52 (Int32.toNatClampNeg p1))) + p2)) := ⟨_, rfl⟩
          have h := h F_12 y_13
          have hR := hR.uJ 52 rfl (Int32.toNatClampNeg p1) ((((fJ F_10 52 (Int32.toNatClampNeg p1))) + p2))
          rw [← z_51, ← y_13] at hR
          try rw [hR.r 71 rfl]
          refine ⟨ma 71, rfl, hR.t 71 rfl, ?_⟩
          refine ⟨by rw [hR.l 71 rfl]; exact h.1, ?_⟩
          have h := h.2
          try rw [hR.eJ 71 rfl]
          refine ⟨by rw [hR.l 71 rfl]; exact h.1, ?_⟩
          have h := h.2
          intro σ_62 z_63
          obtain ⟨F_14, y_15⟩ : ∃ y : FS, y = fsJ F_12 71 (Int32.toNatClampNeg 2) ((((fJ F_12 71 (Int32.toNatClampNeg 2))) + p2)) := ⟨_, rfl⟩
          have h := h F_14 y_15
          have hR := hR.uJ 71 rfl (Int32.toNatClampNeg 2) ((((fJ F_12 71 (Int32.toNatClampNeg 2))) + p2))
          rw [← z_63, ← y_15] at hR
          try rw [hR.n 67 rfl]
          exact hk _ _ _ h hR
        · have h := h.2 c_11
          exact hk _ _ _ h hR
      · have h := h.2 c_9
        exact hk _ _ _ h hR
def wfb_M_pass_22 (K : Int32 → FS → Prop) : Nat → FS → Int32 → Int32 → Int32 → Int32 → Prop
  | 0, _, _, _, _, _ => False
  | n + 1, F, v1, v2, v3, v4 =>
  (((((fN F 67)) ≤ v4) → ∀ F_2 : FS, F_2 = fsN F 67 v2 → (K v3 F_2)) ∧
  ((¬ ((fN F 67)) ≤ v4) → vp_in v4 (lnA 70) ∧ ((((v1 < ((fI F 70 (Int32.toNatClampNeg v4)))) → vp_in v4 (lnA 68) ∧ (vp_in v2 (lnA 68) ∧ (∀ F_4 : FS, F_4 = fsI F 68 (Int32.toNatClampNeg v2) ((fI F 68 (Int32.toNatClampNeg v4))) → (vp_in v4 (lnA 69) ∧ (vp_in v2 (lnA 69) ∧ (∀ F_6 : FS, F_6 = fsJ F_4 69 (Int32.toNatClampNeg v2) ((fJ F_4 69 (Int32.toNatClampNeg v4))) → (vp_in v4 (lnA 70) ∧ (vp_in v2 (lnA 70) ∧ (∀ F_8 : FS, F_8 = fsI F_6 70 (Int32.toNatClampNeg v2) ((fI F_6 70 (Int32.toNatClampNeg v4))) → (∀ x_47 : Int32, x_47 = v2 + 1 → (∀ x_49 : Int32, x_49 = v4 + 1 → (wfb_M_pass_22 K n F_8 v1 x_47 v3 x_49)))))))))))) ∧
  ((¬ v1 < ((fI F 70 (Int32.toNatClampNeg v4)))) → vp_in v4 (lnA 68) ∧ (vp_in ((fI F 68 (Int32.toNatClampNeg v4))) (lnA 52) ∧ (vp_in v4 (lnA 69) ∧ ((((((lg_cmp ((fJ F 52 (Int32.toNatClampNeg ((fI F 68 (Int32.toNatClampNeg v4)))))) ((fJ F 69 (Int32.toNatClampNeg v4))))) < 0) → vp_in v4 (lnA 68) ∧ (vp_in v2 (lnA 68) ∧ (∀ F_10 : FS, F_10 = fsI F 68 (Int32.toNatClampNeg v2) ((fI F 68 (Int32.toNatClampNeg v4))) → (vp_in v4 (lnA 69) ∧ (vp_in v2 (lnA 69) ∧ (∀ F_12 : FS, F_12 = fsJ F_10 69 (Int32.toNatClampNeg v2) ((fJ F_10 69 (Int32.toNatClampNeg v4))) → (vp_in v4 (lnA 70) ∧ (vp_in v2 (lnA 70) ∧ (∀ F_14 : FS, F_14 = fsI F_12 70 (Int32.toNatClampNeg v2) ((fI F_12 70 (Int32.toNatClampNeg v4))) → (∀ x_100 : Int32, x_100 = v2 + 1 → (∀ x_102 : Int32, x_102 = v4 + 1 → (wfb_M_pass_22 K n F_14 v1 x_100 v3 x_102)))))))))))) ∧
  ((¬ ((lg_cmp ((fJ F 52 (Int32.toNatClampNeg ((fI F 68 (Int32.toNatClampNeg v4)))))) ((fJ F 69 (Int32.toNatClampNeg v4))))) < 0) → vp_in v4 (lnA 68) ∧ (vp_in ((fI F 68 (Int32.toNatClampNeg v4))) (lnA 52) ∧ (vp_in v4 (lnA 69) ∧ (vp_in ((fI F 68 (Int32.toNatClampNeg v4))) (lnA 52) ∧ (∀ F_16 : FS, F_16 = fsJ F 52 (Int32.toNatClampNeg ((fI F 68 (Int32.toNatClampNeg v4)))) ((((fJ F 52 (Int32.toNatClampNeg ((fI F 68 (Int32.toNatClampNeg v4)))))) - ((fJ F 69 (Int32.toNatClampNeg v4))))) → (vp_in 3 (lnA 71) ∧ (vp_in v4 (lnA 69) ∧ (vp_in 3 (lnA 71) ∧ (∀ F_18 : FS, F_18 = fsJ F_16 71 (Int32.toNatClampNeg 3) ((((fJ F_16 71 (Int32.toNatClampNeg 3))) + ((fJ F_16 69 (Int32.toNatClampNeg v4))))) → (∀ x_133 : Int32, x_133 = v3 + 1 → (∀ x_135 : Int32, x_135 = v4 + 1 → (wfb_M_pass_22 K n F_18 v1 v2 x_133 x_135)))))))))))))))))))))
def wf_M_pass (F : FS) (p1 : Int32) (K : Int32 → FS → Prop) : Prop :=
  wf_M_in F ((Int32.toInt64 p1)) 0 9999 (fun (r_1 : Int32) F_1 =>
  (((¬ r_1 = 0) → ∃ n : Nat, wfb_M_pass_22 K n F_1 p1 0 0 0) ∧
  ((r_1 = 0) → K ((-102)) F_1)))
set_option maxHeartbeats 4000000 in
set_option maxRecDepth 100000 in
theorem fM_M_pass {σ0 σ : ST} {h0 : Nat} {ma : Nat → Nat} {F : FS} {p1 : Int32} {K : Int32 → ST → Prop} {K' : Int32 → FS → Prop} (hR : RMF σ0 σ h0 ma F) (hk : ∀ (r : Int32) (F' : FS) (σ' : ST), K' r F' → RMF σ0 σ' h0 ma F' → K r σ') (h : wf_M_pass F p1 K') : wp_M_pass σ h0 p1 K := by
  have b_22 : ∀ (n : Nat) (σ : ST) (F : FS) (v1 : Int32) (v2 : Int32) (v3 : Int32) (v4 : Int32), RMF σ0 σ h0 ma F → wfb_M_pass_22 K' n F v1 v2 v3 v4 → wb_M_pass_22 h0 K n σ v1 v2 v3 v4 := by
    intro n
    induction n with
    | zero =>
      intro σ F v1 v2 v3 v4 hR h
      exact h.elim
    | succ n ih =>
      intro σ F v1 v2 v3 v4 hR h
      unfold wfb_M_pass_22 at h
      unfold wb_M_pass_22
      refine ⟨hR.1.1, ?_⟩
      try rw [hR.n 67 rfl]
      refine ⟨fun c_5 => ?_, fun c_5 => ?_⟩
      · have h := h.1 c_5
        intro σ_6 z_7
        obtain ⟨F_2, y_3⟩ : ∃ y : FS, y = fsN F 67 v2 := ⟨_, rfl⟩
        have h := h F_2 y_3
        have hR := hR.sN 67 rfl v2
        rw [← z_7, ← y_3] at hR
        exact hk _ _ _ h hR
      · have h := h.2 c_5
        try rw [hR.r 70 rfl]
        refine ⟨ma 70, rfl, hR.t 70 rfl, ?_⟩
        refine ⟨by rw [hR.l 70 rfl]; exact h.1, ?_⟩
        have h := h.2
        try rw [hR.eI 70 rfl]
        refine ⟨fun c_13 => ?_, fun c_13 => ?_⟩
        · have h := h.1 c_13
          try rw [hR.r 68 rfl]
          try rw [hR.r 68 rfl]
          refine ⟨ma 68, rfl, hR.t 68 rfl, ?_⟩
          refine ⟨by rw [hR.l 68 rfl]; exact h.1, ?_⟩
          have h := h.2
          try rw [hR.eI 68 rfl]
          refine ⟨by rw [hR.l 68 rfl]; exact h.1, ?_⟩
          have h := h.2
          intro σ_19 z_20
          obtain ⟨F_4, y_5⟩ : ∃ y : FS, y = fsI F 68 (Int32.toNatClampNeg v2) ((fI F 68 (Int32.toNatClampNeg v4))) := ⟨_, rfl⟩
          have h := h F_4 y_5
          have hR := hR.uI 68 rfl (Int32.toNatClampNeg v2) ((fI F 68 (Int32.toNatClampNeg v4)))
          rw [← z_20, ← y_5] at hR
          try rw [hR.r 69 rfl]
          try rw [hR.r 69 rfl]
          refine ⟨ma 69, rfl, hR.t 69 rfl, ?_⟩
          refine ⟨by rw [hR.l 69 rfl]; exact h.1, ?_⟩
          have h := h.2
          try rw [hR.eJ 69 rfl]
          refine ⟨by rw [hR.l 69 rfl]; exact h.1, ?_⟩
          have h := h.2
          intro σ_29 z_30
          obtain ⟨F_6, y_7⟩ : ∃ y : FS, y = fsJ F_4 69 (Int32.toNatClampNeg v2) ((fJ F_4 69 (Int32.toNatClampNeg v4))) := ⟨_, rfl⟩
          have h := h F_6 y_7
          have hR := hR.uJ 69 rfl (Int32.toNatClampNeg v2) ((fJ F_4 69 (Int32.toNatClampNeg v4)))
          rw [← z_30, ← y_7] at hR
          try rw [hR.r 70 rfl]
          try rw [hR.r 70 rfl]
          refine ⟨ma 70, rfl, hR.t 70 rfl, ?_⟩
          refine ⟨by rw [hR.l 70 rfl]; exact h.1, ?_⟩
          have h := h.2
          try rw [hR.eI 70 rfl]
          refine ⟨by rw [hR.l 70 rfl]; exact h.1, ?_⟩
          have h := h.2
          intro σ_40 z_41
          obtain ⟨F_8, y_9⟩ : ∃ y : FS, y = fsI F_6 70 (Int32.toNatClampNeg v2) ((fI F_6 70 (Int32.toNatClampNeg v4))) := ⟨_, rfl⟩
          have h := h F_8 y_9
          have hR := hR.uI 70 rfl (Int32.toNatClampNeg v2) ((fI F_6 70 (Int32.toNatClampNeg v4)))
          rw [← z_41, ← y_9] at hR
          intro x_47 q_48
          have h := h x_47 q_48
          intro x_49 q_50
          have h := h x_49 q_50
          exact ih _ _ _ _ _ _ hR h
        · have h := h.2 c_13
          try rw [hR.r 52 rfl]
          try rw [hR.r 68 rfl]
          refine ⟨ma 68, rfl, hR.t 68 rfl, ?_⟩
          refine ⟨by rw [hR.l 68 rfl]; exact h.1, ?_⟩
          have h := h.2
          try rw [hR.eI 68 rfl]
          refine ⟨ma 52, rfl, hR.t 52 rfl, ?_⟩
          refine ⟨by rw [hR.l 52 rfl]; exact h.1, ?_⟩
          have h := h.2
          try rw [hR.eJ 52 rfl]
          try rw [hR.r 69 rfl]
          refine ⟨ma 69, rfl, hR.t 69 rfl, ?_⟩
          refine ⟨by rw [hR.l 69 rfl]; exact h.1, ?_⟩
          have h := h.2
          try rw [hR.eJ 69 rfl]
          refine ⟨fun c_63 => ?_, fun c_63 => ?_⟩
          · have h := h.1 c_63
            try rw [hR.r 68 rfl]
            try rw [hR.r 68 rfl]
            refine ⟨by rw [hR.l 68 rfl]; exact h.1, ?_⟩
            have h := h.2
            try rw [hR.eI 68 rfl]
            refine ⟨by rw [hR.l 68 rfl]; exact h.1, ?_⟩
            have h := h.2
            intro σ_66 z_67
            obtain ⟨F_10, y_11⟩ : ∃ y : FS, y = fsI F 68 (Int32.toNatClampNeg v2) ((fI F 68 (Int32.toNatClampNeg v4))) := ⟨_, rfl⟩
            have h := h F_10 y_11
            have hR := hR.uI 68 rfl (Int32.toNatClampNeg v2) ((fI F 68 (Int32.toNatClampNeg v4)))
            rw [← z_67, ← y_11] at hR
            try rw [hR.r 69 rfl]
            try rw [hR.r 69 rfl]
            refine ⟨ma 69, rfl, hR.t 69 rfl, ?_⟩
            refine ⟨by rw [hR.l 69 rfl]; exact h.1, ?_⟩
            have h := h.2
            try rw [hR.eJ 69 rfl]
            refine ⟨by rw [hR.l 69 rfl]; exact h.1, ?_⟩
            have h := h.2
            intro σ_78 z_79
            obtain ⟨F_12, y_13⟩ : ∃ y : FS, y = fsJ F_10 69 (Int32.toNatClampNeg v2) ((fJ F_10 69 (Int32.toNatClampNeg v4))) := ⟨_, rfl⟩
            have h := h F_12 y_13
            have hR := hR.uJ 69 rfl (Int32.toNatClampNeg v2) ((fJ F_10 69 (Int32.toNatClampNeg v4)))
            rw [← z_79, ← y_13] at hR
            try rw [hR.r 70 rfl]
            try rw [hR.r 70 rfl]
            refine ⟨ma 70, rfl, hR.t 70 rfl, ?_⟩
            refine ⟨by rw [hR.l 70 rfl]; exact h.1, ?_⟩
            have h := h.2
            try rw [hR.eI 70 rfl]
            refine ⟨by rw [hR.l 70 rfl]; exact h.1, ?_⟩
            have h := h.2
            intro σ_91 z_92
            obtain ⟨F_14, y_15⟩ : ∃ y : FS, y = fsI F_12 70 (Int32.toNatClampNeg v2) ((fI F_12 70 (Int32.toNatClampNeg v4))) := ⟨_, rfl⟩
            have h := h F_14 y_15
            have hR := hR.uI 70 rfl (Int32.toNatClampNeg v2) ((fI F_12 70 (Int32.toNatClampNeg v4)))
            rw [← z_92, ← y_15] at hR
            intro x_100 q_101
            have h := h x_100 q_101
            intro x_102 q_103
            have h := h x_102 q_103
            exact ih _ _ _ _ _ _ hR h
          · have h := h.2 c_63
            try rw [hR.r 52 rfl]
            try rw [hR.r 68 rfl]
            refine ⟨by rw [hR.l 68 rfl]; exact h.1, ?_⟩
            have h := h.2
            try rw [hR.eI 68 rfl]
            refine ⟨by rw [hR.l 52 rfl]; exact h.1, ?_⟩
            have h := h.2
            try rw [hR.eJ 52 rfl]
            try rw [hR.r 69 rfl]
            refine ⟨by rw [hR.l 69 rfl]; exact h.1, ?_⟩
            have h := h.2
            try rw [hR.eJ 69 rfl]
            refine ⟨by rw [hR.l 52 rfl]; exact h.1, ?_⟩
            have h := h.2
            intro σ_108 z_109
            obtain ⟨F_16, y_17⟩ : ∃ y : FS, y = fsJ F 52 (Int32.toNatClampNeg ((fI F 68 (Int32.toNatClampNeg v4)))) ((((fJ F 52 (Int32.toNatClampNeg ((fI F 68 (Int32.toNatClampNeg v4)))))) - ((fJ F 69 (Int32.toNatClampNeg v4))))) := ⟨_, rfl⟩
            have h := h F_16 y_17
            have hR := hR.uJ 52 rfl (Int32.toNatClampNeg ((fI F 68 (Int32.toNatClampNeg v4)))) ((((fJ F 52 (Int32.toNatClampNeg ((fI F 68 (Int32.toNatClampNeg v4)))))) - ((fJ F 69 (Int32.toNatClampNeg v4)))))
            rw [← z_109, ← y_17] at hR
            try rw [hR.r 71 rfl]
            refine ⟨ma 71, rfl, hR.t 71 rfl, ?_⟩
            refine ⟨by rw [hR.l 71 rfl]; exact h.1, ?_⟩
            have h := h.2
            try rw [hR.eJ 71 rfl]
            try rw [hR.r 69 rfl]
            refine ⟨ma 69, rfl, hR.t 69 rfl, ?_⟩
            refine ⟨by rw [hR.l 69 rfl]; exact h.1, ?_⟩
            have h := h.2
            try rw [hR.eJ 69 rfl]
            refine ⟨by rw [hR.l 71 rfl]; exact h.1, ?_⟩
            have h := h.2
            intro σ_124 z_125
            obtain ⟨F_18, y_19⟩ : ∃ y : FS, y = fsJ F_16 71 (Int32.toNatClampNeg 3) ((((fJ F_16 71 (Int32.toNatClampNeg 3))) + ((fJ F_16 69 (Int32.toNatClampNeg v4))))) := ⟨_, rfl⟩
            have h := h F_18 y_19
            have hR := hR.uJ 71 rfl (Int32.toNatClampNeg 3) ((((fJ F_16 71 (Int32.toNatClampNeg 3))) + ((fJ F_16 69 (Int32.toNatClampNeg v4)))))
            rw [← z_125, ← y_19] at hR
            intro x_133 q_134
            have h := h x_133 q_134
            intro x_135 q_136
            have h := h x_135 q_136
            exact ih _ _ _ _ _ _ hR h
  unfold wf_M_pass at h
  unfold wp_M_pass
  refine fM_M_in hR ?_ h
  intro r_1 F_1 σ_2 h hR
  refine ⟨fun c_3 => ?_, fun c_3 => ?_⟩
  · have h := h.1 c_3
    obtain ⟨n, h⟩ := h
    refine ⟨n, ?_⟩
    exact b_22 n _ _ _ _ _ _ hR h
  · have h := h.2 c_3
    exact hk _ _ _ h hR
def wf_M_about (F : FS) (p1 : Int64) (p3 : Int32) (K : Int64 → FS → Prop) : Prop :=
  wf_M_find F p1 (fun (r_2 : Int32) F_1 =>
  (((¬ r_2 = 0) → (((p3 = 0) → vp_in r_2 (lnA 41) ∧ (K ((Int32.toInt64 ((fI F_1 41 (Int32.toNatClampNeg r_2))))) F_1)) ∧
  ((¬ p3 = 0) → ((p3 = 1) → vp_in r_2 (lnA 42) ∧ (K ((fJ F_1 42 (Int32.toNatClampNeg r_2))) F_1)) ∧
  ((¬ p3 = 1) → ((p3 = 2) → vp_in r_2 (lnA 46) ∧ (K ((Int32.toInt64 ((fI F_1 46 (Int32.toNatClampNeg r_2))))) F_1)) ∧
  ((¬ p3 = 2) → ((p3 = 3) → vp_in r_2 (lnA 47) ∧ (K ((Int32.toInt64 ((fI F_1 47 (Int32.toNatClampNeg r_2))))) F_1)) ∧
  ((¬ p3 = 3) → ((p3 = 4) → vp_in r_2 (lnA 48) ∧ (K ((Int32.toInt64 ((fI F_1 48 (Int32.toNatClampNeg r_2))))) F_1)) ∧
  ((¬ p3 = 4) → ((p3 = 5) → wf_M_sumOf F_1 r_2 (fun (r_37 : Int64) F_2 =>
  K r_37 F_2)) ∧
  ((¬ p3 = 5) → K ((-102)) F_1)))))))) ∧
  ((r_2 = 0) → K ((-101)) F_1)))
set_option maxHeartbeats 4000000 in
set_option maxRecDepth 100000 in
theorem fM_M_about {σ0 σ : ST} {h0 : Nat} {ma : Nat → Nat} {F : FS} {p1 : Int64} {p3 : Int32} {K : Int64 → ST → Prop} {K' : Int64 → FS → Prop} (hR : RMF σ0 σ h0 ma F) (hk : ∀ (r : Int64) (F' : FS) (σ' : ST), K' r F' → RMF σ0 σ' h0 ma F' → K r σ') (h : wf_M_about F p1 p3 K') : wp_M_about σ h0 p1 p3 K := by
  unfold wf_M_about at h
  unfold wp_M_about
  refine ⟨hR.1.1, ?_⟩
  refine fM_M_find hR ?_ h
  intro r_2 F_1 σ_3 h hR
  refine ⟨fun c_4 => ?_, fun c_4 => ?_⟩
  · have h := h.1 c_4
    refine ⟨fun c_5 => ?_, fun c_5 => ?_⟩
    · have h := h.1 c_5
      refine ⟨hR.1.1, ?_⟩
      try rw [hR.r 41 rfl]
      refine ⟨ma 41, rfl, hR.t 41 rfl, ?_⟩
      refine ⟨by rw [hR.l 41 rfl]; exact h.1, ?_⟩
      have h := h.2
      try rw [hR.eI 41 rfl]
      exact hk _ _ _ h hR
    · have h := h.2 c_5
      refine ⟨fun c_11 => ?_, fun c_11 => ?_⟩
      · have h := h.1 c_11
        refine ⟨hR.1.1, ?_⟩
        try rw [hR.r 42 rfl]
        refine ⟨ma 42, rfl, hR.t 42 rfl, ?_⟩
        refine ⟨by rw [hR.l 42 rfl]; exact h.1, ?_⟩
        have h := h.2
        try rw [hR.eJ 42 rfl]
        exact hk _ _ _ h hR
      · have h := h.2 c_11
        refine ⟨fun c_17 => ?_, fun c_17 => ?_⟩
        · have h := h.1 c_17
          refine ⟨hR.1.1, ?_⟩
          try rw [hR.r 46 rfl]
          refine ⟨ma 46, rfl, hR.t 46 rfl, ?_⟩
          refine ⟨by rw [hR.l 46 rfl]; exact h.1, ?_⟩
          have h := h.2
          try rw [hR.eI 46 rfl]
          exact hk _ _ _ h hR
        · have h := h.2 c_17
          refine ⟨fun c_23 => ?_, fun c_23 => ?_⟩
          · have h := h.1 c_23
            refine ⟨hR.1.1, ?_⟩
            try rw [hR.r 47 rfl]
            refine ⟨ma 47, rfl, hR.t 47 rfl, ?_⟩
            refine ⟨by rw [hR.l 47 rfl]; exact h.1, ?_⟩
            have h := h.2
            try rw [hR.eI 47 rfl]
            exact hk _ _ _ h hR
          · have h := h.2 c_23
            refine ⟨fun c_29 => ?_, fun c_29 => ?_⟩
            · have h := h.1 c_29
              refine ⟨hR.1.1, ?_⟩
              try rw [hR.r 48 rfl]
              refine ⟨ma 48, rfl, hR.t 48 rfl, ?_⟩
              refine ⟨by rw [hR.l 48 rfl]; exact h.1, ?_⟩
              have h := h.2
              try rw [hR.eI 48 rfl]
              exact hk _ _ _ h hR
            · have h := h.2 c_29
              refine ⟨fun c_35 => ?_, fun c_35 => ?_⟩
              · have h := h.1 c_35
                refine ⟨hR.1.1, ?_⟩
                refine fM_M_sumOf hR ?_ h
                intro r_37 F_2 σ_38 h hR
                exact hk _ _ _ h hR
              · have h := h.2 c_35
                exact hk _ _ _ h hR
  · have h := h.2 c_4
    exact hk _ _ _ h hR
def wf_M_till (F : FS) (p1 : Int32) (K : Int64 → FS → Prop) : Prop :=
  wf_M_isOffice F p1 (fun (r_1 : Int32) F_1 =>
  (((r_1 = 0) → K ((-102)) F_1) ∧
  ((¬ r_1 = 0) → vp_in p1 (lnA 52) ∧ (K ((fJ F_1 52 (Int32.toNatClampNeg p1))) F_1))))
set_option maxHeartbeats 4000000 in
set_option maxRecDepth 100000 in
theorem fM_M_till {σ0 σ : ST} {h0 : Nat} {ma : Nat → Nat} {F : FS} {p1 : Int32} {K : Int64 → ST → Prop} {K' : Int64 → FS → Prop} (hR : RMF σ0 σ h0 ma F) (hk : ∀ (r : Int64) (F' : FS) (σ' : ST), K' r F' → RMF σ0 σ' h0 ma F' → K r σ') (h : wf_M_till F p1 K') : wp_M_till σ h0 p1 K := by
  unfold wf_M_till at h
  unfold wp_M_till
  refine fM_M_isOffice hR ?_ h
  intro r_1 F_1 σ_2 h hR
  refine ⟨fun c_3 => ?_, fun c_3 => ?_⟩
  · have h := h.1 c_3
    exact hk _ _ _ h hR
  · have h := h.2 c_3
    refine ⟨hR.1.1, ?_⟩
    try rw [hR.r 52 rfl]
    refine ⟨ma 52, rfl, hR.t 52 rfl, ?_⟩
    refine ⟨by rw [hR.l 52 rfl]; exact h.1, ?_⟩
    have h := h.2
    try rw [hR.eJ 52 rfl]
    exact hk _ _ _ h hR
def wf_M_all (F : FS) (p1 : Int32) (K : Int64 → FS → Prop) : Prop :=
  wf_M_in F ((Int32.toInt64 p1)) 0 8 (fun (r_1 : Int32) F_1 =>
  (((r_1 = 0) → K ((-102)) F_1) ∧
  ((¬ r_1 = 0) → vp_in p1 (lnA 71) ∧ (K ((fJ F_1 71 (Int32.toNatClampNeg p1))) F_1))))
set_option maxHeartbeats 4000000 in
set_option maxRecDepth 100000 in
theorem fM_M_all {σ0 σ : ST} {h0 : Nat} {ma : Nat → Nat} {F : FS} {p1 : Int32} {K : Int64 → ST → Prop} {K' : Int64 → FS → Prop} (hR : RMF σ0 σ h0 ma F) (hk : ∀ (r : Int64) (F' : FS) (σ' : ST), K' r F' → RMF σ0 σ' h0 ma F' → K r σ') (h : wf_M_all F p1 K') : wp_M_all σ h0 p1 K := by
  unfold wf_M_all at h
  unfold wp_M_all
  refine fM_M_in hR ?_ h
  intro r_1 F_1 σ_2 h hR
  refine ⟨fun c_3 => ?_, fun c_3 => ?_⟩
  · have h := h.1 c_3
    exact hk _ _ _ h hR
  · have h := h.2 c_3
    refine ⟨hR.1.1, ?_⟩
    try rw [hR.r 71 rfl]
    refine ⟨ma 71, rfl, hR.t 71 rfl, ?_⟩
    refine ⟨by rw [hR.l 71 rfl]; exact h.1, ?_⟩
    have h := h.2
    try rw [hR.eJ 71 rfl]
    exact hk _ _ _ h hR
