def wfb_M_serve_9 (K : Int32 → FS → Prop) : Nat → FS → Int32 → Int32 → Prop
  | 0, _, _, _ => False
  | n + 1, F, v1, v2 =>
  (((v1 ≤ v2) → K v2 F) ∧
  ((¬ v1 ≤ v2) → (((((fN F 60)) ≤ ((fN F 61))) → K v2 F) ∧
  ((¬ ((fN F 60)) ≤ ((fN F 61))) → ∀ x_5 : Int32, x_5 = (((fN F 61)) - ((fN F 61)) / 128 * 128) → (vp_in x_5 (lnA 62) ∧ (vp_in x_5 (lnA 63) ∧ (vp_in x_5 (lnA 64) ∧ (vp_in x_5 (lnA 65) ∧ (wf_M_pay F ((fI F 62 (Int32.toNatClampNeg x_5))) ((fJ F 63 (Int32.toNatClampNeg x_5))) ((fI F 64 (Int32.toNatClampNeg x_5))) ((fJ F 65 (Int32.toNatClampNeg x_5))) (fun (r_23 : Int32) F_1 =>
  vp_in x_5 (lnA 66) ∧ (∀ F_2 : FS, F_2 = fsI F_1 66 (Int32.toNatClampNeg x_5) r_23 → (∀ F_4 : FS, F_4 = fsN F_2 61 ((((fN F_2 61)) + 1)) → (∀ x_37 : Int32, x_37 = v2 + 1 → (wfb_M_serve_9 K n F_4 v1 x_37))))))))))))))
def wf_M_serve (F : FS) (p1 : Int32) (K : Int32 → FS → Prop) : Prop :=
  (((0 ≤ p1) → ∃ n : Nat, wfb_M_serve_9 K n F p1 0) ∧
  ((¬ 0 ≤ p1) → K ((-102)) F))
set_option maxHeartbeats 4000000 in
set_option maxRecDepth 100000 in
theorem fM_M_serve {σ0 σ : ST} {h0 : Nat} {ma : Nat → Nat} {F : FS} {p1 : Int32} {K : Int32 → ST → Prop} {K' : Int32 → FS → Prop} (hR : RMF σ0 σ h0 ma F) (hk : ∀ (r : Int32) (F' : FS) (σ' : ST), K' r F' → RMF σ0 σ' h0 ma F' → K r σ') (h : wf_M_serve F p1 K') : wp_M_serve σ h0 p1 K := by
  have b_9 : ∀ (n : Nat) (σ : ST) (F : FS) (v1 : Int32) (v2 : Int32), RMF σ0 σ h0 ma F → wfb_M_serve_9 K' n F v1 v2 → wb_M_serve_9 h0 K n σ v1 v2 := by
    intro n
    induction n with
    | zero =>
      intro σ F v1 v2 hR h
      exact h.elim
    | succ n ih =>
      intro σ F v1 v2 hR h
      unfold wfb_M_serve_9 at h
      unfold wb_M_serve_9
      refine ⟨fun c_2 => ?_, fun c_2 => ?_⟩
      · have h := h.1 c_2
        exact hk _ _ _ h hR
      · have h := h.2 c_2
        refine ⟨hR.1.1, ?_⟩
        try rw [hR.n 61 rfl]
        try rw [hR.n 60 rfl]
        refine ⟨fun c_4 => ?_, fun c_4 => ?_⟩
        · have h := h.1 c_4
          exact hk _ _ _ h hR
        · have h := h.2 c_4
          try rw [hR.n 61 rfl]
          intro x_5 q_6
          have h := h x_5 q_6
          try rw [hR.r 66 rfl]
          try rw [hR.r 62 rfl]
          refine ⟨ma 62, rfl, hR.t 62 rfl, ?_⟩
          refine ⟨by rw [hR.l 62 rfl]; exact h.1, ?_⟩
          have h := h.2
          try rw [hR.eI 62 rfl]
          try rw [hR.r 63 rfl]
          refine ⟨ma 63, rfl, hR.t 63 rfl, ?_⟩
          refine ⟨by rw [hR.l 63 rfl]; exact h.1, ?_⟩
          have h := h.2
          try rw [hR.eJ 63 rfl]
          try rw [hR.r 64 rfl]
          refine ⟨ma 64, rfl, hR.t 64 rfl, ?_⟩
          refine ⟨by rw [hR.l 64 rfl]; exact h.1, ?_⟩
          have h := h.2
          try rw [hR.eI 64 rfl]
          try rw [hR.r 65 rfl]
          refine ⟨ma 65, rfl, hR.t 65 rfl, ?_⟩
          refine ⟨by rw [hR.l 65 rfl]; exact h.1, ?_⟩
          have h := h.2
          try rw [hR.eJ 65 rfl]
          refine fM_M_pay hR ?_ h
          intro r_23 F_1 σ_24 h hR
          refine ⟨ma 66, rfl, hR.t 66 rfl, ?_⟩
          refine ⟨by rw [hR.l 66 rfl]; exact h.1, ?_⟩
          have h := h.2
          intro σ_29 z_30
          obtain ⟨F_2, y_3⟩ : ∃ y : FS, y = fsI F_1 66 (Int32.toNatClampNeg x_5) r_23 := ⟨_, rfl⟩
          have h := h F_2 y_3
          have hR := hR.uI 66 rfl (Int32.toNatClampNeg x_5) r_23
          rw [← z_30, ← y_3] at hR
          refine ⟨hR.1.1, ?_⟩
          try rw [hR.n 61 rfl]
          intro σ_33 z_34
          obtain ⟨F_4, y_5⟩ : ∃ y : FS, y = fsN F_2 61 ((((fN F_2 61)) + 1)) := ⟨_, rfl⟩
          have h := h F_4 y_5
          have hR := hR.sN 61 rfl ((((fN F_2 61)) + 1))
          rw [← z_34, ← y_5] at hR
          intro x_37 q_38
          have h := h x_37 q_38
          exact ih _ _ _ _ hR h
  unfold wf_M_serve at h
  unfold wp_M_serve
  refine ⟨fun c_1 => ?_, fun c_1 => ?_⟩
  · have h := h.1 c_1
    obtain ⟨n, h⟩ := h
    refine ⟨n, ?_⟩
    exact b_9 n _ _ _ _ hR h
  · have h := h.2 c_1
    exact hk _ _ _ h hR
def wf_M_answer (F : FS) (p1 : Int32) (K : Int32 → FS → Prop) : Prop :=
  (((p1 < 0) → K ((-1)) F) ∧
  ((¬ p1 < 0) → (((((fN F 61)) ≤ p1) → K ((-1)) F) ∧
  ((¬ ((fN F 61)) ≤ p1) → (((p1 < ((((fN F 60)) - 100))) → K ((-1)) F) ∧
  ((¬ p1 < ((((fN F 60)) - 100))) → vp_in ((p1 - p1 / 128 * 128)) (lnA 66) ∧ (K ((fI F 66 (Int32.toNatClampNeg ((p1 - p1 / 128 * 128))))) F)))))))
set_option maxHeartbeats 4000000 in
set_option maxRecDepth 100000 in
theorem fM_M_answer {σ0 σ : ST} {h0 : Nat} {ma : Nat → Nat} {F : FS} {p1 : Int32} {K : Int32 → ST → Prop} {K' : Int32 → FS → Prop} (hR : RMF σ0 σ h0 ma F) (hk : ∀ (r : Int32) (F' : FS) (σ' : ST), K' r F' → RMF σ0 σ' h0 ma F' → K r σ') (h : wf_M_answer F p1 K') : wp_M_answer σ h0 p1 K := by
  unfold wf_M_answer at h
  unfold wp_M_answer
  refine ⟨fun c_1 => ?_, fun c_1 => ?_⟩
  · have h := h.1 c_1
    exact hk _ _ _ h hR
  · have h := h.2 c_1
    refine ⟨hR.1.1, ?_⟩
    try rw [hR.n 61 rfl]
    refine ⟨fun c_3 => ?_, fun c_3 => ?_⟩
    · have h := h.1 c_3
      exact hk _ _ _ h hR
    · have h := h.2 c_3
      try rw [hR.n 60 rfl]
      refine ⟨fun c_4 => ?_, fun c_4 => ?_⟩
      · have h := h.1 c_4
        exact hk _ _ _ h hR
      · have h := h.2 c_4
        try rw [hR.r 66 rfl]
        refine ⟨ma 66, rfl, hR.t 66 rfl, ?_⟩
        refine ⟨by rw [hR.l 66 rfl]; exact h.1, ?_⟩
        have h := h.2
        try rw [hR.eI 66 rfl]
        exact hk _ _ _ h hR
def wf_M_bar (F : FS) (p1 : Int64) (p3 : Int64) (K : Int32 → FS → Prop) : Prop :=
  wf_M_find F p1 (fun (r_2 : Int32) F_1 =>
  (((¬ r_2 = 0) → (((0 ≤ ((lg_cmp p3 0))) → vp_in r_2 (lnA 41) ∧ ((((((fI F_1 41 (Int32.toNatClampNeg r_2))) = 0) → vp_in r_2 (lnA 41) ∧ (∀ F_2 : FS, F_2 = fsI F_1 41 (Int32.toNatClampNeg r_2) 2 → (vp_in r_2 (lnA 49) ∧ (∀ F_4 : FS, F_4 = fsJ F_2 49 (Int32.toNatClampNeg r_2) p3 → (vp_in r_2 (lnA 50) ∧ (∀ F_6 : FS, F_6 = fsI F_4 50 (Int32.toNatClampNeg r_2) 1 → (vp_in r_2 (lnA 48) ∧ (∀ F_8 : FS, F_8 = fsI F_6 48 (Int32.toNatClampNeg r_2) ((-1)) → (K 1 F_8))))))))) ∧
  ((¬ ((fI F_1 41 (Int32.toNatClampNeg r_2))) = 0) → K ((-103)) F_1)))) ∧
  ((¬ 0 ≤ ((lg_cmp p3 0))) → K ((-102)) F_1))) ∧
  ((r_2 = 0) → K ((-101)) F_1)))
set_option maxHeartbeats 4000000 in
set_option maxRecDepth 100000 in
theorem fM_M_bar {σ0 σ : ST} {h0 : Nat} {ma : Nat → Nat} {F : FS} {p1 : Int64} {p3 : Int64} {K : Int32 → ST → Prop} {K' : Int32 → FS → Prop} (hR : RMF σ0 σ h0 ma F) (hk : ∀ (r : Int32) (F' : FS) (σ' : ST), K' r F' → RMF σ0 σ' h0 ma F' → K r σ') (h : wf_M_bar F p1 p3 K') : wp_M_bar σ h0 p1 p3 K := by
  unfold wf_M_bar at h
  unfold wp_M_bar
  refine ⟨hR.1.1, ?_⟩
  refine fM_M_find hR ?_ h
  intro r_2 F_1 σ_3 h hR
  refine ⟨fun c_4 => ?_, fun c_4 => ?_⟩
  · have h := h.1 c_4
    refine ⟨fun c_5 => ?_, fun c_5 => ?_⟩
    · have h := h.1 c_5
      refine ⟨hR.1.1, ?_⟩
      try rw [hR.r 41 rfl]
      refine ⟨ma 41, rfl, hR.t 41 rfl, ?_⟩
      refine ⟨by rw [hR.l 41 rfl]; exact h.1, ?_⟩
      have h := h.2
      try rw [hR.eI 41 rfl]
      refine ⟨fun c_11 => ?_, fun c_11 => ?_⟩
      · have h := h.1 c_11
        try rw [hR.r 41 rfl]
        refine ⟨by rw [hR.l 41 rfl]; exact h.1, ?_⟩
        have h := h.2
        intro σ_13 z_14
        obtain ⟨F_2, y_3⟩ : ∃ y : FS, y = fsI F_1 41 (Int32.toNatClampNeg r_2) 2 := ⟨_, rfl⟩
        have h := h F_2 y_3
        have hR := hR.uI 41 rfl (Int32.toNatClampNeg r_2) 2
        rw [← z_14, ← y_3] at hR
        try rw [hR.r 49 rfl]
        refine ⟨ma 49, rfl, hR.t 49 rfl, ?_⟩
        refine ⟨by rw [hR.l 49 rfl]; exact h.1, ?_⟩
        have h := h.2
        intro σ_21 z_22
        obtain ⟨F_4, y_5⟩ : ∃ y : FS, y = fsJ F_2 49 (Int32.toNatClampNeg r_2) p3 := ⟨_, rfl⟩
        have h := h F_4 y_5
        have hR := hR.uJ 49 rfl (Int32.toNatClampNeg r_2) p3
        rw [← z_22, ← y_5] at hR
        try rw [hR.r 50 rfl]
        refine ⟨ma 50, rfl, hR.t 50 rfl, ?_⟩
        refine ⟨by rw [hR.l 50 rfl]; exact h.1, ?_⟩
        have h := h.2
        intro σ_30 z_31
        obtain ⟨F_6, y_7⟩ : ∃ y : FS, y = fsI F_4 50 (Int32.toNatClampNeg r_2) 1 := ⟨_, rfl⟩
        have h := h F_6 y_7
        have hR := hR.uI 50 rfl (Int32.toNatClampNeg r_2) 1
        rw [← z_31, ← y_7] at hR
        try rw [hR.r 48 rfl]
        refine ⟨ma 48, rfl, hR.t 48 rfl, ?_⟩
        refine ⟨by rw [hR.l 48 rfl]; exact h.1, ?_⟩
        have h := h.2
        intro σ_40 z_41
        obtain ⟨F_8, y_9⟩ : ∃ y : FS, y = fsI F_6 48 (Int32.toNatClampNeg r_2) ((-1)) := ⟨_, rfl⟩
        have h := h F_8 y_9
        have hR := hR.uI 48 rfl (Int32.toNatClampNeg r_2) ((-1))
        rw [← z_41, ← y_9] at hR
        exact hk _ _ _ h hR
      · have h := h.2 c_11
        exact hk _ _ _ h hR
    · have h := h.2 c_5
      exact hk _ _ _ h hR
  · have h := h.2 c_4
    exact hk _ _ _ h hR
def wf_M_since (F : FS) (p1 : Int64) (K : Int64 → FS → Prop) : Prop :=
  wf_M_find F p1 (fun (r_2 : Int32) F_1 =>
  (((¬ r_2 = 0) → vp_in r_2 (lnA 50) ∧ ((((((fI F_1 50 (Int32.toNatClampNeg r_2))) = 0) → K ((-1)) F_1) ∧
  ((¬ ((fI F_1 50 (Int32.toNatClampNeg r_2))) = 0) → vp_in r_2 (lnA 49) ∧ (K ((fJ F_1 49 (Int32.toNatClampNeg r_2))) F_1))))) ∧
  ((r_2 = 0) → K ((-101)) F_1)))
set_option maxHeartbeats 4000000 in
set_option maxRecDepth 100000 in
theorem fM_M_since {σ0 σ : ST} {h0 : Nat} {ma : Nat → Nat} {F : FS} {p1 : Int64} {K : Int64 → ST → Prop} {K' : Int64 → FS → Prop} (hR : RMF σ0 σ h0 ma F) (hk : ∀ (r : Int64) (F' : FS) (σ' : ST), K' r F' → RMF σ0 σ' h0 ma F' → K r σ') (h : wf_M_since F p1 K') : wp_M_since σ h0 p1 K := by
  unfold wf_M_since at h
  unfold wp_M_since
  refine ⟨hR.1.1, ?_⟩
  refine fM_M_find hR ?_ h
  intro r_2 F_1 σ_3 h hR
  refine ⟨fun c_4 => ?_, fun c_4 => ?_⟩
  · have h := h.1 c_4
    refine ⟨hR.1.1, ?_⟩
    try rw [hR.r 50 rfl]
    refine ⟨ma 50, rfl, hR.t 50 rfl, ?_⟩
    refine ⟨by rw [hR.l 50 rfl]; exact h.1, ?_⟩
    have h := h.2
    try rw [hR.eI 50 rfl]
    refine ⟨fun c_10 => ?_, fun c_10 => ?_⟩
    · have h := h.1 c_10
      exact hk _ _ _ h hR
    · have h := h.2 c_10
      try rw [hR.r 49 rfl]
      refine ⟨ma 49, rfl, hR.t 49 rfl, ?_⟩
      refine ⟨by rw [hR.l 49 rfl]; exact h.1, ?_⟩
      have h := h.2
      try rw [hR.eJ 49 rfl]
      exact hk _ _ _ h hR
  · have h := h.2 c_4
    exact hk _ _ _ h hR
def wfb_M_replace_35 (K : Int32 → FS → Prop) (F : FS) (v3 : Int32) : Prop :=
  (((¬ ((fN F 40)) = (300 : Int32)) → vp_in v3 (lnA 41) ∧ (∀ F_2 : FS, F_2 = fsI F 41 (Int32.toNatClampNeg v3) 4 → (vp_in v3 (lnA 48) ∧ (∀ F_4 : FS, F_4 = fsI F_2 48 (Int32.toNatClampNeg v3) ((-1)) → (vp_in v3 (lnA 46) ∧ (vp_in v3 (lnA 42) ∧ (vp_in v3 (lnA 43) ∧ (vp_in v3 (lnA 44) ∧ (vp_in v3 (lnA 45) ∧ (wf_M_add F_4 ((fI F_4 46 (Int32.toNatClampNeg v3))) ((fJ F_4 42 (Int32.toNatClampNeg v3))) ((fJ F_4 43 (Int32.toNatClampNeg v3))) ((fI F_4 44 (Int32.toNatClampNeg v3))) ((fI F_4 45 (Int32.toNatClampNeg v3))) (fun (r_50 : Int32) F_6 =>
  K r_50 F_6))))))))))) ∧
  ((((fN F 40)) = (300 : Int32)) → K ((-104)) F))
def wf_M_replace (F : FS) (p1 : Int64) (K : Int32 → FS → Prop) : Prop :=
  wf_M_find F p1 (fun (r_2 : Int32) F_1 =>
  (((¬ r_2 = 0) → vp_in r_2 (lnA 41) ∧ ((((((fI F_1 41 (Int32.toNatClampNeg r_2))) = 0) → wfb_M_replace_35 K F_1 r_2) ∧
  ((¬ ((fI F_1 41 (Int32.toNatClampNeg r_2))) = 0) → vp_in r_2 (lnA 41) ∧ ((((((fI F_1 41 (Int32.toNatClampNeg r_2))) = (2 : Int32)) → wfb_M_replace_35 K F_1 r_2) ∧
  ((¬ ((fI F_1 41 (Int32.toNatClampNeg r_2))) = (2 : Int32)) → K ((-103)) F_1))))))) ∧
  ((r_2 = 0) → K ((-101)) F_1)))
set_option maxHeartbeats 4000000 in
set_option maxRecDepth 100000 in
theorem fM_M_replace {σ0 σ : ST} {h0 : Nat} {ma : Nat → Nat} {F : FS} {p1 : Int64} {K : Int32 → ST → Prop} {K' : Int32 → FS → Prop} (hR : RMF σ0 σ h0 ma F) (hk : ∀ (r : Int32) (F' : FS) (σ' : ST), K' r F' → RMF σ0 σ' h0 ma F' → K r σ') (h : wf_M_replace F p1 K') : wp_M_replace σ h0 p1 K := by
  have b_35 : ∀ (σ : ST) (F : FS) (v3 : Int32), RMF σ0 σ h0 ma F → wfb_M_replace_35 K' F v3 → wb_M_replace_35 h0 K σ v3 := by
    intro σ F v3 hR h
    unfold wfb_M_replace_35 at h
    unfold wb_M_replace_35
    refine ⟨hR.1.1, ?_⟩
    try rw [hR.n 40 rfl]
    refine ⟨fun c_12 => ?_, fun c_12 => ?_⟩
    · have h := h.1 c_12
      try rw [hR.r 41 rfl]
      refine ⟨ma 41, rfl, hR.t 41 rfl, ?_⟩
      refine ⟨by rw [hR.l 41 rfl]; exact h.1, ?_⟩
      have h := h.2
      intro σ_17 z_18
      obtain ⟨F_2, y_3⟩ : ∃ y : FS, y = fsI F 41 (Int32.toNatClampNeg v3) 4 := ⟨_, rfl⟩
      have h := h F_2 y_3
      have hR := hR.uI 41 rfl (Int32.toNatClampNeg v3) 4
      rw [← z_18, ← y_3] at hR
      try rw [hR.r 48 rfl]
      refine ⟨ma 48, rfl, hR.t 48 rfl, ?_⟩
      refine ⟨by rw [hR.l 48 rfl]; exact h.1, ?_⟩
      have h := h.2
      intro σ_25 z_26
      obtain ⟨F_4, y_5⟩ : ∃ y : FS, y = fsI F_2 48 (Int32.toNatClampNeg v3) ((-1)) := ⟨_, rfl⟩
      have h := h F_4 y_5
      have hR := hR.uI 48 rfl (Int32.toNatClampNeg v3) ((-1))
      rw [← z_26, ← y_5] at hR
      try rw [hR.r 46 rfl]
      refine ⟨ma 46, rfl, hR.t 46 rfl, ?_⟩
      refine ⟨by rw [hR.l 46 rfl]; exact h.1, ?_⟩
      have h := h.2
      try rw [hR.eI 46 rfl]
      try rw [hR.r 42 rfl]
      refine ⟨ma 42, rfl, hR.t 42 rfl, ?_⟩
      refine ⟨by rw [hR.l 42 rfl]; exact h.1, ?_⟩
      have h := h.2
      try rw [hR.eJ 42 rfl]
      try rw [hR.r 43 rfl]
      refine ⟨ma 43, rfl, hR.t 43 rfl, ?_⟩
      refine ⟨by rw [hR.l 43 rfl]; exact h.1, ?_⟩
      have h := h.2
      try rw [hR.eJ 43 rfl]
      try rw [hR.r 44 rfl]
      refine ⟨ma 44, rfl, hR.t 44 rfl, ?_⟩
      refine ⟨by rw [hR.l 44 rfl]; exact h.1, ?_⟩
      have h := h.2
      try rw [hR.eI 44 rfl]
      try rw [hR.r 45 rfl]
      refine ⟨ma 45, rfl, hR.t 45 rfl, ?_⟩
      refine ⟨by rw [hR.l 45 rfl]; exact h.1, ?_⟩
      have h := h.2
      try rw [hR.eI 45 rfl]
      refine fM_M_add hR ?_ h
      intro r_50 F_6 σ_51 h hR
      exact hk _ _ _ h hR
    · have h := h.2 c_12
      exact hk _ _ _ h hR
  unfold wf_M_replace at h
  unfold wp_M_replace
  refine ⟨hR.1.1, ?_⟩
  refine fM_M_find hR ?_ h
  intro r_2 F_1 σ_3 h hR
  refine ⟨fun c_4 => ?_, fun c_4 => ?_⟩
  · have h := h.1 c_4
    refine ⟨hR.1.1, ?_⟩
    try rw [hR.r 41 rfl]
    refine ⟨ma 41, rfl, hR.t 41 rfl, ?_⟩
    refine ⟨by rw [hR.l 41 rfl]; exact h.1, ?_⟩
    have h := h.2
    try rw [hR.eI 41 rfl]
    refine ⟨fun c_10 => ?_, fun c_10 => ?_⟩
    · have h := h.1 c_10
      exact b_35 _ _ _ hR h
    · have h := h.2 c_10
      try rw [hR.r 41 rfl]
      refine ⟨by rw [hR.l 41 rfl]; exact h.1, ?_⟩
      have h := h.2
      try rw [hR.eI 41 rfl]
      refine ⟨fun c_53 => ?_, fun c_53 => ?_⟩
      · have h := h.1 c_53
        exact b_35 _ _ _ hR h
      · have h := h.2 c_53
        exact hk _ _ _ h hR
  · have h := h.2 c_4
    exact hk _ _ _ h hR
def wfb_M_tick_14 (K : Int32 → FS → Prop) : Nat → FS → Int64 → Int32 → Int32 → Prop
  | 0, _, _, _, _ => False
  | n + 1, F, v1, v3, v4 =>
  (((((fN F 40)) < v4) → K v3 F) ∧
  ((¬ ((fN F 40)) < v4) → vp_in v4 (lnA 41) ∧ ((((((fI F 41 (Int32.toNatClampNeg v4))) = 0) → vp_in v4 (lnA 43) ∧ ((((0 ≤ ((lg_cmp ((fJ F 43 (Int32.toNatClampNeg v4))) v1))) → ((((0 : Int32) = 0) → ∀ x_15 : Int32, x_15 = v4 + 1 → (wfb_M_tick_14 K n F v1 v3 x_15)) ∧
  ((¬ (0 : Int32) = 0) → vp_in v4 (lnA 46) ∧ (vp_in ((fI F 46 (Int32.toNatClampNeg v4))) (lnA 52) ∧ (vp_in v4 (lnA 42) ∧ (vp_in ((fI F 46 (Int32.toNatClampNeg v4))) (lnA 52) ∧ (∀ F_1 : FS, F_1 = fsJ F 52 (Int32.toNatClampNeg ((fI F 46 (Int32.toNatClampNeg v4)))) ((((fJ F 52 (Int32.toNatClampNeg ((fI F 46 (Int32.toNatClampNeg v4)))))) - ((fJ F 42 (Int32.toNatClampNeg v4))))) → (vp_in 4 (lnA 71) ∧ (vp_in v4 (lnA 42) ∧ (vp_in 4 (lnA 71) ∧ (∀ F_3 : FS, F_3 = fsJ F_1 71 (Int32.toNatClampNeg 4) ((((fJ F_1 71 (Int32.toNatClampNeg 4))) + ((fJ F_1 42 (Int32.toNatClampNeg v4))))) → (vp_in v4 (lnA 41) ∧ (∀ F_5 : FS, F_5 = fsI F_3 41 (Int32.toNatClampNeg v4) 3 → (vp_in v4 (lnA 48) ∧ (∀ F_7 : FS, F_7 = fsI F_5 48 (Int32.toNatClampNeg v4) ((-1)) → (∀ x_88 : Int32, x_88 = v3 + 1 → (∀ x_90 : Int32, x_90 = v4 + 1 → (wfb_M_tick_14 K n F_7 v1 x_88 x_90)))))))))))))))))) ∧
  ((¬ 0 ≤ ((lg_cmp ((fJ F 43 (Int32.toNatClampNeg v4))) v1))) → vp_in v4 (lnA 46) ∧ (vp_in ((fI F 46 (Int32.toNatClampNeg v4))) (lnA 52) ∧ (vp_in v4 (lnA 42) ∧ ((((((lg_cmp ((fJ F 52 (Int32.toNatClampNeg ((fI F 46 (Int32.toNatClampNeg v4)))))) ((fJ F 42 (Int32.toNatClampNeg v4))))) < 0) → ((((0 : Int32) = 0) → ∀ x_106 : Int32, x_106 = v4 + 1 → (wfb_M_tick_14 K n F v1 v3 x_106)) ∧
  ((¬ (0 : Int32) = 0) → vp_in v4 (lnA 46) ∧ (vp_in ((fI F 46 (Int32.toNatClampNeg v4))) (lnA 52) ∧ (vp_in v4 (lnA 42) ∧ (vp_in ((fI F 46 (Int32.toNatClampNeg v4))) (lnA 52) ∧ (∀ F_9 : FS, F_9 = fsJ F 52 (Int32.toNatClampNeg ((fI F 46 (Int32.toNatClampNeg v4)))) ((((fJ F 52 (Int32.toNatClampNeg ((fI F 46 (Int32.toNatClampNeg v4)))))) - ((fJ F 42 (Int32.toNatClampNeg v4))))) → (vp_in 4 (lnA 71) ∧ (vp_in v4 (lnA 42) ∧ (vp_in 4 (lnA 71) ∧ (∀ F_11 : FS, F_11 = fsJ F_9 71 (Int32.toNatClampNeg 4) ((((fJ F_9 71 (Int32.toNatClampNeg 4))) + ((fJ F_9 42 (Int32.toNatClampNeg v4))))) → (vp_in v4 (lnA 41) ∧ (∀ F_13 : FS, F_13 = fsI F_11 41 (Int32.toNatClampNeg v4) 3 → (vp_in v4 (lnA 48) ∧ (∀ F_15 : FS, F_15 = fsI F_13 48 (Int32.toNatClampNeg v4) ((-1)) → (∀ x_170 : Int32, x_170 = v3 + 1 → (∀ x_172 : Int32, x_172 = v4 + 1 → (wfb_M_tick_14 K n F_15 v1 x_170 x_172)))))))))))))))))) ∧
  ((¬ ((lg_cmp ((fJ F 52 (Int32.toNatClampNeg ((fI F 46 (Int32.toNatClampNeg v4)))))) ((fJ F 42 (Int32.toNatClampNeg v4))))) < 0) → ((((1 : Int32) = 0) → ∀ x_175 : Int32, x_175 = v4 + 1 → (wfb_M_tick_14 K n F v1 v3 x_175)) ∧
  ((¬ (1 : Int32) = 0) → vp_in v4 (lnA 46) ∧ (vp_in ((fI F 46 (Int32.toNatClampNeg v4))) (lnA 52) ∧ (vp_in v4 (lnA 42) ∧ (vp_in ((fI F 46 (Int32.toNatClampNeg v4))) (lnA 52) ∧ (∀ F_17 : FS, F_17 = fsJ F 52 (Int32.toNatClampNeg ((fI F 46 (Int32.toNatClampNeg v4)))) ((((fJ F 52 (Int32.toNatClampNeg ((fI F 46 (Int32.toNatClampNeg v4)))))) - ((fJ F 42 (Int32.toNatClampNeg v4))))) → (vp_in 4 (lnA 71) ∧ (vp_in v4 (lnA 42) ∧ (vp_in 4 (lnA 71) ∧ (∀ F_19 : FS, F_19 = fsJ F_17 71 (Int32.toNatClampNeg 4) ((((fJ F_17 71 (Int32.toNatClampNeg 4))) + ((fJ F_17 42 (Int32.toNatClampNeg v4))))) → (vp_in v4 (lnA 41) ∧ (∀ F_21 : FS, F_21 = fsI F_19 41 (Int32.toNatClampNeg v4) 3 → (vp_in v4 (lnA 48) ∧ (∀ F_23 : FS, F_23 = fsI F_21 48 (Int32.toNatClampNeg v4) ((-1)) → (∀ x_239 : Int32, x_239 = v3 + 1 → (∀ x_241 : Int32, x_241 = v4 + 1 → (wfb_M_tick_14 K n F_23 v1 x_239 x_241)))))))))))))))))))))))))) ∧
  ((¬ ((fI F 41 (Int32.toNatClampNeg v4))) = 0) → vp_in v4 (lnA 41) ∧ ((((¬ ((fI F 41 (Int32.toNatClampNeg v4))) = (2 : Int32)) → ((((0 : Int32) = 0) → ∀ x_246 : Int32, x_246 = v4 + 1 → (wfb_M_tick_14 K n F v1 v3 x_246)) ∧
  ((¬ (0 : Int32) = 0) → vp_in v4 (lnA 46) ∧ (vp_in ((fI F 46 (Int32.toNatClampNeg v4))) (lnA 52) ∧ (vp_in v4 (lnA 42) ∧ (vp_in ((fI F 46 (Int32.toNatClampNeg v4))) (lnA 52) ∧ (∀ F_25 : FS, F_25 = fsJ F 52 (Int32.toNatClampNeg ((fI F 46 (Int32.toNatClampNeg v4)))) ((((fJ F 52 (Int32.toNatClampNeg ((fI F 46 (Int32.toNatClampNeg v4)))))) - ((fJ F 42 (Int32.toNatClampNeg v4))))) → (vp_in 4 (lnA 71) ∧ (vp_in v4 (lnA 42) ∧ (vp_in 4 (lnA 71) ∧ (∀ F_27 : FS, F_27 = fsJ F_25 71 (Int32.toNatClampNeg 4) ((((fJ F_25 71 (Int32.toNatClampNeg 4))) + ((fJ F_25 42 (Int32.toNatClampNeg v4))))) → (vp_in v4 (lnA 41) ∧ (∀ F_29 : FS, F_29 = fsI F_27 41 (Int32.toNatClampNeg v4) 3 → (vp_in v4 (lnA 48) ∧ (∀ F_31 : FS, F_31 = fsI F_29 48 (Int32.toNatClampNeg v4) ((-1)) → (∀ x_315 : Int32, x_315 = v3 + 1 → (∀ x_317 : Int32, x_317 = v4 + 1 → (wfb_M_tick_14 K n F_31 v1 x_315 x_317)))))))))))))))))) ∧
  ((((fI F 41 (Int32.toNatClampNeg v4))) = (2 : Int32)) → vp_in v4 (lnA 43) ∧ ((((0 ≤ ((lg_cmp ((fJ F 43 (Int32.toNatClampNeg v4))) v1))) → ((((0 : Int32) = 0) → ∀ x_325 : Int32, x_325 = v4 + 1 → (wfb_M_tick_14 K n F v1 v3 x_325)) ∧
  ((¬ (0 : Int32) = 0) → vp_in v4 (lnA 46) ∧ (vp_in ((fI F 46 (Int32.toNatClampNeg v4))) (lnA 52) ∧ (vp_in v4 (lnA 42) ∧ (vp_in ((fI F 46 (Int32.toNatClampNeg v4))) (lnA 52) ∧ (∀ F_33 : FS, F_33 = fsJ F 52 (Int32.toNatClampNeg ((fI F 46 (Int32.toNatClampNeg v4)))) ((((fJ F 52 (Int32.toNatClampNeg ((fI F 46 (Int32.toNatClampNeg v4)))))) - ((fJ F 42 (Int32.toNatClampNeg v4))))) → (vp_in 4 (lnA 71) ∧ (vp_in v4 (lnA 42) ∧ (vp_in 4 (lnA 71) ∧ (∀ F_35 : FS, F_35 = fsJ F_33 71 (Int32.toNatClampNeg 4) ((((fJ F_33 71 (Int32.toNatClampNeg 4))) + ((fJ F_33 42 (Int32.toNatClampNeg v4))))) → (vp_in v4 (lnA 41) ∧ (∀ F_37 : FS, F_37 = fsI F_35 41 (Int32.toNatClampNeg v4) 3 → (vp_in v4 (lnA 48) ∧ (∀ F_39 : FS, F_39 = fsI F_37 48 (Int32.toNatClampNeg v4) ((-1)) → (∀ x_398 : Int32, x_398 = v3 + 1 → (∀ x_400 : Int32, x_400 = v4 + 1 → (wfb_M_tick_14 K n F_39 v1 x_398 x_400)))))))))))))))))) ∧
  ((¬ 0 ≤ ((lg_cmp ((fJ F 43 (Int32.toNatClampNeg v4))) v1))) → vp_in v4 (lnA 46) ∧ (vp_in ((fI F 46 (Int32.toNatClampNeg v4))) (lnA 52) ∧ (vp_in v4 (lnA 42) ∧ ((((((lg_cmp ((fJ F 52 (Int32.toNatClampNeg ((fI F 46 (Int32.toNatClampNeg v4)))))) ((fJ F 42 (Int32.toNatClampNeg v4))))) < 0) → ((((0 : Int32) = 0) → ∀ x_416 : Int32, x_416 = v4 + 1 → (wfb_M_tick_14 K n F v1 v3 x_416)) ∧
  ((¬ (0 : Int32) = 0) → vp_in v4 (lnA 46) ∧ (vp_in ((fI F 46 (Int32.toNatClampNeg v4))) (lnA 52) ∧ (vp_in v4 (lnA 42) ∧ (vp_in ((fI F 46 (Int32.toNatClampNeg v4))) (lnA 52) ∧ (∀ F_41 : FS, F_41 = fsJ F 52 (Int32.toNatClampNeg ((fI F 46 (Int32.toNatClampNeg v4)))) ((((fJ F 52 (Int32.toNatClampNeg ((fI F 46 (Int32.toNatClampNeg v4)))))) - ((fJ F 42 (Int32.toNatClampNeg v4))))) → (vp_in 4 (lnA 71) ∧ (vp_in v4 (lnA 42) ∧ (vp_in 4 (lnA 71) ∧ (∀ F_43 : FS, F_43 = fsJ F_41 71 (Int32.toNatClampNeg 4) ((((fJ F_41 71 (Int32.toNatClampNeg 4))) + ((fJ F_41 42 (Int32.toNatClampNeg v4))))) → (vp_in v4 (lnA 41) ∧ (∀ F_45 : FS, F_45 = fsI F_43 41 (Int32.toNatClampNeg v4) 3 → (vp_in v4 (lnA 48) ∧ (∀ F_47 : FS, F_47 = fsI F_45 48 (Int32.toNatClampNeg v4) ((-1)) → (∀ x_480 : Int32, x_480 = v3 + 1 → (∀ x_482 : Int32, x_482 = v4 + 1 → (wfb_M_tick_14 K n F_47 v1 x_480 x_482)))))))))))))))))) ∧
  ((¬ ((lg_cmp ((fJ F 52 (Int32.toNatClampNeg ((fI F 46 (Int32.toNatClampNeg v4)))))) ((fJ F 42 (Int32.toNatClampNeg v4))))) < 0) → ((((1 : Int32) = 0) → ∀ x_485 : Int32, x_485 = v4 + 1 → (wfb_M_tick_14 K n F v1 v3 x_485)) ∧
  ((¬ (1 : Int32) = 0) → vp_in v4 (lnA 46) ∧ (vp_in ((fI F 46 (Int32.toNatClampNeg v4))) (lnA 52) ∧ (vp_in v4 (lnA 42) ∧ (vp_in ((fI F 46 (Int32.toNatClampNeg v4))) (lnA 52) ∧ (∀ F_49 : FS, F_49 = fsJ F 52 (Int32.toNatClampNeg ((fI F 46 (Int32.toNatClampNeg v4)))) ((((fJ F 52 (Int32.toNatClampNeg ((fI F 46 (Int32.toNatClampNeg v4)))))) - ((fJ F 42 (Int32.toNatClampNeg v4))))) → (vp_in 4 (lnA 71) ∧ (vp_in v4 (lnA 42) ∧ (vp_in 4 (lnA 71) ∧ (∀ F_51 : FS, F_51 = fsJ F_49 71 (Int32.toNatClampNeg 4) ((((fJ F_49 71 (Int32.toNatClampNeg 4))) + ((fJ F_49 42 (Int32.toNatClampNeg v4))))) → (vp_in v4 (lnA 41) ∧ (∀ F_53 : FS, F_53 = fsI F_51 41 (Int32.toNatClampNeg v4) 3 → (vp_in v4 (lnA 48) ∧ (∀ F_55 : FS, F_55 = fsI F_53 48 (Int32.toNatClampNeg v4) ((-1)) → (∀ x_549 : Int32, x_549 = v3 + 1 → (∀ x_551 : Int32, x_551 = v4 + 1 → (wfb_M_tick_14 K n F_55 v1 x_549 x_551)))))))))))))))))))))))))))))))))
def wf_M_tick (F : FS) (p1 : Int64) (K : Int32 → FS → Prop) : Prop :=
  (((0 ≤ ((lg_cmp p1 0))) → ∃ n : Nat, wfb_M_tick_14 K n F p1 0 1) ∧
  ((¬ 0 ≤ ((lg_cmp p1 0))) → K ((-102)) F))
set_option maxHeartbeats 4000000 in
set_option maxRecDepth 100000 in
theorem fM_M_tick {σ0 σ : ST} {h0 : Nat} {ma : Nat → Nat} {F : FS} {p1 : Int64} {K : Int32 → ST → Prop} {K' : Int32 → FS → Prop} (hR : RMF σ0 σ h0 ma F) (hk : ∀ (r : Int32) (F' : FS) (σ' : ST), K' r F' → RMF σ0 σ' h0 ma F' → K r σ') (h : wf_M_tick F p1 K') : wp_M_tick σ h0 p1 K := by
  have b_14 : ∀ (n : Nat) (σ : ST) (F : FS) (v1 : Int64) (v3 : Int32) (v4 : Int32), RMF σ0 σ h0 ma F → wfb_M_tick_14 K' n F v1 v3 v4 → wb_M_tick_14 h0 K n σ v1 v3 v4 := by
    intro n
    induction n with
    | zero =>
      intro σ F v1 v3 v4 hR h
      exact h.elim
    | succ n ih =>
      intro σ F v1 v3 v4 hR h
      unfold wfb_M_tick_14 at h
      unfold wb_M_tick_14
      refine ⟨hR.1.1, ?_⟩
      try rw [hR.n 40 rfl]
      refine ⟨fun c_3 => ?_, fun c_3 => ?_⟩
      · have h := h.1 c_3
        exact hk _ _ _ h hR
      · have h := h.2 c_3
        try rw [hR.r 41 rfl]
        refine ⟨ma 41, rfl, hR.t 41 rfl, ?_⟩
        refine ⟨by rw [hR.l 41 rfl]; exact h.1, ?_⟩
        have h := h.2
        try rw [hR.eI 41 rfl]
        refine ⟨fun c_8 => ?_, fun c_8 => ?_⟩
        · have h := h.1 c_8
          try rw [hR.r 43 rfl]
          refine ⟨ma 43, rfl, hR.t 43 rfl, ?_⟩
          refine ⟨by rw [hR.l 43 rfl]; exact h.1, ?_⟩
          have h := h.2
          try rw [hR.eJ 43 rfl]
          refine ⟨fun c_13 => ?_, fun c_13 => ?_⟩
          · have h := h.1 c_13
            refine ⟨fun c_14 => ?_, fun c_14 => ?_⟩
            · have h := h.1 c_14
              intro x_15 q_16
              have h := h x_15 q_16
              exact ih _ _ _ _ _ hR h
            · have h := h.2 c_14
              try rw [hR.r 52 rfl]
              try rw [hR.r 46 rfl]
              refine ⟨ma 46, rfl, hR.t 46 rfl, ?_⟩
              refine ⟨by rw [hR.l 46 rfl]; exact h.1, ?_⟩
              have h := h.2
              try rw [hR.eI 46 rfl]
              refine ⟨ma 52, rfl, hR.t 52 rfl, ?_⟩
              refine ⟨by rw [hR.l 52 rfl]; exact h.1, ?_⟩
              have h := h.2
              try rw [hR.eJ 52 rfl]
              try rw [hR.r 42 rfl]
              refine ⟨ma 42, rfl, hR.t 42 rfl, ?_⟩
              refine ⟨by rw [hR.l 42 rfl]; exact h.1, ?_⟩
              have h := h.2
              try rw [hR.eJ 42 rfl]
              refine ⟨by rw [hR.l 52 rfl]; exact h.1, ?_⟩
              have h := h.2
              intro σ_30 z_31
              obtain ⟨F_1, y_2⟩ : ∃ y : FS, y = fsJ F 52 (Int32.toNatClampNeg ((fI F 46 (Int32.toNatClampNeg v4)))) ((((fJ F 52 (Int32.toNatClampNeg ((fI F 46 (Int32.toNatClampNeg v4)))))) - ((fJ F 42 (Int32.toNatClampNeg v4))))) := ⟨_, rfl⟩
              have h := h F_1 y_2
              have hR := hR.uJ 52 rfl (Int32.toNatClampNeg ((fI F 46 (Int32.toNatClampNeg v4)))) ((((fJ F 52 (Int32.toNatClampNeg ((fI F 46 (Int32.toNatClampNeg v4)))))) - ((fJ F 42 (Int32.toNatClampNeg v4)))))
              rw [← z_31, ← y_2] at hR
              try rw [hR.r 71 rfl]
              refine ⟨ma 71, rfl, hR.t 71 rfl, ?_⟩
              refine ⟨by rw [hR.l 71 rfl]; exact h.1, ?_⟩
              have h := h.2
              try rw [hR.eJ 71 rfl]
              try rw [hR.r 42 rfl]
              refine ⟨ma 42, rfl, hR.t 42 rfl, ?_⟩
              refine ⟨by rw [hR.l 42 rfl]; exact h.1, ?_⟩
              have h := h.2
              try rw [hR.eJ 42 rfl]
              refine ⟨by rw [hR.l 71 rfl]; exact h.1, ?_⟩
              have h := h.2
              intro σ_47 z_48
              obtain ⟨F_3, y_4⟩ : ∃ y : FS, y = fsJ F_1 71 (Int32.toNatClampNeg 4) ((((fJ F_1 71 (Int32.toNatClampNeg 4))) + ((fJ F_1 42 (Int32.toNatClampNeg v4))))) := ⟨_, rfl⟩
              have h := h F_3 y_4
              have hR := hR.uJ 71 rfl (Int32.toNatClampNeg 4) ((((fJ F_1 71 (Int32.toNatClampNeg 4))) + ((fJ F_1 42 (Int32.toNatClampNeg v4)))))
              rw [← z_48, ← y_4] at hR
              try rw [hR.r 41 rfl]
              refine ⟨ma 41, rfl, hR.t 41 rfl, ?_⟩
              refine ⟨by rw [hR.l 41 rfl]; exact h.1, ?_⟩
              have h := h.2
              intro σ_61 z_62
              obtain ⟨F_5, y_6⟩ : ∃ y : FS, y = fsI F_3 41 (Int32.toNatClampNeg v4) 3 := ⟨_, rfl⟩
              have h := h F_5 y_6
              have hR := hR.uI 41 rfl (Int32.toNatClampNeg v4) 3
              rw [← z_62, ← y_6] at hR
              try rw [hR.r 48 rfl]
              refine ⟨ma 48, rfl, hR.t 48 rfl, ?_⟩
              refine ⟨by rw [hR.l 48 rfl]; exact h.1, ?_⟩
              have h := h.2
              intro σ_76 z_77
              obtain ⟨F_7, y_8⟩ : ∃ y : FS, y = fsI F_5 48 (Int32.toNatClampNeg v4) ((-1)) := ⟨_, rfl⟩
              have h := h F_7 y_8
              have hR := hR.uI 48 rfl (Int32.toNatClampNeg v4) ((-1))
              rw [← z_77, ← y_8] at hR
              intro x_88 q_89
              have h := h x_88 q_89
              intro x_90 q_91
              have h := h x_90 q_91
              exact ih _ _ _ _ _ hR h
          · have h := h.2 c_13
            try rw [hR.r 52 rfl]
            try rw [hR.r 46 rfl]
            refine ⟨ma 46, rfl, hR.t 46 rfl, ?_⟩
            refine ⟨by rw [hR.l 46 rfl]; exact h.1, ?_⟩
            have h := h.2
            try rw [hR.eI 46 rfl]
            refine ⟨ma 52, rfl, hR.t 52 rfl, ?_⟩
            refine ⟨by rw [hR.l 52 rfl]; exact h.1, ?_⟩
            have h := h.2
            try rw [hR.eJ 52 rfl]
            try rw [hR.r 42 rfl]
            refine ⟨ma 42, rfl, hR.t 42 rfl, ?_⟩
            refine ⟨by rw [hR.l 42 rfl]; exact h.1, ?_⟩
            have h := h.2
            try rw [hR.eJ 42 rfl]
            refine ⟨fun c_104 => ?_, fun c_104 => ?_⟩
            · have h := h.1 c_104
              refine ⟨fun c_105 => ?_, fun c_105 => ?_⟩
              · have h := h.1 c_105
                intro x_106 q_107
                have h := h x_106 q_107
                exact ih _ _ _ _ _ hR h
              · have h := h.2 c_105
                try rw [hR.r 52 rfl]
                try rw [hR.r 46 rfl]
                refine ⟨by rw [hR.l 46 rfl]; exact h.1, ?_⟩
                have h := h.2
                try rw [hR.eI 46 rfl]
                refine ⟨by rw [hR.l 52 rfl]; exact h.1, ?_⟩
                have h := h.2
                try rw [hR.eJ 52 rfl]
                try rw [hR.r 42 rfl]
                refine ⟨by rw [hR.l 42 rfl]; exact h.1, ?_⟩
                have h := h.2
                try rw [hR.eJ 42 rfl]
                refine ⟨by rw [hR.l 52 rfl]; exact h.1, ?_⟩
                have h := h.2
                intro σ_112 z_113
                obtain ⟨F_9, y_10⟩ : ∃ y : FS, y = fsJ F 52 (Int32.toNatClampNeg ((fI F 46 (Int32.toNatClampNeg v4)))) ((((fJ F 52 (Int32.toNatClampNeg ((fI F 46 (Int32.toNatClampNeg v4)))))) - ((fJ F 42 (Int32.toNatClampNeg v4))))) := ⟨_, rfl⟩
                have h := h F_9 y_10
                have hR := hR.uJ 52 rfl (Int32.toNatClampNeg ((fI F 46 (Int32.toNatClampNeg v4)))) ((((fJ F 52 (Int32.toNatClampNeg ((fI F 46 (Int32.toNatClampNeg v4)))))) - ((fJ F 42 (Int32.toNatClampNeg v4)))))
                rw [← z_113, ← y_10] at hR
                try rw [hR.r 71 rfl]
                refine ⟨ma 71, rfl, hR.t 71 rfl, ?_⟩
                refine ⟨by rw [hR.l 71 rfl]; exact h.1, ?_⟩
                have h := h.2
                try rw [hR.eJ 71 rfl]
                try rw [hR.r 42 rfl]
                refine ⟨ma 42, rfl, hR.t 42 rfl, ?_⟩
                refine ⟨by rw [hR.l 42 rfl]; exact h.1, ?_⟩
                have h := h.2
                try rw [hR.eJ 42 rfl]
                refine ⟨by rw [hR.l 71 rfl]; exact h.1, ?_⟩
                have h := h.2
                intro σ_129 z_130
                obtain ⟨F_11, y_12⟩ : ∃ y : FS, y = fsJ F_9 71 (Int32.toNatClampNeg 4) ((((fJ F_9 71 (Int32.toNatClampNeg 4))) + ((fJ F_9 42 (Int32.toNatClampNeg v4))))) := ⟨_, rfl⟩
                have h := h F_11 y_12
                have hR := hR.uJ 71 rfl (Int32.toNatClampNeg 4) ((((fJ F_9 71 (Int32.toNatClampNeg 4))) + ((fJ F_9 42 (Int32.toNatClampNeg v4)))))
                rw [← z_130, ← y_12] at hR
                try rw [hR.r 41 rfl]
                refine ⟨ma 41, rfl, hR.t 41 rfl, ?_⟩
                refine ⟨by rw [hR.l 41 rfl]; exact h.1, ?_⟩
                have h := h.2
                intro σ_143 z_144
                obtain ⟨F_13, y_14⟩ : ∃ y : FS, y = fsI F_11 41 (Int32.toNatClampNeg v4) 3 := ⟨_, rfl⟩
                have h := h F_13 y_14
                have hR := hR.uI 41 rfl (Int32.toNatClampNeg v4) 3
                rw [← z_144, ← y_14] at hR
                try rw [hR.r 48 rfl]
                refine ⟨ma 48, rfl, hR.t 48 rfl, ?_⟩
                refine ⟨by rw [hR.l 48 rfl]; exact h.1, ?_⟩
                have h := h.2
                intro σ_158 z_159
                obtain ⟨F_15, y_16⟩ : ∃ y : FS, y = fsI F_13 48 (Int32.toNatClampNeg v4) ((-1)) := ⟨_, rfl⟩
                have h := h F_15 y_16
                have hR := hR.uI 48 rfl (Int32.toNatClampNeg v4) ((-1))
                rw [← z_159, ← y_16] at hR
                intro x_170 q_171
                have h := h x_170 q_171
                intro x_172 q_173
                have h := h x_172 q_173
                exact ih _ _ _ _ _ hR h
            · have h := h.2 c_104
              refine ⟨fun c_174 => ?_, fun c_174 => ?_⟩
              · have h := h.1 c_174
                intro x_175 q_176
                have h := h x_175 q_176
                exact ih _ _ _ _ _ hR h
              · have h := h.2 c_174
                try rw [hR.r 52 rfl]
                try rw [hR.r 46 rfl]
                refine ⟨by rw [hR.l 46 rfl]; exact h.1, ?_⟩
                have h := h.2
                try rw [hR.eI 46 rfl]
                refine ⟨by rw [hR.l 52 rfl]; exact h.1, ?_⟩
                have h := h.2
                try rw [hR.eJ 52 rfl]
                try rw [hR.r 42 rfl]
                refine ⟨by rw [hR.l 42 rfl]; exact h.1, ?_⟩
                have h := h.2
                try rw [hR.eJ 42 rfl]
                refine ⟨by rw [hR.l 52 rfl]; exact h.1, ?_⟩
                have h := h.2
                intro σ_181 z_182
                obtain ⟨F_17, y_18⟩ : ∃ y : FS, y = fsJ F 52 (Int32.toNatClampNeg ((fI F 46 (Int32.toNatClampNeg v4)))) ((((fJ F 52 (Int32.toNatClampNeg ((fI F 46 (Int32.toNatClampNeg v4)))))) - ((fJ F 42 (Int32.toNatClampNeg v4))))) := ⟨_, rfl⟩
                have h := h F_17 y_18
                have hR := hR.uJ 52 rfl (Int32.toNatClampNeg ((fI F 46 (Int32.toNatClampNeg v4)))) ((((fJ F 52 (Int32.toNatClampNeg ((fI F 46 (Int32.toNatClampNeg v4)))))) - ((fJ F 42 (Int32.toNatClampNeg v4)))))
                rw [← z_182, ← y_18] at hR
                try rw [hR.r 71 rfl]
                refine ⟨ma 71, rfl, hR.t 71 rfl, ?_⟩
                refine ⟨by rw [hR.l 71 rfl]; exact h.1, ?_⟩
                have h := h.2
                try rw [hR.eJ 71 rfl]
                try rw [hR.r 42 rfl]
                refine ⟨ma 42, rfl, hR.t 42 rfl, ?_⟩
                refine ⟨by rw [hR.l 42 rfl]; exact h.1, ?_⟩
                have h := h.2
                try rw [hR.eJ 42 rfl]
                refine ⟨by rw [hR.l 71 rfl]; exact h.1, ?_⟩
                have h := h.2
                intro σ_198 z_199
                obtain ⟨F_19, y_20⟩ : ∃ y : FS, y = fsJ F_17 71 (Int32.toNatClampNeg 4) ((((fJ F_17 71 (Int32.toNatClampNeg 4))) + ((fJ F_17 42 (Int32.toNatClampNeg v4))))) := ⟨_, rfl⟩
                have h := h F_19 y_20
                have hR := hR.uJ 71 rfl (Int32.toNatClampNeg 4) ((((fJ F_17 71 (Int32.toNatClampNeg 4))) + ((fJ F_17 42 (Int32.toNatClampNeg v4)))))
                rw [← z_199, ← y_20] at hR
                try rw [hR.r 41 rfl]
                refine ⟨ma 41, rfl, hR.t 41 rfl, ?_⟩
                refine ⟨by rw [hR.l 41 rfl]; exact h.1, ?_⟩
                have h := h.2
                intro σ_212 z_213
                obtain ⟨F_21, y_22⟩ : ∃ y : FS, y = fsI F_19 41 (Int32.toNatClampNeg v4) 3 := ⟨_, rfl⟩
                have h := h F_21 y_22
                have hR := hR.uI 41 rfl (Int32.toNatClampNeg v4) 3
                rw [← z_213, ← y_22] at hR
                try rw [hR.r 48 rfl]
                refine ⟨ma 48, rfl, hR.t 48 rfl, ?_⟩
                refine ⟨by rw [hR.l 48 rfl]; exact h.1, ?_⟩
                have h := h.2
                intro σ_227 z_228
                obtain ⟨F_23, y_24⟩ : ∃ y : FS, y = fsI F_21 48 (Int32.toNatClampNeg v4) ((-1)) := ⟨_, rfl⟩
                have h := h F_23 y_24
                have hR := hR.uI 48 rfl (Int32.toNatClampNeg v4) ((-1))
                rw [← z_228, ← y_24] at hR
                intro x_239 q_240
                have h := h x_239 q_240
                intro x_241 q_242
                have h := h x_241 q_242
                exact ih _ _ _ _ _ hR h
        · have h := h.2 c_8
          try rw [hR.r 41 rfl]
          refine ⟨by rw [hR.l 41 rfl]; exact h.1, ?_⟩
          have h := h.2
          try rw [hR.eI 41 rfl]
          refine ⟨fun c_244 => ?_, fun c_244 => ?_⟩
          · have h := h.1 c_244
            refine ⟨fun c_245 => ?_, fun c_245 => ?_⟩
            · have h := h.1 c_245
              intro x_246 q_247
              have h := h x_246 q_247
              exact ih _ _ _ _ _ hR h
            · have h := h.2 c_245
              try rw [hR.r 52 rfl]
              try rw [hR.r 46 rfl]
              refine ⟨ma 46, rfl, hR.t 46 rfl, ?_⟩
              refine ⟨by rw [hR.l 46 rfl]; exact h.1, ?_⟩
              have h := h.2
              try rw [hR.eI 46 rfl]
              refine ⟨ma 52, rfl, hR.t 52 rfl, ?_⟩
              refine ⟨by rw [hR.l 52 rfl]; exact h.1, ?_⟩
              have h := h.2
              try rw [hR.eJ 52 rfl]
              try rw [hR.r 42 rfl]
              refine ⟨ma 42, rfl, hR.t 42 rfl, ?_⟩
              refine ⟨by rw [hR.l 42 rfl]; exact h.1, ?_⟩
              have h := h.2
              try rw [hR.eJ 42 rfl]
              refine ⟨by rw [hR.l 52 rfl]; exact h.1, ?_⟩
              have h := h.2
              intro σ_261 z_262
              obtain ⟨F_25, y_26⟩ : ∃ y : FS, y = fsJ F 52 (Int32.toNatClampNeg ((fI F 46 (Int32.toNatClampNeg v4)))) ((((fJ F 52 (Int32.toNatClampNeg ((fI F 46 (Int32.toNatClampNeg v4)))))) - ((fJ F 42 (Int32.toNatClampNeg v4))))) := ⟨_, rfl⟩
              have h := h F_25 y_26
              have hR := hR.uJ 52 rfl (Int32.toNatClampNeg ((fI F 46 (Int32.toNatClampNeg v4)))) ((((fJ F 52 (Int32.toNatClampNeg ((fI F 46 (Int32.toNatClampNeg v4)))))) - ((fJ F 42 (Int32.toNatClampNeg v4)))))
              rw [← z_262, ← y_26] at hR
              try rw [hR.r 71 rfl]
              refine ⟨ma 71, rfl, hR.t 71 rfl, ?_⟩
              refine ⟨by rw [hR.l 71 rfl]; exact h.1, ?_⟩
              have h := h.2
              try rw [hR.eJ 71 rfl]
              try rw [hR.r 42 rfl]
              refine ⟨ma 42, rfl, hR.t 42 rfl, ?_⟩
              refine ⟨by rw [hR.l 42 rfl]; exact h.1, ?_⟩
              have h := h.2
              try rw [hR.eJ 42 rfl]
              refine ⟨by rw [hR.l 71 rfl]; exact h.1, ?_⟩
              have h := h.2
              intro σ_277 z_278
              obtain ⟨F_27, y_28⟩ : ∃ y : FS, y = fsJ F_25 71 (Int32.toNatClampNeg 4) ((((fJ F_25 71 (Int32.toNatClampNeg 4))) + ((fJ F_25 42 (Int32.toNatClampNeg v4))))) := ⟨_, rfl⟩
              have h := h F_27 y_28
              have hR := hR.uJ 71 rfl (Int32.toNatClampNeg 4) ((((fJ F_25 71 (Int32.toNatClampNeg 4))) + ((fJ F_25 42 (Int32.toNatClampNeg v4)))))
              rw [← z_278, ← y_28] at hR
              try rw [hR.r 41 rfl]
              refine ⟨ma 41, rfl, hR.t 41 rfl, ?_⟩
              refine ⟨by rw [hR.l 41 rfl]; exact h.1, ?_⟩
              have h := h.2
              intro σ_290 z_291
              obtain ⟨F_29, y_30⟩ : ∃ y : FS, y = fsI F_27 41 (Int32.toNatClampNeg v4) 3 := ⟨_, rfl⟩
              have h := h F_29 y_30
              have hR := hR.uI 41 rfl (Int32.toNatClampNeg v4) 3
              rw [← z_291, ← y_30] at hR
              try rw [hR.r 48 rfl]
              refine ⟨ma 48, rfl, hR.t 48 rfl, ?_⟩
              refine ⟨by rw [hR.l 48 rfl]; exact h.1, ?_⟩
              have h := h.2
              intro σ_304 z_305
              obtain ⟨F_31, y_32⟩ : ∃ y : FS, y = fsI F_29 48 (Int32.toNatClampNeg v4) ((-1)) := ⟨_, rfl⟩
              have h := h F_31 y_32
              have hR := hR.uI 48 rfl (Int32.toNatClampNeg v4) ((-1))
              rw [← z_305, ← y_32] at hR
              intro x_315 q_316
              have h := h x_315 q_316
              intro x_317 q_318
              have h := h x_317 q_318
              exact ih _ _ _ _ _ hR h
          · have h := h.2 c_244
            try rw [hR.r 43 rfl]
            refine ⟨ma 43, rfl, hR.t 43 rfl, ?_⟩
            refine ⟨by rw [hR.l 43 rfl]; exact h.1, ?_⟩
            have h := h.2
            try rw [hR.eJ 43 rfl]
            refine ⟨fun c_323 => ?_, fun c_323 => ?_⟩
            · have h := h.1 c_323
              refine ⟨fun c_324 => ?_, fun c_324 => ?_⟩
              · have h := h.1 c_324
                intro x_325 q_326
                have h := h x_325 q_326
                exact ih _ _ _ _ _ hR h
              · have h := h.2 c_324
                try rw [hR.r 52 rfl]
                try rw [hR.r 46 rfl]
                refine ⟨ma 46, rfl, hR.t 46 rfl, ?_⟩
                refine ⟨by rw [hR.l 46 rfl]; exact h.1, ?_⟩
                have h := h.2
                try rw [hR.eI 46 rfl]
                refine ⟨ma 52, rfl, hR.t 52 rfl, ?_⟩
                refine ⟨by rw [hR.l 52 rfl]; exact h.1, ?_⟩
                have h := h.2
                try rw [hR.eJ 52 rfl]
                try rw [hR.r 42 rfl]
                refine ⟨ma 42, rfl, hR.t 42 rfl, ?_⟩
                refine ⟨by rw [hR.l 42 rfl]; exact h.1, ?_⟩
                have h := h.2
                try rw [hR.eJ 42 rfl]
                refine ⟨by rw [hR.l 52 rfl]; exact h.1, ?_⟩
                have h := h.2
                intro σ_340 z_341
                obtain ⟨F_33, y_34⟩ : ∃ y : FS, y = fsJ F 52 (Int32.toNatClampNeg ((fI F 46 (Int32.toNatClampNeg v4)))) ((((fJ F 52 (Int32.toNatClampNeg ((fI F 46 (Int32.toNatClampNeg v4)))))) - ((fJ F 42 (Int32.toNatClampNeg v4))))) := ⟨_, rfl⟩
                have h := h F_33 y_34
                have hR := hR.uJ 52 rfl (Int32.toNatClampNeg ((fI F 46 (Int32.toNatClampNeg v4)))) ((((fJ F 52 (Int32.toNatClampNeg ((fI F 46 (Int32.toNatClampNeg v4)))))) - ((fJ F 42 (Int32.toNatClampNeg v4)))))
                rw [← z_341, ← y_34] at hR
                try rw [hR.r 71 rfl]
                refine ⟨ma 71, rfl, hR.t 71 rfl, ?_⟩
                refine ⟨by rw [hR.l 71 rfl]; exact h.1, ?_⟩
                have h := h.2
                try rw [hR.eJ 71 rfl]
                try rw [hR.r 42 rfl]
                refine ⟨ma 42, rfl, hR.t 42 rfl, ?_⟩
                refine ⟨by rw [hR.l 42 rfl]; exact h.1, ?_⟩
                have h := h.2
                try rw [hR.eJ 42 rfl]
                refine ⟨by rw [hR.l 71 rfl]; exact h.1, ?_⟩
                have h := h.2
                intro σ_357 z_358
                obtain ⟨F_35, y_36⟩ : ∃ y : FS, y = fsJ F_33 71 (Int32.toNatClampNeg 4) ((((fJ F_33 71 (Int32.toNatClampNeg 4))) + ((fJ F_33 42 (Int32.toNatClampNeg v4))))) := ⟨_, rfl⟩
                have h := h F_35 y_36
                have hR := hR.uJ 71 rfl (Int32.toNatClampNeg 4) ((((fJ F_33 71 (Int32.toNatClampNeg 4))) + ((fJ F_33 42 (Int32.toNatClampNeg v4)))))
                rw [← z_358, ← y_36] at hR
                try rw [hR.r 41 rfl]
                refine ⟨ma 41, rfl, hR.t 41 rfl, ?_⟩
                refine ⟨by rw [hR.l 41 rfl]; exact h.1, ?_⟩
                have h := h.2
                intro σ_371 z_372
                obtain ⟨F_37, y_38⟩ : ∃ y : FS, y = fsI F_35 41 (Int32.toNatClampNeg v4) 3 := ⟨_, rfl⟩
                have h := h F_37 y_38
                have hR := hR.uI 41 rfl (Int32.toNatClampNeg v4) 3
                rw [← z_372, ← y_38] at hR
                try rw [hR.r 48 rfl]
                refine ⟨ma 48, rfl, hR.t 48 rfl, ?_⟩
                refine ⟨by rw [hR.l 48 rfl]; exact h.1, ?_⟩
                have h := h.2
                intro σ_386 z_387
                obtain ⟨F_39, y_40⟩ : ∃ y : FS, y = fsI F_37 48 (Int32.toNatClampNeg v4) ((-1)) := ⟨_, rfl⟩
                have h := h F_39 y_40
                have hR := hR.uI 48 rfl (Int32.toNatClampNeg v4) ((-1))
                rw [← z_387, ← y_40] at hR
                intro x_398 q_399
                have h := h x_398 q_399
                intro x_400 q_401
                have h := h x_400 q_401
                exact ih _ _ _ _ _ hR h
            · have h := h.2 c_323
              try rw [hR.r 52 rfl]
              try rw [hR.r 46 rfl]
              refine ⟨ma 46, rfl, hR.t 46 rfl, ?_⟩
              refine ⟨by rw [hR.l 46 rfl]; exact h.1, ?_⟩
              have h := h.2
              try rw [hR.eI 46 rfl]
              refine ⟨ma 52, rfl, hR.t 52 rfl, ?_⟩
              refine ⟨by rw [hR.l 52 rfl]; exact h.1, ?_⟩
              have h := h.2
              try rw [hR.eJ 52 rfl]
              try rw [hR.r 42 rfl]
              refine ⟨ma 42, rfl, hR.t 42 rfl, ?_⟩
              refine ⟨by rw [hR.l 42 rfl]; exact h.1, ?_⟩
              have h := h.2
              try rw [hR.eJ 42 rfl]
              refine ⟨fun c_414 => ?_, fun c_414 => ?_⟩
              · have h := h.1 c_414
                refine ⟨fun c_415 => ?_, fun c_415 => ?_⟩
                · have h := h.1 c_415
                  intro x_416 q_417
                  have h := h x_416 q_417
                  exact ih _ _ _ _ _ hR h
                · have h := h.2 c_415
                  try rw [hR.r 52 rfl]
                  try rw [hR.r 46 rfl]
                  refine ⟨by rw [hR.l 46 rfl]; exact h.1, ?_⟩
                  have h := h.2
                  try rw [hR.eI 46 rfl]
                  refine ⟨by rw [hR.l 52 rfl]; exact h.1, ?_⟩
                  have h := h.2
                  try rw [hR.eJ 52 rfl]
                  try rw [hR.r 42 rfl]
                  refine ⟨by rw [hR.l 42 rfl]; exact h.1, ?_⟩
                  have h := h.2
                  try rw [hR.eJ 42 rfl]
                  refine ⟨by rw [hR.l 52 rfl]; exact h.1, ?_⟩
                  have h := h.2
                  intro σ_422 z_423
                  obtain ⟨F_41, y_42⟩ : ∃ y : FS, y = fsJ F 52 (Int32.toNatClampNeg ((fI F 46 (Int32.toNatClampNeg v4)))) ((((fJ F 52 (Int32.toNatClampNeg ((fI F 46 (Int32.toNatClampNeg v4)))))) - ((fJ F 42 (Int32.toNatClampNeg v4))))) := ⟨_, rfl⟩
                  have h := h F_41 y_42
                  have hR := hR.uJ 52 rfl (Int32.toNatClampNeg ((fI F 46 (Int32.toNatClampNeg v4)))) ((((fJ F 52 (Int32.toNatClampNeg ((fI F 46 (Int32.toNatClampNeg v4)))))) - ((fJ F 42 (Int32.toNatClampNeg v4)))))
                  rw [← z_423, ← y_42] at hR
                  try rw [hR.r 71 rfl]
                  refine ⟨ma 71, rfl, hR.t 71 rfl, ?_⟩
                  refine ⟨by rw [hR.l 71 rfl]; exact h.1, ?_⟩
                  have h := h.2
                  try rw [hR.eJ 71 rfl]
                  try rw [hR.r 42 rfl]
                  refine ⟨ma 42, rfl, hR.t 42 rfl, ?_⟩
                  refine ⟨by rw [hR.l 42 rfl]; exact h.1, ?_⟩
                  have h := h.2
                  try rw [hR.eJ 42 rfl]
                  refine ⟨by rw [hR.l 71 rfl]; exact h.1, ?_⟩
                  have h := h.2
                  intro σ_439 z_440
                  obtain ⟨F_43, y_44⟩ : ∃ y : FS, y = fsJ F_41 71 (Int32.toNatClampNeg 4) ((((fJ F_41 71 (Int32.toNatClampNeg 4))) + ((fJ F_41 42 (Int32.toNatClampNeg v4))))) := ⟨_, rfl⟩
                  have h := h F_43 y_44
                  have hR := hR.uJ 71 rfl (Int32.toNatClampNeg 4) ((((fJ F_41 71 (Int32.toNatClampNeg 4))) + ((fJ F_41 42 (Int32.toNatClampNeg v4)))))
                  rw [← z_440, ← y_44] at hR
                  try rw [hR.r 41 rfl]
                  refine ⟨ma 41, rfl, hR.t 41 rfl, ?_⟩
                  refine ⟨by rw [hR.l 41 rfl]; exact h.1, ?_⟩
                  have h := h.2
                  intro σ_453 z_454
                  obtain ⟨F_45, y_46⟩ : ∃ y : FS, y = fsI F_43 41 (Int32.toNatClampNeg v4) 3 := ⟨_, rfl⟩
                  have h := h F_45 y_46
                  have hR := hR.uI 41 rfl (Int32.toNatClampNeg v4) 3
                  rw [← z_454, ← y_46] at hR
                  try rw [hR.r 48 rfl]
                  refine ⟨ma 48, rfl, hR.t 48 rfl, ?_⟩
                  refine ⟨by rw [hR.l 48 rfl]; exact h.1, ?_⟩
                  have h := h.2
                  intro σ_468 z_469
                  obtain ⟨F_47, y_48⟩ : ∃ y : FS, y = fsI F_45 48 (Int32.toNatClampNeg v4) ((-1)) := ⟨_, rfl⟩
                  have h := h F_47 y_48
                  have hR := hR.uI 48 rfl (Int32.toNatClampNeg v4) ((-1))
                  rw [← z_469, ← y_48] at hR
                  intro x_480 q_481
                  have h := h x_480 q_481
                  intro x_482 q_483
                  have h := h x_482 q_483
                  exact ih _ _ _ _ _ hR h
              · have h := h.2 c_414
                refine ⟨fun c_484 => ?_, fun c_484 => ?_⟩
                · have h := h.1 c_484
                  intro x_485 q_486
                  have h := h x_485 q_486
                  exact ih _ _ _ _ _ hR h
                · have h := h.2 c_484
                  try rw [hR.r 52 rfl]
                  try rw [hR.r 46 rfl]
                  refine ⟨by rw [hR.l 46 rfl]; exact h.1, ?_⟩
                  have h := h.2
                  try rw [hR.eI 46 rfl]
                  refine ⟨by rw [hR.l 52 rfl]; exact h.1, ?_⟩
                  have h := h.2
                  try rw [hR.eJ 52 rfl]
                  try rw [hR.r 42 rfl]
                  refine ⟨by rw [hR.l 42 rfl]; exact h.1, ?_⟩
                  have h := h.2
                  try rw [hR.eJ 42 rfl]
                  refine ⟨by rw [hR.l 52 rfl]; exact h.1, ?_⟩
                  have h := h.2
                  intro σ_491 z_492
                  obtain ⟨F_49, y_50⟩ : ∃ y : FS, y = fsJ F 52 (Int32.toNatClampNeg ((fI F 46 (Int32.toNatClampNeg v4)))) ((((fJ F 52 (Int32.toNatClampNeg ((fI F 46 (Int32.toNatClampNeg v4)))))) - ((fJ F 42 (Int32.toNatClampNeg v4))))) := ⟨_, rfl⟩
                  have h := h F_49 y_50
                  have hR := hR.uJ 52 rfl (Int32.toNatClampNeg ((fI F 46 (Int32.toNatClampNeg v4)))) ((((fJ F 52 (Int32.toNatClampNeg ((fI F 46 (Int32.toNatClampNeg v4)))))) - ((fJ F 42 (Int32.toNatClampNeg v4)))))
                  rw [← z_492, ← y_50] at hR
                  try rw [hR.r 71 rfl]
                  refine ⟨ma 71, rfl, hR.t 71 rfl, ?_⟩
                  refine ⟨by rw [hR.l 71 rfl]; exact h.1, ?_⟩
                  have h := h.2
                  try rw [hR.eJ 71 rfl]
                  try rw [hR.r 42 rfl]
                  refine ⟨ma 42, rfl, hR.t 42 rfl, ?_⟩
                  refine ⟨by rw [hR.l 42 rfl]; exact h.1, ?_⟩
                  have h := h.2
                  try rw [hR.eJ 42 rfl]
                  refine ⟨by rw [hR.l 71 rfl]; exact h.1, ?_⟩
                  have h := h.2
                  intro σ_508 z_509
                  obtain ⟨F_51, y_52⟩ : ∃ y : FS, y = fsJ F_49 71 (Int32.toNatClampNeg 4) ((((fJ F_49 71 (Int32.toNatClampNeg 4))) + ((fJ F_49 42 (Int32.toNatClampNeg v4))))) := ⟨_, rfl⟩
                  have h := h F_51 y_52
                  have hR := hR.uJ 71 rfl (Int32.toNatClampNeg 4) ((((fJ F_49 71 (Int32.toNatClampNeg 4))) + ((fJ F_49 42 (Int32.toNatClampNeg v4)))))
                  rw [← z_509, ← y_52] at hR
                  try rw [hR.r 41 rfl]
                  refine ⟨ma 41, rfl, hR.t 41 rfl, ?_⟩
                  refine ⟨by rw [hR.l 41 rfl]; exact h.1, ?_⟩
                  have h := h.2
                  intro σ_522 z_523
                  obtain ⟨F_53, y_54⟩ : ∃ y : FS, y = fsI F_51 41 (Int32.toNatClampNeg v4) 3 := ⟨_, rfl⟩
                  have h := h F_53 y_54
                  have hR := hR.uI 41 rfl (Int32.toNatClampNeg v4) 3
                  rw [← z_523, ← y_54] at hR
                  try rw [hR.r 48 rfl]
                  refine ⟨ma 48, rfl, hR.t 48 rfl, ?_⟩
                  refine ⟨by rw [hR.l 48 rfl]; exact h.1, ?_⟩
                  have h := h.2
                  intro σ_537 z_538
                  obtain ⟨F_55, y_56⟩ : ∃ y : FS, y = fsI F_53 48 (Int32.toNatClampNeg v4) ((-1)) := ⟨_, rfl⟩
                  have h := h F_55 y_56
                  have hR := hR.uI 48 rfl (Int32.toNatClampNeg v4) ((-1))
                  rw [← z_538, ← y_56] at hR
                  intro x_549 q_550
                  have h := h x_549 q_550
                  intro x_551 q_552
                  have h := h x_551 q_552
                  exact ih _ _ _ _ _ hR h
  unfold wf_M_tick at h
  unfold wp_M_tick
  refine ⟨fun c_1 => ?_, fun c_1 => ?_⟩
  · have h := h.1 c_1
    obtain ⟨n, h⟩ := h
    refine ⟨n, ?_⟩
    exact b_14 n _ _ _ _ _ hR h
  · have h := h.2 c_1
    exact hk _ _ _ h hR
def wfb_M_listed_4 (K : Int32 → FS → Prop) : Nat → FS → Int32 → Int32 → Int32 → Prop
  | 0, _, _, _, _ => False
  | n + 1, F, v1, v2, v3 =>
  (((((fN F 40)) < v3) → K v2 F) ∧
  ((¬ ((fN F 40)) < v3) → vp_in v3 (lnA 48) ∧ ((((¬ ((fI F 48 (Int32.toNatClampNeg v3))) = v1) → ∀ x_8 : Int32, x_8 = (v2 + 0) → (∀ x_10 : Int32, x_10 = v3 + 1 → (wfb_M_listed_4 K n F v1 x_8 x_10))) ∧
  ((((fI F 48 (Int32.toNatClampNeg v3))) = v1) → ∀ x_12 : Int32, x_12 = (v2 + 1) → (∀ x_14 : Int32, x_14 = v3 + 1 → (wfb_M_listed_4 K n F v1 x_12 x_14)))))))
def wf_M_listed (F : FS) (p1 : Int32) (K : Int32 → FS → Prop) : Prop :=
  ∃ n : Nat, wfb_M_listed_4 K n F p1 0 1
set_option maxHeartbeats 4000000 in
set_option maxRecDepth 100000 in
theorem fM_M_listed {σ0 σ : ST} {h0 : Nat} {ma : Nat → Nat} {F : FS} {p1 : Int32} {K : Int32 → ST → Prop} {K' : Int32 → FS → Prop} (hR : RMF σ0 σ h0 ma F) (hk : ∀ (r : Int32) (F' : FS) (σ' : ST), K' r F' → RMF σ0 σ' h0 ma F' → K r σ') (h : wf_M_listed F p1 K') : wp_M_listed σ h0 p1 K := by
  have b_4 : ∀ (n : Nat) (σ : ST) (F : FS) (v1 : Int32) (v2 : Int32) (v3 : Int32), RMF σ0 σ h0 ma F → wfb_M_listed_4 K' n F v1 v2 v3 → wb_M_listed_4 h0 K n σ v1 v2 v3 := by
    intro n
    induction n with
    | zero =>
      intro σ F v1 v2 v3 hR h
      exact h.elim
    | succ n ih =>
      intro σ F v1 v2 v3 hR h
      unfold wfb_M_listed_4 at h
      unfold wb_M_listed_4
      refine ⟨hR.1.1, ?_⟩
      try rw [hR.n 40 rfl]
      refine ⟨fun c_2 => ?_, fun c_2 => ?_⟩
      · have h := h.1 c_2
        exact hk _ _ _ h hR
      · have h := h.2 c_2
        try rw [hR.r 48 rfl]
        refine ⟨ma 48, rfl, hR.t 48 rfl, ?_⟩
        refine ⟨by rw [hR.l 48 rfl]; exact h.1, ?_⟩
        have h := h.2
        try rw [hR.eI 48 rfl]
        refine ⟨fun c_7 => ?_, fun c_7 => ?_⟩
        · have h := h.1 c_7
          intro x_8 q_9
          have h := h x_8 q_9
          intro x_10 q_11
          have h := h x_10 q_11
          exact ih _ _ _ _ _ hR h
        · have h := h.2 c_7
          intro x_12 q_13
          have h := h x_12 q_13
          intro x_14 q_15
          have h := h x_14 q_15
          exact ih _ _ _ _ _ hR h
  unfold wf_M_listed at h
  unfold wp_M_listed
  obtain ⟨n, h⟩ := h
  refine ⟨n, ?_⟩
  exact b_4 n _ _ _ _ _ hR h
