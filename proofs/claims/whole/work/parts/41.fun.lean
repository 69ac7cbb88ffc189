def wf_M_in (F : FS) (p0 : Int64) (p2 : Int64) (p4 : Int64) (K : Int32 → FS → Prop) : Prop :=
  (((((lg_cmp p0 p2)) < 0) → K 0 F) ∧
  ((¬ ((lg_cmp p0 p2)) < 0) → (((0 < ((lg_cmp p0 p4))) → K 0 F) ∧
  ((¬ 0 < ((lg_cmp p0 p4))) → K 1 F))))
set_option maxHeartbeats 4000000 in
set_option maxRecDepth 100000 in
theorem fM_M_in {σ0 σ : ST} {h0 : Nat} {ma : Nat → Nat} {F : FS} {p0 : Int64} {p2 : Int64} {p4 : Int64} {K : Int32 → ST → Prop} {K' : Int32 → FS → Prop} (hR : RMF σ0 σ h0 ma F) (hk : ∀ (r : Int32) (F' : FS) (σ' : ST), K' r F' → RMF σ0 σ' h0 ma F' → K r σ') (h : wf_M_in F p0 p2 p4 K') : wp_M_in σ p0 p2 p4 K := by
  unfold wf_M_in at h
  unfold wp_M_in
  refine ⟨fun c_1 => ?_, fun c_1 => ?_⟩
  · have h := h.1 c_1
    exact hk _ _ _ h hR
  · have h := h.2 c_1
    refine ⟨fun c_2 => ?_, fun c_2 => ?_⟩
    · have h := h.1 c_2
      exact hk _ _ _ h hR
    · have h := h.2 c_2
      exact hk _ _ _ h hR
def wf_M_isOffice (F : FS) (p0 : Int32) (K : Int32 → FS → Prop) : Prop :=
  wf_M_in F ((Int32.toInt64 p0)) 0 7 (fun (r_1 : Int32) F_1 =>
  ((r_1 = 0 ∨ r_1 = 1) ∧ K r_1 F_1))
set_option maxHeartbeats 4000000 in
set_option maxRecDepth 100000 in
theorem fM_M_isOffice {σ0 σ : ST} {h0 : Nat} {ma : Nat → Nat} {F : FS} {p0 : Int32} {K : Int32 → ST → Prop} {K' : Int32 → FS → Prop} (hR : RMF σ0 σ h0 ma F) (hk : ∀ (r : Int32) (F' : FS) (σ' : ST), K' r F' → RMF σ0 σ' h0 ma F' → K r σ') (h : wf_M_isOffice F p0 K') : wp_M_isOffice σ p0 K := by
  unfold wf_M_isOffice at h
  unfold wp_M_isOffice
  refine fM_M_in hR ?_ h
  intro r_1 F_1 σ_2 h hR
  exact ⟨h.1, hk _ _ _ h.2 hR⟩
def wfb_M_numberOf_6 (K : Int32 → FS → Prop) : Nat → FS → Int32 → Int32 → Int32 → Int32 → Prop
  | 0, _, _, _, _, _ => False
  | n + 1, F, v0, v1, v2, v3 =>
  (((v3 ≤ 0) → K ((((10 * v0)) + ((v1 - v1 / 10 * 10)))) F) ∧
  ((¬ v3 ≤ 0) → ∀ x_2 : Int32, x_2 = (v1 + ((((v3 - v3 / 10 * 10)) * v2))) → ((((¬ v2 = (7 : Int32)) → ∀ x_5 : Int32, x_5 = (v2 + 1) → (∀ x_7 : Int32, x_7 = (v3 / 10) → (wfb_M_numberOf_6 K n F v0 x_2 x_5 x_7))) ∧
  ((v2 = (7 : Int32)) → ∀ x_9 : Int32, x_9 = (v3 / 10) → (wfb_M_numberOf_6 K n F v0 x_2 2 x_9))))))
def wf_M_numberOf (F : FS) (p0 : Int32) (K : Int32 → FS → Prop) : Prop :=
  ∃ n : Nat, wfb_M_numberOf_6 K n F p0 0 2 p0
set_option maxHeartbeats 4000000 in
set_option maxRecDepth 100000 in
theorem fM_M_numberOf {σ0 σ : ST} {h0 : Nat} {ma : Nat → Nat} {F : FS} {p0 : Int32} {K : Int32 → ST → Prop} {K' : Int32 → FS → Prop} (hR : RMF σ0 σ h0 ma F) (hk : ∀ (r : Int32) (F' : FS) (σ' : ST), K' r F' → RMF σ0 σ' h0 ma F' → K r σ') (h : wf_M_numberOf F p0 K') : wp_M_numberOf σ p0 K := by
  have b_6 : ∀ (n : Nat) (σ : ST) (F : FS) (v0 : Int32) (v1 : Int32) (v2 : Int32) (v3 : Int32), RMF σ0 σ h0 ma F → wfb_M_numberOf_6 K' n F v0 v1 v2 v3 → wb_M_numberOf_6 K n σ v0 v1 v2 v3 := by
    intro n
    induction n with
    | zero =>
      intro σ F v0 v1 v2 v3 hR h
      exact h.elim
    | succ n ih =>
      intro σ F v0 v1 v2 v3 hR h
      unfold wfb_M_numberOf_6 at h
      unfold wb_M_numberOf_6
      refine ⟨fun c_1 => ?_, fun c_1 => ?_⟩
      · have h := h.1 c_1
        exact hk _ _ _ h hR
      · have h := h.2 c_1
        intro x_2 q_3
        have h := h x_2 q_3
        refine ⟨fun c_4 => ?_, fun c_4 => ?_⟩
        · have h := h.1 c_4
          intro x_5 q_6
          have h := h x_5 q_6
          intro x_7 q_8
          have h := h x_7 q_8
          exact ih _ _ _ _ _ _ hR h
        · have h := h.2 c_4
          intro x_9 q_10
          have h := h x_9 q_10
          exact ih _ _ _ _ _ _ hR h
  unfold wf_M_numberOf at h
  unfold wp_M_numberOf
  obtain ⟨n, h⟩ := h
  refine ⟨n, ?_⟩
  exact b_6 n _ _ _ _ _ _ hR h
def wfb_M_find_2 (K : Int32 → FS → Prop) : Nat → FS → Int64 → Int32 → Prop
  | 0, _, _, _ => False
  | n + 1, F, v1, v3 =>
  (((((fN F 40)) < v3) → K 0 F) ∧
  ((¬ ((fN F 40)) < v3) → wf_M_numberOf F v3 (fun (r_3 : Int32) F_1 =>
  (((¬ ((lg_cmp ((Int32.toInt64 r_3)) v1)) = 0) → ∀ x_6 : Int32, x_6 = v3 + 1 → (wfb_M_find_2 K n F_1 v1 x_6)) ∧
  ((((lg_cmp ((Int32.toInt64 r_3)) v1)) = 0) → K v3 F_1)))))
def wf_M_find (F : FS) (p1 : Int64) (K : Int32 → FS → Prop) : Prop :=
  ∃ n : Nat, wfb_M_find_2 K n F p1 1
set_option maxHeartbeats 4000000 in
set_option maxRecDepth 100000 in
theorem fM_M_find {σ0 σ : ST} {h0 : Nat} {ma : Nat → Nat} {F : FS} {p1 : Int64} {K : Int32 → ST → Prop} {K' : Int32 → FS → Prop} (hR : RMF σ0 σ h0 ma F) (hk : ∀ (r : Int32) (F' : FS) (σ' : ST), K' r F' → RMF σ0 σ' h0 ma F' → K r σ') (h : wf_M_find F p1 K') : wp_M_find σ h0 p1 K := by
  have b_2 : ∀ (n : Nat) (σ : ST) (F : FS) (v1 : Int64) (v3 : Int32), RMF σ0 σ h0 ma F → wfb_M_find_2 K' n F v1 v3 → wb_M_find_2 h0 K n σ v1 v3 := by
    intro n
    induction n with
    | zero =>
      intro σ F v1 v3 hR h
      exact h.elim
    | succ n ih =>
      intro σ F v1 v3 hR h
      unfold wfb_M_find_2 at h
      unfold wb_M_find_2
      refine ⟨hR.1.1, ?_⟩
      try rw [hR.n 40 rfl]
      refine ⟨fun c_2 => ?_, fun c_2 => ?_⟩
      · have h := h.1 c_2
        exact hk _ _ _ h hR
      · have h := h.2 c_2
        refine fM_M_numberOf hR ?_ h
        intro r_3 F_1 σ_4 h hR
        refine ⟨fun c_5 => ?_, fun c_5 => ?_⟩
        · have h := h.1 c_5
          intro x_6 q_7
          have h := h x_6 q_7
          exact ih _ _ _ _ hR h
        · have h := h.2 c_5
          exact hk _ _ _ h hR
  unfold wf_M_find at h
  unfold wp_M_find
  obtain ⟨n, h⟩ := h
  refine ⟨n, ?_⟩
  exact b_2 n _ _ _ _ hR h
def wf_M_add (F : FS) (p1 : Int32) (p2 : Int64) (p4 : Int64) (p6 : Int32) (p7 : Int32) (K : Int32 → FS → Prop) : Prop :=
  ∀ F_1 : FS, F_1 = fsN F 40 ((((fN F 40)) + 1)) → (vp_in ((fN F_1 40)) (lnA 41) ∧ (∀ F_3 : FS, F_3 = fsI F_1 41 (Int32.toNatClampNeg ((fN F_1 40))) 0 → (vp_in ((fN F_3 40)) (lnA 42) ∧ (∀ F_5 : FS, F_5 = fsJ F_3 42 (Int32.toNatClampNeg ((fN F_3 40))) p2 → (vp_in ((fN F_5 40)) (lnA 43) ∧ (∀ F_7 : FS, F_7 = fsJ F_5 43 (Int32.toNatClampNeg ((fN F_5 40))) p4 → (vp_in ((fN F_7 40)) (lnA 44) ∧ (∀ F_9 : FS, F_9 = fsI F_7 44 (Int32.toNatClampNeg ((fN F_7 40))) p6 → (vp_in ((fN F_9 40)) (lnA 45) ∧ (∀ F_11 : FS, F_11 = fsI F_9 45 (Int32.toNatClampNeg ((fN F_9 40))) p7 → (vp_in ((fN F_11 40)) (lnA 46) ∧ (∀ F_13 : FS, F_13 = fsI F_11 46 (Int32.toNatClampNeg ((fN F_11 40))) p1 → (vp_in ((fN F_13 40)) (lnA 47) ∧ (∀ F_15 : FS, F_15 = fsI F_13 47 (Int32.toNatClampNeg ((fN F_13 40))) ((-1)) → (vp_in ((fN F_15 40)) (lnA 48) ∧ (∀ F_17 : FS, F_17 = fsI F_15 48 (Int32.toNatClampNeg ((fN F_15 40))) ((-1)) → (wf_M_numberOf F_17 ((fN F_17 40)) (fun (r_97 : Int32) F_19 =>
  K r_97 F_19))))))))))))))))))
set_option maxHeartbeats 4000000 in
set_option maxRecDepth 100000 in
theorem fM_M_add {σ0 σ : ST} {h0 : Nat} {ma : Nat → Nat} {F : FS} {p1 : Int32} {p2 : Int64} {p4 : Int64} {p6 : Int32} {p7 : Int32} {K : Int32 → ST → Prop} {K' : Int32 → FS → Prop} (hR : RMF σ0 σ h0 ma F) (hk : ∀ (r : Int32) (F' : FS) (σ' : ST), K' r F' → RMF σ0 σ' h0 ma F' → K r σ') (h : wf_M_add F p1 p2 p4 p6 p7 K') : wp_M_add σ h0 p1 p2 p4 p6 p7 K := by
  unfold wf_M_add at h
  unfold wp_M_add
  refine ⟨hR.1.1, ?_⟩
  try rw [hR.n 40 rfl]
  intro σ_2 z_3
  obtain ⟨F_1, y_2⟩ : ∃ y : FS, y = fsN F 40 ((((fN F 40)) + 1)) := ⟨_, rfl⟩
  have h := h F_1 y_2
  have hR := hR.sN 40 rfl ((((fN F 40)) + 1))
  rw [← z_3, ← y_2] at hR
  try rw [hR.r 41 rfl]
  try rw [hR.n 40 rfl]
  refine ⟨ma 41, rfl, hR.t 41 rfl, ?_⟩
  refine ⟨by rw [hR.l 41 rfl]; exact h.1, ?_⟩
  have h := h.2
  intro σ_9 z_10
  obtain ⟨F_3, y_4⟩ : ∃ y : FS, y = fsI F_1 41 (Int32.toNatClampNeg ((fN F_1 40))) 0 := ⟨_, rfl⟩
  have h := h F_3 y_4
  have hR := hR.uI 41 rfl (Int32.toNatClampNeg ((fN F_1 40))) 0
  rw [← z_10, ← y_4] at hR
  try rw [hR.r 42 rfl]
  try rw [hR.n 40 rfl]
  refine ⟨ma 42, rfl, hR.t 42 rfl, ?_⟩
  refine ⟨by rw [hR.l 42 rfl]; exact h.1, ?_⟩
  have h := h.2
  intro σ_17 z_18
  obtain ⟨F_5, y_6⟩ : ∃ y : FS, y = fsJ F_3 42 (Int32.toNatClampNeg ((fN F_3 40))) p2 := ⟨_, rfl⟩
  have h := h F_5 y_6
  have hR := hR.uJ 42 rfl (Int32.toNatClampNeg ((fN F_3 40))) p2
  rw [← z_18, ← y_6] at hR
  try rw [hR.r 43 rfl]
  try rw [hR.n 40 rfl]
  refine ⟨ma 43, rfl, hR.t 43 rfl, ?_⟩
  refine ⟨by rw [hR.l 43 rfl]; exact h.1, ?_⟩
  have h := h.2
  intro σ_26 z_27
  obtain ⟨F_7, y_8⟩ : ∃ y : FS, y = fsJ F_5 43 (Int32.toNatClampNeg ((fN F_5 40))) p4 := ⟨_, rfl⟩
  have h := h F_7 y_8
  have hR := hR.uJ 43 rfl (Int32.toNatClampNeg ((fN F_5 40))) p4
  rw [← z_27, ← y_8] at hR
  try rw [hR.r 44 rfl]
  try rw [hR.n 40 rfl]
  refine ⟨ma 44, rfl, hR.t 44 rfl, ?_⟩
  refine ⟨by rw [hR.l 44 rfl]; exact h.1, ?_⟩
  have h := h.2
  intro σ_36 z_37
  obtain ⟨F_9, y_10⟩ : ∃ y : FS, y = fsI F_7 44 (Int32.toNatClampNeg ((fN F_7 40))) p6 := ⟨_, rfl⟩
  have h := h F_9 y_10
  have hR := hR.uI 44 rfl (Int32.toNatClampNeg ((fN F_7 40))) p6
  rw [← z_37, ← y_10] at hR
  try rw [hR.r 45 rfl]
  try rw [hR.n 40 rfl]
  refine ⟨ma 45, rfl, hR.t 45 rfl, ?_⟩
  refine ⟨by rw [hR.l 45 rfl]; exact h.1, ?_⟩
  have h := h.2
  intro σ_47 z_48
  obtain ⟨F_11, y_12⟩ : ∃ y : FS, y = fsI F_9 45 (Int32.toNatClampNeg ((fN F_9 40))) p7 := ⟨_, rfl⟩
  have h := h F_11 y_12
  have hR := hR.uI 45 rfl (Int32.toNatClampNeg ((fN F_9 40))) p7
  rw [← z_48, ← y_12] at hR
  try rw [hR.r 46 rfl]
  try rw [hR.n 40 rfl]
  refine ⟨ma 46, rfl, hR.t 46 rfl, ?_⟩
  refine ⟨by rw [hR.l 46 rfl]; exact h.1, ?_⟩
  have h := h.2
  intro σ_59 z_60
  obtain ⟨F_13, y_14⟩ : ∃ y : FS, y = fsI F_11 46 (Int32.toNatClampNeg ((fN F_11 40))) p1 := ⟨_, rfl⟩
  have h := h F_13 y_14
  have hR := hR.uI 46 rfl (Int32.toNatClampNeg ((fN F_11 40))) p1
  rw [← z_60, ← y_14] at hR
  try rw [hR.r 47 rfl]
  try rw [hR.n 40 rfl]
  refine ⟨ma 47, rfl, hR.t 47 rfl, ?_⟩
  refine ⟨by rw [hR.l 47 rfl]; exact h.1, ?_⟩
  have h := h.2
  intro σ_72 z_73
  obtain ⟨F_15, y_16⟩ : ∃ y : FS, y = fsI F_13 47 (Int32.toNatClampNeg ((fN F_13 40))) ((-1)) := ⟨_, rfl⟩
  have h := h F_15 y_16
  have hR := hR.uI 47 rfl (Int32.toNatClampNeg ((fN F_13 40))) ((-1))
  rw [← z_73, ← y_16] at hR
  try rw [hR.r 48 rfl]
  try rw [hR.n 40 rfl]
  refine ⟨ma 48, rfl, hR.t 48 rfl, ?_⟩
  refine ⟨by rw [hR.l 48 rfl]; exact h.1, ?_⟩
  have h := h.2
  intro σ_86 z_87
  obtain ⟨F_17, y_18⟩ : ∃ y : FS, y = fsI F_15 48 (Int32.toNatClampNeg ((fN F_15 40))) ((-1)) := ⟨_, rfl⟩
  have h := h F_17 y_18
  have hR := hR.uI 48 rfl (Int32.toNatClampNeg ((fN F_15 40))) ((-1))
  rw [← z_87, ← y_18] at hR
  try rw [hR.n 40 rfl]
  refine fM_M_numberOf hR ?_ h
  intro r_97 F_19 σ_98 h hR
  exact hk _ _ _ h hR
def wf_M_order (F : FS) (p1 : Int32) (p2 : Int64) (p4 : Int64) (p6 : Int32) (p7 : Int32) (K : Int32 → FS → Prop) : Prop :=
  wf_M_isOffice F p1 (fun (r_1 : Int32) F_1 =>
  (((r_1 = 0) → K ((-102)) F_1) ∧
  ((¬ r_1 = 0) → wf_M_in F_1 p2 1 500000 (fun (r_4 : Int32) F_2 =>
  (((r_4 = 0) → K ((-102)) F_2) ∧
  ((¬ r_4 = 0) → (((((lg_cmp p4 0)) < 0) → K ((-102)) F_2) ∧
  ((¬ ((lg_cmp p4 0)) < 0) → wf_M_in F_2 ((Int32.toInt64 p6)) 0 3 (fun (r_8 : Int32) F_3 =>
  (((r_8 = 0) → K ((-102)) F_3) ∧
  ((¬ r_8 = 0) → (((0 ≤ p7) → (((¬ ((fN F_3 40)) = (300 : Int32)) → vp_in p1 (lnA 52) ∧ (vp_in p1 (lnA 52) ∧ (∀ F_4 : FS, F_4 = fsJ F_3 52 (Int32.toNatClampNeg p1) ((((fJ F_3 52 (Int32.toNatClampNeg p1))) + p2)) → (vp_in 0 (lnA 71) ∧ (vp_in 0 (lnA 71) ∧ (∀ F_6 : FS, F_6 = fsJ F_4 71 (Int32.toNatClampNeg 0) ((((fJ F_4 71 (Int32.toNatClampNeg 0))) + p2)) → (wf_M_add F_6 p1 p2 p4 p6 p7 (fun (r_33 : Int32) F_8 =>
  K r_33 F_8)))))))) ∧
  ((((fN F_3 40)) = (300 : Int32)) → K ((-104)) F_3))) ∧
  ((¬ 0 ≤ p7) → K ((-102)) F_3)))))))))))))
set_option maxHeartbeats 4000000 in
set_option maxRecDepth 100000 in
theorem fM_M_order {σ0 σ : ST} {h0 : Nat} {ma : Nat → Nat} {F : FS} {p1 : Int32} {p2 : Int64} {p4 : Int64} {p6 : Int32} {p7 : Int32} {K : Int32 → ST → Prop} {K' : Int32 → FS → Prop} (hR : RMF σ0 σ h0 ma F) (hk : ∀ (r : Int32) (F' : FS) (σ' : ST), K' r F' → RMF σ0 σ' h0 ma F' → K r σ') (h : wf_M_order F p1 p2 p4 p6 p7 K') : wp_M_order σ h0 p1 p2 p4 p6 p7 K := by
  unfold wf_M_order at h
  unfold wp_M_order
  refine fM_M_isOffice hR ?_ h
  intro r_1 F_1 σ_2 h hR
  refine ⟨fun c_3 => ?_, fun c_3 => ?_⟩
  · have h := h.1 c_3
    exact hk _ _ _ h hR
  · have h := h.2 c_3
    refine fM_M_in hR ?_ h
    intro r_4 F_2 σ_5 h hR
    refine ⟨fun c_6 => ?_, fun c_6 => ?_⟩
    · have h := h.1 c_6
      exact hk _ _ _ h hR
    · have h := h.2 c_6
      refine ⟨fun c_7 => ?_, fun c_7 => ?_⟩
      · have h := h.1 c_7
        exact hk _ _ _ h hR
      · have h := h.2 c_7
        refine fM_M_in hR ?_ h
        intro r_8 F_3 σ_9 h hR
        refine ⟨fun c_10 => ?_, fun c_10 => ?_⟩
        · have h := h.1 c_10
          exact hk _ _ _ h hR
        · have h := h.2 c_10
          refine ⟨fun c_11 => ?_, fun c_11 => ?_⟩
          · have h := h.1 c_11
            refine ⟨hR.1.1, ?_⟩
            try rw [hR.n 40 rfl]
            refine ⟨fun c_13 => ?_, fun c_13 => ?_⟩
            · have h := h.1 c_13
              try rw [hR.r 52 rfl]
              refine ⟨ma 52, rfl, hR.t 52 rfl, ?_⟩
              refine ⟨by rw [hR.l 52 rfl]; exact h.1, ?_⟩
              have h := h.2
              try rw [hR.eJ 52 rfl]
              refine ⟨by rw [hR.l 52 rfl]; exact h.1, ?_⟩
              have h := h.2
              intro σ_19 z_20
              obtain ⟨F_4, y_5⟩ : ∃ y : FS, y = fsJ F_3 52 (Int32.toNatClampNeg p1) ((((fJ F_3 52 (Int32.toNatClampNeg p1))) + p2)) := ⟨_, rfl⟩
              have h := h F_4 y_5
              have hR := hR.uJ 52 rfl (Int32.toNatClampNeg p1) ((((fJ F_3 52 (Int32.toNatClampNeg p1))) + p2))
              rw [← z_20, ← y_5] at hR
              try rw [hR.r 71 rfl]
              refine ⟨ma 71, rfl, hR.t 71 rfl, ?_⟩
              refine ⟨by rw [hR.l 71 rfl]; exact h.1, ?_⟩
              have h := h.2
              try rw [hR.eJ 71 rfl]
              refine ⟨by rw [hR.l 71 rfl]; exact h.1, ?_⟩
              have h := h.2
              intro σ_28 z_29
              obtain ⟨F_6, y_7⟩ : ∃ y : FS, y = fsJ F_4 71 (Int32.toNatClampNeg 0) ((((fJ F_4 71 (Int32.toNatClampNeg 0))) + p2)) := ⟨_, rfl⟩
              have h := h F_6 y_7
              have hR := hR.uJ 71 rfl (Int32.toNatClampNeg 0) ((((fJ F_4 71 (Int32.toNatClampNeg 0))) + p2))
              rw [← z_29, ← y_7] at hR
              refine fM_M_add hR ?_ h
              intro r_33 F_8 σ_34 h hR
              exact hk _ _ _ h hR
            · have h := h.2 c_13
              exact hk _ _ _ h hR
          · have h := h.2 c_11
            exact hk _ _ _ h hR
def wf_M_sumOf (F : FS) (p1 : Int32) (K : Int64 → FS → Prop) : Prop :=
  vp_in p1 (lnA 42) ∧ (vp_in p1 (lnA 44) ∧ (vp_in ((fI F 44 (Int32.toNatClampNeg p1))) (lnA 51) ∧ (K ((((((fJ F 42 (Int32.toNatClampNeg p1))) * ((fJ F 51 (Int32.toNatClampNeg ((fI F 44 (Int32.toNatClampNeg p1)))))))) / 1000)) F)))
set_option maxHeartbeats 4000000 in
set_option maxRecDepth 100000 in
theorem fM_M_sumOf {σ0 σ : ST} {h0 : Nat} {ma : Nat → Nat} {F : FS} {p1 : Int32} {K : Int64 → ST → Prop} {K' : Int64 → FS → Prop} (hR : RMF σ0 σ h0 ma F) (hk : ∀ (r : Int64) (F' : FS) (σ' : ST), K' r F' → RMF σ0 σ' h0 ma F' → K r σ') (h : wf_M_sumOf F p1 K') : wp_M_sumOf σ h0 p1 K := by
  unfold wf_M_sumOf at h
  unfold wp_M_sumOf
  refine ⟨hR.1.1, ?_⟩
  try rw [hR.r 42 rfl]
  refine ⟨ma 42, rfl, hR.t 42 rfl, ?_⟩
  refine ⟨by rw [hR.l 42 rfl]; exact h.1, ?_⟩
  have h := h.2
  try rw [hR.eJ 42 rfl]
  try rw [hR.r 51 rfl]
  try rw [hR.r 44 rfl]
  refine ⟨ma 44, rfl, hR.t 44 rfl, ?_⟩
  refine ⟨by rw [hR.l 44 rfl]; exact h.1, ?_⟩
  have h := h.2
  try rw [hR.eI 44 rfl]
  refine ⟨ma 51, rfl, hR.t 51 rfl, ?_⟩
  refine ⟨by rw [hR.l 51 rfl]; exact h.1, ?_⟩
  have h := h.2
  try rw [hR.eJ 51 rfl]
  exact hk _ _ _ h hR
def wfb_M_failsNow_38 (K : Int32 → FS → Prop) (F : FS) (v3 : Int32) (s0 : Int32) (s1 : Int32) (s2 : Int32) : Prop :=
  vp_in s2 (lnA 55) ∧ (∀ F_1 : FS, F_1 = fsI F 55 (Int32.toNatClampNeg s2) ((s1 - s0)) → (vp_in 6 (lnA 71) ∧ ((((v3 = 0) → vp_in 6 (lnA 71) ∧ (∀ F_3 : FS, F_3 = fsJ F_1 71 (Int32.toNatClampNeg 6) ((((fJ F_1 71 (Int32.toNatClampNeg 6))) + 0)) → (((v3 = 0 ∨ v3 = 1) ∧ K v3 F_3)))) ∧
  ((¬ v3 = 0) → vp_in 6 (lnA 71) ∧ (∀ F_5 : FS, F_5 = fsJ F_1 71 (Int32.toNatClampNeg 6) ((((fJ F_1 71 (Int32.toNatClampNeg 6))) + 1)) → (((v3 = 0 ∨ v3 = 1) ∧ K v3 F_5))))))))
def wfb_M_failsNow_19 (K : Int32 → FS → Prop) (F : FS) (v1 : Int32) (v2 : Int32) (s0 : Int32) : Prop :=
  vp_in v1 (lnA 55) ∧ ((((s0 = 0) → wfb_M_failsNow_38 K F s0 0 ((fI F 55 (Int32.toNatClampNeg v1))) v1) ∧
  ((¬ s0 = 0) → wfb_M_failsNow_38 K F s0 ((1 <<< (v2 &&& 31))) ((fI F 55 (Int32.toNatClampNeg v1))) v1)))
def wf_M_failsNow (F : FS) (p1 : Int32) (p2 : Int32) (K : Int32 → FS → Prop) : Prop :=
  vp_in p1 (lnA 55) ∧ ((((¬ ((((((fI F 55 (Int32.toNatClampNeg p1))) >>> (p2 &&& 31))) &&& 1)) = (1 : Int32)) → wfb_M_failsNow_19 K F p1 p2 0) ∧
  ((((((((fI F 55 (Int32.toNatClampNeg p1))) >>> (p2 &&& 31))) &&& 1)) = (1 : Int32)) → wfb_M_failsNow_19 K F p1 p2 1)))
set_option maxHeartbeats 4000000 in
set_option maxRecDepth 100000 in
theorem fM_M_failsNow {σ0 σ : ST} {h0 : Nat} {ma : Nat → Nat} {F : FS} {p1 : Int32} {p2 : Int32} {K : Int32 → ST → Prop} {K' : Int32 → FS → Prop} (hR : RMF σ0 σ h0 ma F) (hk : ∀ (r : Int32) (F' : FS) (σ' : ST), K' r F' → RMF σ0 σ' h0 ma F' → K r σ') (h : wf_M_failsNow F p1 p2 K') : wp_M_failsNow σ h0 p1 p2 K := by
  have b_38 : ∀ (σ : ST) (F : FS) (v3 : Int32) (s0 : Int32) (s1 : Int32) (s2 : Int32), RMF σ0 σ h0 ma F → wfb_M_failsNow_38 K' F v3 s0 s1 s2 → wb_M_failsNow_38 h0 K σ v3 s0 s1 s2 (some (ma 55)) := by
    intro σ F v3 s0 s1 s2 hR h
    unfold wfb_M_failsNow_38 at h
    unfold wb_M_failsNow_38
    refine ⟨ma 55, rfl, hR.t 55 rfl, ?_⟩
    refine ⟨by rw [hR.l 55 rfl]; exact h.1, ?_⟩
    have h := h.2
    intro σ_17 z_18
    obtain ⟨F_1, y_2⟩ : ∃ y : FS, y = fsI F 55 (Int32.toNatClampNeg s2) ((s1 - s0)) := ⟨_, rfl⟩
    have h := h F_1 y_2
    have hR := hR.uI 55 rfl (Int32.toNatClampNeg s2) ((s1 - s0))
    rw [← z_18, ← y_2] at hR
    refine ⟨hR.1.1, ?_⟩
    try rw [hR.r 71 rfl]
    refine ⟨ma 71, rfl, hR.t 71 rfl, ?_⟩
    refine ⟨by rw [hR.l 71 rfl]; exact h.1, ?_⟩
    have h := h.2
    try rw [hR.eJ 71 rfl]
    refine ⟨fun c_25 => ?_, fun c_25 => ?_⟩
    · have h := h.1 c_25
      refine ⟨by rw [hR.l 71 rfl]; exact h.1, ?_⟩
      have h := h.2
      intro σ_27 z_28
      obtain ⟨F_3, y_4⟩ : ∃ y : FS, y = fsJ F_1 71 (Int32.toNatClampNeg 6) ((((fJ F_1 71 (Int32.toNatClampNeg 6))) + 0)) := ⟨_, rfl⟩
      have h := h F_3 y_4
      have hR := hR.uJ 71 rfl (Int32.toNatClampNeg 6) ((((fJ F_1 71 (Int32.toNatClampNeg 6))) + 0))
      rw [← z_28, ← y_4] at hR
      exact ⟨h.1, hk _ _ _ h.2 hR⟩
    · have h := h.2 c_25
      refine ⟨by rw [hR.l 71 rfl]; exact h.1, ?_⟩
      have h := h.2
      intro σ_34 z_35
      obtain ⟨F_5, y_6⟩ : ∃ y : FS, y = fsJ F_1 71 (Int32.toNatClampNeg 6) ((((fJ F_1 71 (Int32.toNatClampNeg 6))) + 1)) := ⟨_, rfl⟩
      have h := h F_5 y_6
      have hR := hR.uJ 71 rfl (Int32.toNatClampNeg 6) ((((fJ F_1 71 (Int32.toNatClampNeg 6))) + 1))
      rw [← z_35, ← y_6] at hR
      exact ⟨h.1, hk _ _ _ h.2 hR⟩
  have b_19 : ∀ (σ : ST) (F : FS) (v1 : Int32) (v2 : Int32) (s0 : Int32), RMF σ0 σ h0 ma F → wfb_M_failsNow_19 K' F v1 v2 s0 → wb_M_failsNow_19 h0 K σ v1 v2 s0 := by
    intro σ F v1 v2 s0 hR h
    unfold wfb_M_failsNow_19 at h
    unfold wb_M_failsNow_19
    refine ⟨hR.1.1, ?_⟩
    try rw [hR.r 55 rfl]
    refine ⟨ma 55, rfl, hR.t 55 rfl, ?_⟩
    refine ⟨by rw [hR.l 55 rfl]; exact h.1, ?_⟩
    have h := h.2
    try rw [hR.eI 55 rfl]
    refine ⟨fun c_12 => ?_, fun c_12 => ?_⟩
    · have h := h.1 c_12
      exact b_38 _ _ _ _ _ _ hR h
    · have h := h.2 c_12
      exact b_38 _ _ _ _ _ _ hR h
  unfold wf_M_failsNow at h
  unfold wp_M_failsNow
  refine ⟨hR.1.1, ?_⟩
  try rw [hR.r 55 rfl]
  refine ⟨ma 55, rfl, hR.t 55 rfl, ?_⟩
  refine ⟨by rw [hR.l 55 rfl]; exact h.1, ?_⟩
  have h := h.2
  try rw [hR.eI 55 rfl]
  refine ⟨fun c_6 => ?_, fun c_6 => ?_⟩
  · have h := h.1 c_6
    exact b_19 _ _ _ _ _ hR h
  · have h := h.2 c_6
    exact b_19 _ _ _ _ _ hR h
def wfb_M_pay_403 (K : Int32 → FS → Prop) : Nat → FS → Int32 → Int32 → Int32 → Int32 → Prop
  | 0, _, _, _, _, _ => False
  | n + 1, F, v1, v4, v15, v16 =>
  vp_in v1 (lnA 58) ∧ ((((((((300 * v1)) + ((fI F 58 (Int32.toNatClampNeg v1))))) ≤ v16) → vp_in 7 (lnA 71) ∧ ((((v15 ≤ (2 : Int32)) → vp_in 7 (lnA 71) ∧ (∀ F_29 : FS, F_29 = fsJ F 71 (Int32.toNatClampNeg 7) ((((fJ F 71 (Int32.toNatClampNeg 7))) + 0)) → (K 1 F_29))) ∧
  ((¬ v15 ≤ (2 : Int32)) → vp_in 7 (lnA 71) ∧ (∀ F_31 : FS, F_31 = fsJ F 71 (Int32.toNatClampNeg 7) ((((fJ F 71 (Int32.toNatClampNeg 7))) + 1)) → (K 1 F_31)))))) ∧
  ((¬ ((((300 * v1)) + ((fI F 58 (Int32.toNatClampNeg v1))))) ≤ v16) → vp_in v16 (lnA 59) ∧ ((((¬ ((fI F 59 (Int32.toNatClampNeg v16))) = v4) → ∀ x_224 : Int32, x_224 = (v15 + 0) → (∀ x_226 : Int32, x_226 = v16 + 1 → (wfb_M_pay_403 K n F v1 v4 x_224 x_226))) ∧
  ((((fI F 59 (Int32.toNatClampNeg v16))) = v4) → ∀ x_228 : Int32, x_228 = (v15 + 1) → (∀ x_230 : Int32, x_230 = v16 + 1 → (wfb_M_pay_403 K n F v1 v4 x_228 x_230))))))))
def wfb_M_pay_344 (K : Int32 → FS → Prop) (F : FS) (v1 : Int32) (v4 : Int32) (v9 : Int64) (v11 : Int64) (v13 : Int64) (s0 : Int32) (s1 : Int32) : Prop :=
  vp_in s1 (lnA 58) ∧ (∀ F_19 : FS, F_19 = fsI F 58 (Int32.toNatClampNeg s1) s0 → (vp_in v1 (lnA 56) ∧ (∀ F_21 : FS, F_21 = fsJ F_19 56 (Int32.toNatClampNeg v1) v9 → (vp_in v1 (lnA 57) ∧ (∀ F_23 : FS, F_23 = fsJ F_21 57 (Int32.toNatClampNeg v1) ((v13 + v11)) → (vp_in v1 (lnA 58) ∧ (vp_in ((((300 * v1)) + ((fI F_23 58 (Int32.toNatClampNeg v1))))) (lnA 59) ∧ (∀ F_25 : FS, F_25 = fsI F_23 59 (Int32.toNatClampNeg ((((300 * v1)) + ((fI F_23 58 (Int32.toNatClampNeg v1)))))) v4 → (vp_in v1 (lnA 58) ∧ (vp_in v1 (lnA 58) ∧ (∀ F_27 : FS, F_27 = fsI F_25 58 (Int32.toNatClampNeg v1) ((((fI F_25 58 (Int32.toNatClampNeg v1))) + 1)) → (∀ x_194 : Int32, x_194 = (300 * v1) → (∃ n : Nat, wfb_M_pay_403 K n F_27 v1 v4 0 x_194)))))))))))))
def wfb_M_pay_232 (K : Int32 → FS → Prop) (F : FS) (v1 : Int32) (v4 : Int32) (v7 : Int32) (v9 : Int64) (v11 : Int64) (v13 : Int64) : Prop :=
  wf_M_failsNow F v1 4 (fun (r_67 : Int32) F_7 =>
  (((r_67 = 0) → vp_in v1 (lnA 52) ∧ ((((0 ≤ ((lg_cmp ((fJ F_7 52 (Int32.toNatClampNeg v1))) v11))) → wf_M_failsNow F_7 v1 5 (fun (r_76 : Int32) F_8 =>
  (((r_76 = 0) → vp_in v1 (lnA 52) ∧ (vp_in v1 (lnA 52) ∧ (∀ F_9 : FS, F_9 = fsJ F_8 52 (Int32.toNatClampNeg v1) ((((fJ F_8 52 (Int32.toNatClampNeg v1))) - v11)) → (vp_in 1 (lnA 71) ∧ (vp_in 1 (lnA 71) ∧ (∀ F_11 : FS, F_11 = fsJ F_9 71 (Int32.toNatClampNeg 1) ((((fJ F_9 71 (Int32.toNatClampNeg 1))) + v11)) → (vp_in v7 (lnA 41) ∧ (∀ F_13 : FS, F_13 = fsI F_11 41 (Int32.toNatClampNeg v7) 1 → (vp_in v7 (lnA 47) ∧ (∀ F_15 : FS, F_15 = fsI F_13 47 (Int32.toNatClampNeg v7) v1 → (vp_in v7 (lnA 48) ∧ (∀ F_17 : FS, F_17 = fsI F_15 48 (Int32.toNatClampNeg v7) ((-1)) → (vp_in v1 (lnA 56) ∧ ((((¬ ((lg_cmp ((fJ F_17 56 (Int32.toNatClampNeg v1))) v9)) = 0) → wfb_M_pay_344 K F_17 v1 v4 v9 v11 v13 0 v1) ∧
  ((((lg_cmp ((fJ F_17 56 (Int32.toNatClampNeg v1))) v9)) = 0) → vp_in v1 (lnA 58) ∧ (wfb_M_pay_344 K F_17 v1 v4 v9 v11 v13 ((fI F_17 58 (Int32.toNatClampNeg v1))) v1))))))))))))))))) ∧
  ((¬ r_76 = 0) → K ((-108)) F_8)))) ∧
  ((¬ 0 ≤ ((lg_cmp ((fJ F_7 52 (Int32.toNatClampNeg v1))) v11))) → K ((-107)) F_7)))) ∧
  ((¬ r_67 = 0) → K ((-108)) F_7)))
def wfb_M_pay_201 (K : Int32 → FS → Prop) (F : FS) (v1 : Int32) (v4 : Int32) (v7 : Int32) (v9 : Int64) (v11 : Int64) (s0 : Int64) : Prop :=
  vp_in v1 (lnA 53) ∧ ((((((lg_cmp ((fJ F 53 (Int32.toNatClampNeg v1))) 0)) < 0) → wfb_M_pay_232 K F v1 v4 v7 v9 v11 s0) ∧
  ((¬ ((lg_cmp ((fJ F 53 (Int32.toNatClampNeg v1))) 0)) < 0) → vp_in v1 (lnA 53) ∧ ((((((lg_cmp ((s0 + v11)) ((fJ F 53 (Int32.toNatClampNeg v1))))) ≤ 0) → wfb_M_pay_232 K F v1 v4 v7 v9 v11 s0) ∧
  ((¬ ((lg_cmp ((s0 + v11)) ((fJ F 53 (Int32.toNatClampNeg v1))))) ≤ 0) → K ((-106)) F))))))
def wfb_M_pay_112 (K : Int32 → FS → Prop) (F : FS) (v1 : Int32) (v4 : Int32) (v5 : Int64) (v7 : Int32) : Prop :=
  wf_M_failsNow F v1 1 (fun (r_33 : Int32) F_3 =>
  (((r_33 = 0) → wf_M_failsNow F_3 v1 2 (fun (r_37 : Int32) F_4 =>
  (((r_37 = 0) → vp_in v7 (lnA 45) ∧ ((((v4 = ((fI F_4 45 (Int32.toNatClampNeg v7)))) → wf_M_failsNow F_4 v1 3 (fun (r_46 : Int32) F_5 =>
  (((r_46 = 0) → ∀ x_49 : Int64, x_49 = (v5 / 86400) → (wf_M_sumOf F_5 v7 (fun (r_52 : Int64) F_6 =>
  vp_in v1 (lnA 56) ∧ ((((¬ ((lg_cmp ((fJ F_6 56 (Int32.toNatClampNeg v1))) x_49)) = 0) → wfb_M_pay_201 K F_6 v1 v4 v7 x_49 r_52 0) ∧
  ((((lg_cmp ((fJ F_6 56 (Int32.toNatClampNeg v1))) x_49)) = 0) → vp_in v1 (lnA 57) ∧ (wfb_M_pay_201 K F_6 v1 v4 v7 x_49 r_52 ((fJ F_6 57 (Int32.toNatClampNeg v1)))))))))) ∧
  ((¬ r_46 = 0) → K ((-108)) F_5)))) ∧
  ((¬ v4 = ((fI F_4 45 (Int32.toNatClampNeg v7)))) → K ((-105)) F_4)))) ∧
  ((¬ r_37 = 0) → K ((-108)) F_4)))) ∧
  ((¬ r_33 = 0) → K ((-108)) F_3)))
def wfb_M_pay_59 (K : Int32 → FS → Prop) (F : FS) (v1 : Int32) (v4 : Int32) (v5 : Int64) (v7 : Int32) (s0 : Int32) : Prop :=
  vp_in v7 (lnA 41) ∧ ((((¬ ((fI F 41 (Int32.toNatClampNeg v7))) = 0) → K ((-103)) F) ∧
  ((((fI F 41 (Int32.toNatClampNeg v7))) = 0) → vp_in v7 (lnA 43) ∧ ((((0 < ((lg_cmp v5 ((fJ F 43 (Int32.toNatClampNeg v7)))))) → K ((-103)) F) ∧
  ((¬ 0 < ((lg_cmp v5 ((fJ F 43 (Int32.toNatClampNeg v7)))))) → (((¬ s0 = 0) → K ((-103)) F) ∧
  ((s0 = 0) → vp_in v1 (lnA 54) ∧ ((((((fI F 54 (Int32.toNatClampNeg v1))) = 0) → wfb_M_pay_112 K F v1 v4 v5 v7) ∧
  ((¬ ((fI F 54 (Int32.toNatClampNeg v1))) = 0) → vp_in v7 (lnA 48) ∧ ((((((fI F 48 (Int32.toNatClampNeg v7))) = v1) → wfb_M_pay_112 K F v1 v4 v5 v7) ∧
  ((¬ ((fI F 48 (Int32.toNatClampNeg v7))) = v1) → K ((-103)) F))))))))))))))
def wfb_M_pay_58 (K : Int32 → FS → Prop) (F : FS) (v1 : Int32) (v4 : Int32) (v5 : Int64) (v7 : Int32) : Prop :=
  wfb_M_pay_59 K F v1 v4 v5 v7 0
def wf_M_pay (F : FS) (p1 : Int32) (p2 : Int64) (p4 : Int32) (p5 : Int64) (K : Int32 → FS → Prop) : Prop :=
  wf_M_find F p2 (fun (r_2 : Int32) F_1 =>
  (((¬ r_2 = 0) → wf_M_isOffice F_1 p1 (fun (r_5 : Int32) F_2 =>
  (((r_5 = 0) → K ((-102)) F_2) ∧
  ((¬ r_5 = 0) → (((0 ≤ ((lg_cmp p5 0))) → vp_in r_2 (lnA 48) ∧ ((((((fI F_2 48 (Int32.toNatClampNeg r_2))) = ((-1) : Int32)) → wfb_M_pay_58 K F_2 p1 p4 p5 r_2) ∧
  ((¬ ((fI F_2 48 (Int32.toNatClampNeg r_2))) = ((-1) : Int32)) → vp_in r_2 (lnA 48) ∧ ((((((fI F_2 48 (Int32.toNatClampNeg r_2))) = p1) → wfb_M_pay_58 K F_2 p1 p4 p5 r_2) ∧
  ((¬ ((fI F_2 48 (Int32.toNatClampNeg r_2))) = p1) → wfb_M_pay_59 K F_2 p1 p4 p5 r_2 1))))))) ∧
  ((¬ 0 ≤ ((lg_cmp p5 0))) → K ((-102)) F_2)))))) ∧
  ((r_2 = 0) → K ((-101)) F_1)))
set_option maxHeartbeats 4000000 in
set_option maxRecDepth 100000 in
theorem fM_M_pay {σ0 σ : ST} {h0 : Nat} {ma : Nat → Nat} {F : FS} {p1 : Int32} {p2 : Int64} {p4 : Int32} {p5 : Int64} {K : Int32 → ST → Prop} {K' : Int32 → FS → Prop} (hR : RMF σ0 σ h0 ma F) (hk : ∀ (r : Int32) (F' : FS) (σ' : ST), K' r F' → RMF σ0 σ' h0 ma F' → K r σ') (h : wf_M_pay F p1 p2 p4 p5 K') : wp_M_pay σ h0 p1 p2 p4 p5 K := by
  have b_403 : ∀ (n : Nat) (σ : ST) (F : FS) (v1 : Int32) (v4 : Int32) (v15 : Int32) (v16 : Int32), RMF σ0 σ h0 ma F → wfb_M_pay_403 K' n F v1 v4 v15 v16 → wb_M_pay_403 h0 K n σ v1 v4 v15 v16 := by
    intro n
    induction n with
    | zero =>
      intro σ F v1 v4 v15 v16 hR h
      exact h.elim
    | succ n ih =>
      intro σ F v1 v4 v15 v16 hR h
      unfold wfb_M_pay_403 at h
      unfold wb_M_pay_403
      refine ⟨hR.1.1, ?_⟩
      try rw [hR.r 58 rfl]
      refine ⟨ma 58, rfl, hR.t 58 rfl, ?_⟩
      refine ⟨by rw [hR.l 58 rfl]; exact h.1, ?_⟩
      have h := h.2
      try rw [hR.eI 58 rfl]
      refine ⟨fun c_201 => ?_, fun c_201 => ?_⟩
      · have h := h.1 c_201
        try rw [hR.r 71 rfl]
        refine ⟨ma 71, rfl, hR.t 71 rfl, ?_⟩
        refine ⟨by rw [hR.l 71 rfl]; exact h.1, ?_⟩
        have h := h.2
        try rw [hR.eJ 71 rfl]
        refine ⟨fun c_206 => ?_, fun c_206 => ?_⟩
        · have h := h.1 c_206
          refine ⟨by rw [hR.l 71 rfl]; exact h.1, ?_⟩
          have h := h.2
          intro σ_208 z_209
          obtain ⟨F_29, y_30⟩ : ∃ y : FS, y = fsJ F 71 (Int32.toNatClampNeg 7) ((((fJ F 71 (Int32.toNatClampNeg 7))) + 0)) := ⟨_, rfl⟩
          have h := h F_29 y_30
          have hR := hR.uJ 71 rfl (Int32.toNatClampNeg 7) ((((fJ F 71 (Int32.toNatClampNeg 7))) + 0))
          rw [← z_209, ← y_30] at hR
          exact hk _ _ _ h hR
        · have h := h.2 c_206
          refine ⟨by rw [hR.l 71 rfl]; exact h.1, ?_⟩
          have h := h.2
          intro σ_214 z_215
          obtain ⟨F_31, y_32⟩ : ∃ y : FS, y = fsJ F 71 (Int32.toNatClampNeg 7) ((((fJ F 71 (Int32.toNatClampNeg 7))) + 1)) := ⟨_, rfl⟩
          have h := h F_31 y_32
          have hR := hR.uJ 71 rfl (Int32.toNatClampNeg 7) ((((fJ F 71 (Int32.toNatClampNeg 7))) + 1))
          rw [← z_215, ← y_32] at hR
          exact hk _ _ _ h hR
      · have h := h.2 c_201
        try rw [hR.r 59 rfl]
        refine ⟨ma 59, rfl, hR.t 59 rfl, ?_⟩
        refine ⟨by rw [hR.l 59 rfl]; exact h.1, ?_⟩
        have h := h.2
        try rw [hR.eI 59 rfl]
        refine ⟨fun c_223 => ?_, fun c_223 => ?_⟩
        · have h := h.1 c_223
          intro x_224 q_225
          have h := h x_224 q_225
          intro x_226 q_227
          have h := h x_226 q_227
          exact ih _ _ _ _ _ _ hR h
        · have h := h.2 c_223
          intro x_228 q_229
          have h := h x_228 q_229
          intro x_230 q_231
          have h := h x_230 q_231
          exact ih _ _ _ _ _ _ hR h
  have b_344 : ∀ (σ : ST) (F : FS) (v1 : Int32) (v4 : Int32) (v9 : Int64) (v11 : Int64) (v13 : Int64) (s0 : Int32) (s1 : Int32), RMF σ0 σ h0 ma F → wfb_M_pay_344 K' F v1 v4 v9 v11 v13 s0 s1 → wb_M_pay_344 h0 K σ v1 v4 v9 v11 v13 s0 s1 (some (ma 58)) := by
    intro σ F v1 v4 v9 v11 v13 s0 s1 hR h
    unfold wfb_M_pay_344 at h
    unfold wb_M_pay_344
    refine ⟨ma 58, rfl, hR.t 58 rfl, ?_⟩
    refine ⟨by rw [hR.l 58 rfl]; exact h.1, ?_⟩
    have h := h.2
    intro σ_141 z_142
    obtain ⟨F_19, y_20⟩ : ∃ y : FS, y = fsI F 58 (Int32.toNatClampNeg s1) s0 := ⟨_, rfl⟩
    have h := h F_19 y_20
    have hR := hR.uI 58 rfl (Int32.toNatClampNeg s1) s0
    rw [← z_142, ← y_20] at hR
    refine ⟨hR.1.1, ?_⟩
    try rw [hR.r 56 rfl]
    refine ⟨ma 56, rfl, hR.t 56 rfl, ?_⟩
    refine ⟨by rw [hR.l 56 rfl]; exact h.1, ?_⟩
    have h := h.2
    intro σ_149 z_150
    obtain ⟨F_21, y_22⟩ : ∃ y : FS, y = fsJ F_19 56 (Int32.toNatClampNeg v1) v9 := ⟨_, rfl⟩
    have h := h F_21 y_22
    have hR := hR.uJ 56 rfl (Int32.toNatClampNeg v1) v9
    rw [← z_150, ← y_22] at hR
    try rw [hR.r 57 rfl]
    refine ⟨ma 57, rfl, hR.t 57 rfl, ?_⟩
    refine ⟨by rw [hR.l 57 rfl]; exact h.1, ?_⟩
    have h := h.2
    intro σ_158 z_159
    obtain ⟨F_23, y_24⟩ : ∃ y : FS, y = fsJ F_21 57 (Int32.toNatClampNeg v1) ((v13 + v11)) := ⟨_, rfl⟩
    have h := h F_23 y_24
    have hR := hR.uJ 57 rfl (Int32.toNatClampNeg v1) ((v13 + v11))
    rw [← z_159, ← y_24] at hR
    try rw [hR.r 59 rfl]
    try rw [hR.r 58 rfl]
    refine ⟨ma 58, rfl, hR.t 58 rfl, ?_⟩
    refine ⟨by rw [hR.l 58 rfl]; exact h.1, ?_⟩
    have h := h.2
    try rw [hR.eI 58 rfl]
    refine ⟨ma 59, rfl, hR.t 59 rfl, ?_⟩
    refine ⟨by rw [hR.l 59 rfl]; exact h.1, ?_⟩
    have h := h.2
    intro σ_172 z_173
    obtain ⟨F_25, y_26⟩ : ∃ y : FS, y = fsI F_23 59 (Int32.toNatClampNeg ((((300 * v1)) + ((fI F_23 58 (Int32.toNatClampNeg v1)))))) v4 := ⟨_, rfl⟩
    have h := h F_25 y_26
    have hR := hR.uI 59 rfl (Int32.toNatClampNeg ((((300 * v1)) + ((fI F_23 58 (Int32.toNatClampNeg v1)))))) v4
    rw [← z_173, ← y_26] at hR
    try rw [hR.r 58 rfl]
    refine ⟨ma 58, rfl, hR.t 58 rfl, ?_⟩
    refine ⟨by rw [hR.l 58 rfl]; exact h.1, ?_⟩
    have h := h.2
    try rw [hR.eI 58 rfl]
    refine ⟨by rw [hR.l 58 rfl]; exact h.1, ?_⟩
    have h := h.2
    intro σ_185 z_186
    obtain ⟨F_27, y_28⟩ : ∃ y : FS, y = fsI F_25 58 (Int32.toNatClampNeg v1) ((((fI F_25 58 (Int32.toNatClampNeg v1))) + 1)) := ⟨_, rfl⟩
    have h := h F_27 y_28
    have hR := hR.uI 58 rfl (Int32.toNatClampNeg v1) ((((fI F_25 58 (Int32.toNatClampNeg v1))) + 1))
    rw [← z_186, ← y_28] at hR
    intro x_194 q_195
    have h := h x_194 q_195
    obtain ⟨n, h⟩ := h
    refine ⟨n, ?_⟩
    exact b_403 n _ _ _ _ _ _ hR h
  have b_232 : ∀ (σ : ST) (F : FS) (v1 : Int32) (v4 : Int32) (v7 : Int32) (v9 : Int64) (v11 : Int64) (v13 : Int64), RMF σ0 σ h0 ma F → wfb_M_pay_232 K' F v1 v4 v7 v9 v11 v13 → wb_M_pay_232 h0 K σ v1 v4 v7 v9 v11 v13 := by
    intro σ F v1 v4 v7 v9 v11 v13 hR h
    unfold wfb_M_pay_232 at h
    unfold wb_M_pay_232
    refine ⟨hR.1.1, ?_⟩
    refine fM_M_failsNow hR ?_ h
    intro r_67 F_7 σ_68 h hR
    refine ⟨fun c_69 => ?_, fun c_69 => ?_⟩
    · have h := h.1 c_69
      refine ⟨hR.1.1, ?_⟩
      try rw [hR.r 52 rfl]
      refine ⟨ma 52, rfl, hR.t 52 rfl, ?_⟩
      refine ⟨by rw [hR.l 52 rfl]; exact h.1, ?_⟩
      have h := h.2
      try rw [hR.eJ 52 rfl]
      refine ⟨fun c_75 => ?_, fun c_75 => ?_⟩
      · have h := h.1 c_75
        refine fM_M_failsNow hR ?_ h
        intro r_76 F_8 σ_77 h hR
        refine ⟨fun c_78 => ?_, fun c_78 => ?_⟩
        · have h := h.1 c_78
          refine ⟨hR.1.1, ?_⟩
          try rw [hR.r 52 rfl]
          refine ⟨ma 52, rfl, hR.t 52 rfl, ?_⟩
          refine ⟨by rw [hR.l 52 rfl]; exact h.1, ?_⟩
          have h := h.2
          try rw [hR.eJ 52 rfl]
          refine ⟨by rw [hR.l 52 rfl]; exact h.1, ?_⟩
          have h := h.2
          intro σ_85 z_86
          obtain ⟨F_9, y_10⟩ : ∃ y : FS, y = fsJ F_8 52 (Int32.toNatClampNeg v1) ((((fJ F_8 52 (Int32.toNatClampNeg v1))) - v11)) := ⟨_, rfl⟩
          have h := h F_9 y_10
          have hR := hR.uJ 52 rfl (Int32.toNatClampNeg v1) ((((fJ F_8 52 (Int32.toNatClampNeg v1))) - v11))
          rw [← z_86, ← y_10] at hR
          try rw [hR.r 71 rfl]
          refine ⟨ma 71, rfl, hR.t 71 rfl, ?_⟩
          refine ⟨by rw [hR.l 71 rfl]; exact h.1, ?_⟩
          have h := h.2
          try rw [hR.eJ 71 rfl]
          refine ⟨by rw [hR.l 71 rfl]; exact h.1, ?_⟩
          have h := h.2
          intro σ_94 z_95
          obtain ⟨F_11, y_12⟩ : ∃ y : FS, y = fsJ F_9 71 (Int32.toNatClampNeg 1) ((((fJ F_9 71 (Int32.toNatClampNeg 1))) + v11)) := ⟨_, rfl⟩
          have h := h F_11 y_12
          have hR := hR.uJ 71 rfl (Int32.toNatClampNeg 1) ((((fJ F_9 71 (Int32.toNatClampNeg 1))) + v11))
          rw [← z_95, ← y_12] at hR
          try rw [hR.r 41 rfl]
          refine ⟨ma 41, rfl, hR.t 41 rfl, ?_⟩
          refine ⟨by rw [hR.l 41 rfl]; exact h.1, ?_⟩
          have h := h.2
          intro σ_103 z_104
          obtain ⟨F_13, y_14⟩ : ∃ y : FS, y = fsI F_11 41 (Int32.toNatClampNeg v7) 1 := ⟨_, rfl⟩
          have h := h F_13 y_14
          have hR := hR.uI 41 rfl (Int32.toNatClampNeg v7) 1
          rw [← z_104, ← y_14] at hR
          try rw [hR.r 47 rfl]
          refine ⟨ma 47, rfl, hR.t 47 rfl, ?_⟩
          refine ⟨by rw [hR.l 47 rfl]; exact h.1, ?_⟩
          have h := h.2
          intro σ_113 z_114
          obtain ⟨F_15, y_16⟩ : ∃ y : FS, y = fsI F_13 47 (Int32.toNatClampNeg v7) v1 := ⟨_, rfl⟩
          have h := h F_15 y_16
          have hR := hR.uI 47 rfl (Int32.toNatClampNeg v7) v1
          rw [← z_114, ← y_16] at hR
          try rw [hR.r 48 rfl]
          refine ⟨ma 48, rfl, hR.t 48 rfl, ?_⟩
          refine ⟨by rw [hR.l 48 rfl]; exact h.1, ?_⟩
          have h := h.2
          intro σ_124 z_125
          obtain ⟨F_17, y_18⟩ : ∃ y : FS, y = fsI F_15 48 (Int32.toNatClampNeg v7) ((-1)) := ⟨_, rfl⟩
          have h := h F_17 y_18
          have hR := hR.uI 48 rfl (Int32.toNatClampNeg v7) ((-1))
          rw [← z_125, ← y_18] at hR
          try rw [hR.r 58 rfl]
          try rw [hR.r 56 rfl]
          refine ⟨ma 56, rfl, hR.t 56 rfl, ?_⟩
          refine ⟨by rw [hR.l 56 rfl]; exact h.1, ?_⟩
          have h := h.2
          try rw [hR.eJ 56 rfl]
          refine ⟨fun c_136 => ?_, fun c_136 => ?_⟩
          · have h := h.1 c_136
            exact b_344 _ _ _ _ _ _ _ _ _ hR h
          · have h := h.2 c_136
            try rw [hR.r 58 rfl]
            refine ⟨ma 58, rfl, hR.t 58 rfl, ?_⟩
            refine ⟨by rw [hR.l 58 rfl]; exact h.1, ?_⟩
            have h := h.2
            try rw [hR.eI 58 rfl]
            exact b_344 _ _ _ _ _ _ _ _ _ hR h
        · have h := h.2 c_78
          exact hk _ _ _ h hR
      · have h := h.2 c_75
        exact hk _ _ _ h hR
    · have h := h.2 c_69
      exact hk _ _ _ h hR
  have b_201 : ∀ (σ : ST) (F : FS) (v1 : Int32) (v4 : Int32) (v7 : Int32) (v9 : Int64) (v11 : Int64) (s0 : Int64), RMF σ0 σ h0 ma F → wfb_M_pay_201 K' F v1 v4 v7 v9 v11 s0 → wb_M_pay_201 h0 K σ v1 v4 v7 v9 v11 s0 := by
    intro σ F v1 v4 v7 v9 v11 s0 hR h
    unfold wfb_M_pay_201 at h
    unfold wb_M_pay_201
    refine ⟨hR.1.1, ?_⟩
    try rw [hR.r 53 rfl]
    refine ⟨ma 53, rfl, hR.t 53 rfl, ?_⟩
    refine ⟨by rw [hR.l 53 rfl]; exact h.1, ?_⟩
    have h := h.2
    try rw [hR.eJ 53 rfl]
    refine ⟨fun c_65 => ?_, fun c_65 => ?_⟩
    · have h := h.1 c_65
      exact b_232 _ _ _ _ _ _ _ _ hR h
    · have h := h.2 c_65
      try rw [hR.r 53 rfl]
      refine ⟨by rw [hR.l 53 rfl]; exact h.1, ?_⟩
      have h := h.2
      try rw [hR.eJ 53 rfl]
      refine ⟨fun c_237 => ?_, fun c_237 => ?_⟩
      · have h := h.1 c_237
        exact b_232 _ _ _ _ _ _ _ _ hR h
      · have h := h.2 c_237
        exact hk _ _ _ h hR
  have b_112 : ∀ (σ : ST) (F : FS) (v1 : Int32) (v4 : Int32) (v5 : Int64) (v7 : Int32), RMF σ0 σ h0 ma F → wfb_M_pay_112 K' F v1 v4 v5 v7 → wb_M_pay_112 h0 K σ v1 v4 v5 v7 := by
    intro σ F v1 v4 v5 v7 hR h
    unfold wfb_M_pay_112 at h
    unfold wb_M_pay_112
    refine ⟨hR.1.1, ?_⟩
    refine fM_M_failsNow hR ?_ h
    intro r_33 F_3 σ_34 h hR
    refine ⟨fun c_35 => ?_, fun c_35 => ?_⟩
    · have h := h.1 c_35
      refine ⟨hR.1.1, ?_⟩
      refine fM_M_failsNow hR ?_ h
      intro r_37 F_4 σ_38 h hR
      refine ⟨fun c_39 => ?_, fun c_39 => ?_⟩
      · have h := h.1 c_39
        refine ⟨hR.1.1, ?_⟩
        try rw [hR.r 45 rfl]
        refine ⟨ma 45, rfl, hR.t 45 rfl, ?_⟩
        refine ⟨by rw [hR.l 45 rfl]; exact h.1, ?_⟩
        have h := h.2
        try rw [hR.eI 45 rfl]
        refine ⟨fun c_45 => ?_, fun c_45 => ?_⟩
        · have h := h.1 c_45
          refine fM_M_failsNow hR ?_ h
          intro r_46 F_5 σ_47 h hR
          refine ⟨fun c_48 => ?_, fun c_48 => ?_⟩
          · have h := h.1 c_48
            intro x_49 q_50
            have h := h x_49 q_50
            refine ⟨hR.1.1, ?_⟩
            refine fM_M_sumOf hR ?_ h
            intro r_52 F_6 σ_53 h hR
            refine ⟨hR.1.1, ?_⟩
            try rw [hR.r 56 rfl]
            refine ⟨ma 56, rfl, hR.t 56 rfl, ?_⟩
            refine ⟨by rw [hR.l 56 rfl]; exact h.1, ?_⟩
            have h := h.2
            try rw [hR.eJ 56 rfl]
            refine ⟨fun c_59 => ?_, fun c_59 => ?_⟩
            · have h := h.1 c_59
              exact b_201 _ _ _ _ _ _ _ _ hR h
            · have h := h.2 c_59
              try rw [hR.r 57 rfl]
              refine ⟨ma 57, rfl, hR.t 57 rfl, ?_⟩
              refine ⟨by rw [hR.l 57 rfl]; exact h.1, ?_⟩
              have h := h.2
              try rw [hR.eJ 57 rfl]
              exact b_201 _ _ _ _ _ _ _ _ hR h
          · have h := h.2 c_48
            exact hk _ _ _ h hR
        · have h := h.2 c_45
          exact hk _ _ _ h hR
      · have h := h.2 c_39
        exact hk _ _ _ h hR
    · have h := h.2 c_35
      exact hk _ _ _ h hR
  have b_59 : ∀ (σ : ST) (F : FS) (v1 : Int32) (v4 : Int32) (v5 : Int64) (v7 : Int32) (s0 : Int32), RMF σ0 σ h0 ma F → wfb_M_pay_59 K' F v1 v4 v5 v7 s0 → wb_M_pay_59 h0 K σ v1 v4 v5 v7 s0 := by
    intro σ F v1 v4 v5 v7 s0 hR h
    unfold wfb_M_pay_59 at h
    unfold wb_M_pay_59
    refine ⟨hR.1.1, ?_⟩
    try rw [hR.r 41 rfl]
    refine ⟨ma 41, rfl, hR.t 41 rfl, ?_⟩
    refine ⟨by rw [hR.l 41 rfl]; exact h.1, ?_⟩
    have h := h.2
    try rw [hR.eI 41 rfl]
    refine ⟨fun c_20 => ?_, fun c_20 => ?_⟩
    · have h := h.1 c_20
      exact hk _ _ _ h hR
    · have h := h.2 c_20
      try rw [hR.r 43 rfl]
      refine ⟨ma 43, rfl, hR.t 43 rfl, ?_⟩
      refine ⟨by rw [hR.l 43 rfl]; exact h.1, ?_⟩
      have h := h.2
      try rw [hR.eJ 43 rfl]
      refine ⟨fun c_25 => ?_, fun c_25 => ?_⟩
      · have h := h.1 c_25
        exact hk _ _ _ h hR
      · have h := h.2 c_25
        refine ⟨fun c_26 => ?_, fun c_26 => ?_⟩
        · have h := h.1 c_26
          exact hk _ _ _ h hR
        · have h := h.2 c_26
          try rw [hR.r 54 rfl]
          refine ⟨ma 54, rfl, hR.t 54 rfl, ?_⟩
          refine ⟨by rw [hR.l 54 rfl]; exact h.1, ?_⟩
          have h := h.2
          try rw [hR.eI 54 rfl]
          refine ⟨fun c_31 => ?_, fun c_31 => ?_⟩
          · have h := h.1 c_31
            exact b_112 _ _ _ _ _ _ hR h
          · have h := h.2 c_31
            try rw [hR.r 48 rfl]
            refine ⟨ma 48, rfl, hR.t 48 rfl, ?_⟩
            refine ⟨by rw [hR.l 48 rfl]; exact h.1, ?_⟩
            have h := h.2
            try rw [hR.eI 48 rfl]
            refine ⟨fun c_246 => ?_, fun c_246 => ?_⟩
            · have h := h.1 c_246
              exact b_112 _ _ _ _ _ _ hR h
            · have h := h.2 c_246
              exact hk _ _ _ h hR
  have b_58 : ∀ (σ : ST) (F : FS) (v1 : Int32) (v4 : Int32) (v5 : Int64) (v7 : Int32), RMF σ0 σ h0 ma F → wfb_M_pay_58 K' F v1 v4 v5 v7 → wb_M_pay_58 h0 K σ v1 v4 v5 v7 := by
    intro σ F v1 v4 v5 v7 hR h
    unfold wfb_M_pay_58 at h
    unfold wb_M_pay_58
    exact b_59 _ _ _ _ _ _ _ hR h
  unfold wf_M_pay at h
  unfold wp_M_pay
  refine ⟨hR.1.1, ?_⟩
  refine fM_M_find hR ?_ h
  intro r_2 F_1 σ_3 h hR
  refine ⟨fun c_4 => ?_, fun c_4 => ?_⟩
  · have h := h.1 c_4
    refine fM_M_isOffice hR ?_ h
    intro r_5 F_2 σ_6 h hR
    refine ⟨fun c_7 => ?_, fun c_7 => ?_⟩
    · have h := h.1 c_7
      exact hk _ _ _ h hR
    · have h := h.2 c_7
      refine ⟨fun c_8 => ?_, fun c_8 => ?_⟩
      · have h := h.1 c_8
        refine ⟨hR.1.1, ?_⟩
        try rw [hR.r 48 rfl]
        refine ⟨ma 48, rfl, hR.t 48 rfl, ?_⟩
        refine ⟨by rw [hR.l 48 rfl]; exact h.1, ?_⟩
        have h := h.2
        try rw [hR.eI 48 rfl]
        refine ⟨fun c_14 => ?_, fun c_14 => ?_⟩
        · have h := h.1 c_14
          exact b_58 _ _ _ _ _ _ hR h
        · have h := h.2 c_14
          try rw [hR.r 48 rfl]
          refine ⟨by rw [hR.l 48 rfl]; exact h.1, ?_⟩
          have h := h.2
          try rw [hR.eI 48 rfl]
          refine ⟨fun c_248 => ?_, fun c_248 => ?_⟩
          · have h := h.1 c_248
            exact b_58 _ _ _ _ _ _ hR h
          · have h := h.2 c_248
            exact b_59 _ _ _ _ _ _ _ hR h
      · have h := h.2 c_8
        exact hk _ _ _ h hR
  · have h := h.2 c_4
    exact hk _ _ _ h hR
def wfb_M_fails_41 (K : Int32 → FS → Prop) (F : FS) (v1 : Int32) (v2 : Int32) (s0 : Int32) : Prop :=
  vp_in v1 (lnA 55) ∧ (vp_in v1 (lnA 55) ∧ (∀ F_3 : FS, F_3 = fsI F 55 (Int32.toNatClampNeg v1) ((((fI F 55 (Int32.toNatClampNeg v1))) ||| ((1 <<< (v2 &&& 31))))) → ((((s0 = 0) → K 1 F_3) ∧
  ((¬ s0 = 0) → K 0 F_3)))))
def wf_M_fails (F : FS) (p1 : Int32) (p2 : Int32) (K : Int32 → FS → Prop) : Prop :=
  wf_M_isOffice F p1 (fun (r_1 : Int32) F_1 =>
  (((r_1 = 0) → K ((-102)) F_1) ∧
  ((¬ r_1 = 0) → wf_M_in F_1 ((Int32.toInt64 p2)) 1 5 (fun (r_4 : Int32) F_2 =>
  (((¬ r_4 = 0) → vp_in p1 (lnA 55) ∧ ((((¬ ((((((fI F_2 55 (Int32.toNatClampNeg p1))) >>> (p2 &&& 31))) &&& 1)) = (1 : Int32)) → wfb_M_fails_41 K F_2 p1 p2 0) ∧
  ((((((((fI F_2 55 (Int32.toNatClampNeg p1))) >>> (p2 &&& 31))) &&& 1)) = (1 : Int32)) → wfb_M_fails_41 K F_2 p1 p2 1)))) ∧
  ((r_4 = 0) → K ((-102)) F_2))))))
set_option maxHeartbeats 4000000 in
set_option maxRecDepth 100000 in
theorem fM_M_fails {σ0 σ : ST} {h0 : Nat} {ma : Nat → Nat} {F : FS} {p1 : Int32} {p2 : Int32} {K : Int32 → ST → Prop} {K' : Int32 → FS → Prop} (hR : RMF σ0 σ h0 ma F) (hk : ∀ (r : Int32) (F' : FS) (σ' : ST), K' r F' → RMF σ0 σ' h0 ma F' → K r σ') (h : wf_M_fails F p1 p2 K') : wp_M_fails σ h0 p1 p2 K := by
  have b_41 : ∀ (σ : ST) (F : FS) (v1 : Int32) (v2 : Int32) (s0 : Int32), RMF σ0 σ h0 ma F → wfb_M_fails_41 K' F v1 v2 s0 → wb_M_fails_41 h0 K σ v1 v2 s0 := by
    intro σ F v1 v2 s0 hR h
    unfold wfb_M_fails_41 at h
    unfold wb_M_fails_41
    refine ⟨hR.1.1, ?_⟩
    try rw [hR.r 55 rfl]
    refine ⟨ma 55, rfl, hR.t 55 rfl, ?_⟩
    refine ⟨by rw [hR.l 55 rfl]; exact h.1, ?_⟩
    have h := h.2
    try rw [hR.eI 55 rfl]
    refine ⟨by rw [hR.l 55 rfl]; exact h.1, ?_⟩
    have h := h.2
    intro σ_19 z_20
    obtain ⟨F_3, y_4⟩ : ∃ y : FS, y = fsI F 55 (Int32.toNatClampNeg v1) ((((fI F 55 (Int32.toNatClampNeg v1))) ||| ((1 <<< (v2 &&& 31))))) := ⟨_, rfl⟩
    have h := h F_3 y_4
    have hR := hR.uI 55 rfl (Int32.toNatClampNeg v1) ((((fI F 55 (Int32.toNatClampNeg v1))) ||| ((1 <<< (v2 &&& 31)))))
    rw [← z_20, ← y_4] at hR
    refine ⟨fun c_23 => ?_, fun c_23 => ?_⟩
    · have h := h.1 c_23
      exact hk _ _ _ h hR
    · have h := h.2 c_23
      exact hk _ _ _ h hR
  unfold wf_M_fails at h
  unfold wp_M_fails
  refine fM_M_isOffice hR ?_ h
  intro r_1 F_1 σ_2 h hR
  refine ⟨fun c_3 => ?_, fun c_3 => ?_⟩
  · have h := h.1 c_3
    exact hk _ _ _ h hR
  · have h := h.2 c_3
    refine fM_M_in hR ?_ h
    intro r_4 F_2 σ_5 h hR
    refine ⟨fun c_6 => ?_, fun c_6 => ?_⟩
    · have h := h.1 c_6
      refine ⟨hR.1.1, ?_⟩
      try rw [hR.r 55 rfl]
      refine ⟨ma 55, rfl, hR.t 55 rfl, ?_⟩
      refine ⟨by rw [hR.l 55 rfl]; exact h.1, ?_⟩
      have h := h.2
      try rw [hR.eI 55 rfl]
      refine ⟨fun c_12 => ?_, fun c_12 => ?_⟩
      · have h := h.1 c_12
        exact b_41 _ _ _ _ _ hR h
      · have h := h.2 c_12
        exact b_41 _ _ _ _ _ hR h
    · have h := h.2 c_6
      exact hk _ _ _ h hR
def wf_M_ask (F : FS) (p1 : Int32) (p2 : Int64) (p4 : Int32) (p5 : Int64) (K : Int32 → FS → Prop) : Prop :=
  wf_M_isOffice F p1 (fun (r_1 : Int32) F_1 =>
  (((r_1 = 0) → K ((-102)) F_1) ∧
  ((¬ r_1 = 0) → (((0 ≤ ((lg_cmp p5 0))) → (((¬ ((((fN F_1 60)) - ((fN F_1 61)))) = (20 : Int32)) → vp_in ((((fN F_1 60)) - ((fN F_1 60)) / 128 * 128)) (lnA 62) ∧ (∀ F_2 : FS, F_2 = fsI F_1 62 (Int32.toNatClampNeg ((((fN F_1 60)) - ((fN F_1 60)) / 128 * 128))) p1 → (vp_in ((((fN F_2 60)) - ((fN F_2 60)) / 128 * 128)) (lnA 63) ∧ (∀ F_4 : FS, F_4 = fsJ F_2 63 (Int32.toNatClampNeg ((((fN F_2 60)) - ((fN F_2 60)) / 128 * 128))) p2 → (vp_in ((((fN F_4 60)) - ((fN F_4 60)) / 128 * 128)) (lnA 64) ∧ (∀ F_6 : FS, F_6 = fsI F_4 64 (Int32.toNatClampNeg ((((fN F_4 60)) - ((fN F_4 60)) / 128 * 128))) p4 → (vp_in ((((fN F_6 60)) - ((fN F_6 60)) / 128 * 128)) (lnA 65) ∧ (∀ F_8 : FS, F_8 = fsJ F_6 65 (Int32.toNatClampNeg ((((fN F_6 60)) - ((fN F_6 60)) / 128 * 128))) p5 → (∀ F_10 : FS, F_10 = fsN F_8 60 ((((fN F_8 60)) + 1)) → (K ((((fN F_10 60)) - 1)) F_10)))))))))) ∧
  ((((((fN F_1 60)) - ((fN F_1 61)))) = (20 : Int32)) → K ((-104)) F_1))) ∧
  ((¬ 0 ≤ ((lg_cmp p5 0))) → K ((-102)) F_1)))))
set_option maxHeartbeats 4000000 in
set_option maxRecDepth 100000 in
theorem fM_M_ask {σ0 σ : ST} {h0 : Nat} {ma : Nat → Nat} {F : FS} {p1 : Int32} {p2 : Int64} {p4 : Int32} {p5 : Int64} {K : Int32 → ST → Prop} {K' : Int32 → FS → Prop} (hR : RMF σ0 σ h0 ma F) (hk : ∀ (r : Int32) (F' : FS) (σ' : ST), K' r F' → RMF σ0 σ' h0 ma F' → K r σ') (h : wf_M_ask F p1 p2 p4 p5 K') : wp_M_ask σ h0 p1 p2 p4 p5 K := by
  unfold wf_M_ask at h
  unfold wp_M_ask
  refine fM_M_isOffice hR ?_ h
  intro r_1 F_1 σ_2 h hR
  refine ⟨fun c_3 => ?_, fun c_3 => ?_⟩
  · have h := h.1 c_3
    exact hk _ _ _ h hR
  · have h := h.2 c_3
    refine ⟨fun c_4 => ?_, fun c_4 => ?_⟩
    · have h := h.1 c_4
      refine ⟨hR.1.1, ?_⟩
      try rw [hR.n 60 rfl]
      try rw [hR.n 61 rfl]
      refine ⟨fun c_6 => ?_, fun c_6 => ?_⟩
      · have h := h.1 c_6
        try rw [hR.r 62 rfl]
        try rw [hR.n 60 rfl]
        refine ⟨ma 62, rfl, hR.t 62 rfl, ?_⟩
        refine ⟨by rw [hR.l 62 rfl]; exact h.1, ?_⟩
        have h := h.2
        intro σ_11 z_12
        obtain ⟨F_2, y_3⟩ : ∃ y : FS, y = fsI F_1 62 (Int32.toNatClampNeg ((((fN F_1 60)) - ((fN F_1 60)) / 128 * 128))) p1 := ⟨_, rfl⟩
        have h := h F_2 y_3
        have hR := hR.uI 62 rfl (Int32.toNatClampNeg ((((fN F_1 60)) - ((fN F_1 60)) / 128 * 128))) p1
        rw [← z_12, ← y_3] at hR
        try rw [hR.r 63 rfl]
        try rw [hR.n 60 rfl]
        refine ⟨ma 63, rfl, hR.t 63 rfl, ?_⟩
        refine ⟨by rw [hR.l 63 rfl]; exact h.1, ?_⟩
        have h := h.2
        intro σ_19 z_20
        obtain ⟨F_4, y_5⟩ : ∃ y : FS, y = fsJ F_2 63 (Int32.toNatClampNeg ((((fN F_2 60)) - ((fN F_2 60)) / 128 * 128))) p2 := ⟨_, rfl⟩
        have h := h F_4 y_5
        have hR := hR.uJ 63 rfl (Int32.toNatClampNeg ((((fN F_2 60)) - ((fN F_2 60)) / 128 * 128))) p2
        rw [← z_20, ← y_5] at hR
        try rw [hR.r 64 rfl]
        try rw [hR.n 60 rfl]
        refine ⟨ma 64, rfl, hR.t 64 rfl, ?_⟩
        refine ⟨by rw [hR.l 64 rfl]; exact h.1, ?_⟩
        have h := h.2
        intro σ_28 z_29
        obtain ⟨F_6, y_7⟩ : ∃ y : FS, y = fsI F_4 64 (Int32.toNatClampNeg ((((fN F_4 60)) - ((fN F_4 60)) / 128 * 128))) p4 := ⟨_, rfl⟩
        have h := h F_6 y_7
        have hR := hR.uI 64 rfl (Int32.toNatClampNeg ((((fN F_4 60)) - ((fN F_4 60)) / 128 * 128))) p4
        rw [← z_29, ← y_7] at hR
        try rw [hR.r 65 rfl]
        try rw [hR.n 60 rfl]
        refine ⟨ma 65, rfl, hR.t 65 rfl, ?_⟩
        refine ⟨by rw [hR.l 65 rfl]; exact h.1, ?_⟩
        have h := h.2
        intro σ_38 z_39
        obtain ⟨F_8, y_9⟩ : ∃ y : FS, y = fsJ F_6 65 (Int32.toNatClampNeg ((((fN F_6 60)) - ((fN F_6 60)) / 128 * 128))) p5 := ⟨_, rfl⟩
        have h := h F_8 y_9
        have hR := hR.uJ 65 rfl (Int32.toNatClampNeg ((((fN F_6 60)) - ((fN F_6 60)) / 128 * 128))) p5
        rw [← z_39, ← y_9] at hR
        try rw [hR.n 60 rfl]
        intro σ_45 z_46
        obtain ⟨F_10, y_11⟩ : ∃ y : FS, y = fsN F_8 60 ((((fN F_8 60)) + 1)) := ⟨_, rfl⟩
        have h := h F_10 y_11
        have hR := hR.sN 60 rfl ((((fN F_8 60)) + 1))
        rw [← z_46, ← y_11] at hR
        try rw [hR.n 60 rfl]
        exact hk _ _ _ h hR
      · have h := h.2 c_6
        exact hk _ _ _ h hR
    · have h := h.2 c_4
      exact hk _ _ _ h hR
