/-! the beginning: the class's object, its offices and currencies -/
def isX (j : Nat) : Bool := decide (j = 0 ∨ j = 1 ∨ j = 2 ∨ j = 4 ∨ j = 7 ∨ j = 9)
def tX (j : Nat) : Nat := if j = 0 then 314 else if j = 1 then 313 else if j = 2 then 315 else if j = 4 then 316 else if j = 7 then 312 else 302
def lX (j : Nat) : Nat := if j = 0 then 8 else if j = 1 then 4 else if j = 2 then 300 else if j = 9 then 9 else 100
def dX (b j : Nat) : Prop := isX j = true ∧ j < b
theorem isX_iff {j : Nat} (h : isX j = true) : j = 0 ∨ j = 1 ∨ j = 2 ∨ j = 4 ∨ j = 7 ∨ j = 9 := of_decide_eq_true h
theorem dX_next (b m : Nat) (hs : ∀ j, isX j = true → b ≤ j → j < m → False) : ∀ j, dX (m + 1) j → (dX b j ∧ j ≠ m) ∨ j = m := fun j h => by
  by_cases e : j = m
  · exact Or.inr e
  · refine Or.inl ⟨⟨h.1, ?_⟩, e⟩
    rcases Nat.lt_or_ge j b with q | q
    · exact q
    · exact (hs j h.1 q (by have := h.2; omega)).elim
def HD (Z : Nat → Nat) (ax : Nat) (σ : ST) : Prop :=
  st_tg σ ax = some 0 ∧ (∀ f, isS f = false → st_I σ f ax = 0) ∧ (∀ f, isX f = true → st_R σ f ax = some (Z f) ∧ st_tg σ (Z f) = some (tX f) ∧ st_ln σ (Z f) = lX f) ∧ (∀ x, x < 9 → st_eJ σ (Z 9) x = 0) ∧ ∀ i j, isX i = true → isX j = true → Z i = Z j → i = j
theorem HD.ext {Z : Nat → Nat} {ax : Nat} {σ σ' : ST} (h : HD Z ax σ) (hc : Ext σ σ') (hZ : st_eJ σ' (Z 9) = st_eJ σ (Z 9)) : HD Z ax σ' := by
  obtain ⟨h1, h2, h3, h4, h5⟩ := h
  have e := hc.at h1
  refine ⟨e.1, fun f hf => ?_, fun f hf => ⟨?_, (hc.at (h3 f hf).2.1).1, ?_⟩, fun x hx => ?_, h5⟩
  · rw [e.2.2.1 f hf]
    exact h2 f hf
  · rw [e.2.2.2.2.1]
    exact (h3 f hf).1
  · rw [(hc.at (h3 f hf).2.1).2.1]
    exact (h3 f hf).2.2
  · rw [hZ]
    exact h4 x hx
def OF0 (σ : ST) (k x : Nat) : Prop := st_tg σ x = some 4 ∧ st_I σ 160 x = nI k ∧ st_J σ 161 x = 0 ∧ st_J σ 162 x = -1 ∧ st_I σ 163 x = 0 ∧ st_I σ 164 x = 0 ∧ st_I σ 165 x = 0 ∧ st_J σ 166 x = -1 ∧ st_J σ 167 x = 0 ∧ st_R σ 168 x = none
theorem OF0.ext {σ σ' : ST} {k x : Nat} (h : OF0 σ k x) (hc : Ext σ σ') : OF0 σ' k x := by
  obtain ⟨h1, h2, h3, h4, h5, h6, h7, h8, h9, h10⟩ := h
  obtain ⟨e1, -, e3, e4, e5, -⟩ := hc.at h1
  exact ⟨e1, by rw [e3 160 rfl]; exact h2, by rw [e4]; exact h3, by rw [e4]; exact h4, by rw [e3 163 rfl]; exact h5, by rw [e3 164 rfl]; exact h6, by rw [e3 165 rfl]; exact h7, by rw [e4]; exact h8, by rw [e4]; exact h9, by rw [e5]; exact h10⟩
def CU0 (σ : ST) (x : Nat) : Prop := st_tg σ x = some 3 ∧ st_J σ 120 x = 1000
theorem CU0.ext {σ σ' : ST} {x : Nat} (h : CU0 σ x) (hc : Ext σ σ') : CU0 σ' x := ⟨(hc.at h.1).1, by rw [(hc.at h.1).2.2.2.1]; exact h.2⟩
def OFS (z : Nat) (g : Nat → Nat) (m : Nat) (σ : ST) : Prop := ∀ k, k < m → st_eR σ z k = some (g k) ∧ OF0 σ k (g k)
def CUS (z : Nat) (u : Nat → Nat) (m : Nat) (σ : ST) : Prop := (∀ k, k < m → st_eR σ z k = some (u k) ∧ CU0 σ (u k)) ∧ ∀ i j, i < m → j < m → u i = u j → i = j
theorem OFS.ext {z : Nat} {g : Nat → Nat} {m t : Nat} {σ σ' : ST} (h : OFS z g m σ) (hz : st_tg σ z = some t) (hc : Ext σ σ') : OFS z g m σ' := fun k hk => ⟨by rw [(hc.at hz).2.2.2.2.2]; exact (h k hk).1, (h k hk).2.ext hc⟩
theorem CUS.ext {z : Nat} {g : Nat → Nat} {m t : Nat} {σ σ' : ST} (h : CUS z g m σ) (hz : st_tg σ z = some t) (hc : Ext σ σ') : CUS z g m σ' := ⟨fun k hk => ⟨by rw [(hc.at hz).2.2.2.2.2]; exact (h.1 k hk).1, (h.1 k hk).2.ext hc⟩, h.2⟩
theorem x_curs {Z : Nat → Nat} {ax : Nat} {g : Nat → Nat} {K : ST → Prop} (hK : ∀ (u : Nat → Nat) (σ : ST), HD Z ax σ → OFS (Z 0) g 8 σ → CUS (Z 1) u 4 σ → K σ) : ∀ (r m : Nat) (u : Nat → Nat) (σ : ST), m + r = 4 → HD Z ax σ → OFS (Z 0) g 8 σ → CUS (Z 1) u m σ → wb_X_init_87 ax K (r + 1) σ (nI m) := by
  intro r
  induction r with
  | zero =>
    intro m u σ hm hH hO hC
    have e : m = 4 := by omega
    subst e
    unfold wb_X_init_87
    exact ⟨fun _ => hK u σ hH hO hC, fun z => absurd (nI_le (a := 4) (b := 4) (by decide) (by decide)) z⟩
  | succ r ih =>
    intro m u σ hm hH hO hC
    have tz0 : st_tg σ (Z 0) = some 314 := (hH.2.2.1 0 rfl).2.1
    have tz1 : st_tg σ (Z 1) = some 313 := (hH.2.2.1 1 rfl).2.1
    have hz : Z 0 ≠ Z 1 := fun e => absurd (hH.2.2.2.2 0 1 rfl rfl e) (by decide)
    unfold wb_X_init_87
    refine ⟨fun z => absurd ((nI_leI (a := 4) (b := m) (by decide) (by omega)).mp z) (by omega), fun _ => ⟨hH.1, fun q hq σ1 e1 => ?_⟩⟩
    unfold wp_Currency_init
    refine ⟨by rw [e1, g_tg_new, if_pos rfl], fun σ2 e2 => ?_⟩
    have ex : Ext σ σ2 := by rw [e2, e1]; exact (Ext.nw hq).sJ hq
    have hH2 := hH.ext ex (by rw [e2, e1]; rfl)
    have tq : CU0 σ2 q := ⟨by rw [e2, g_tg_sJ, e1, g_tg_new, if_pos rfl], by rw [e2, g_J_sJ, if_pos ⟨rfl, rfl⟩]⟩
    refine ⟨Z 1, (hH.2.2.1 1 rfl).1, (hH2.2.2.1 1 rfl).2.1, by rw [(hH2.2.2.1 1 rfl).2.2]; exact vp_in_nI (N := 4) (by omega) (by decide), fun y hy => by rw [← Option.some.inj hy]; exact tq.1, fun σ3 e3 x ex3 => ?_⟩
    rw [ex3, nI_1]
    rw [nI_clamp (by omega)] at e3
    obtain ⟨u', hu1, hu2⟩ : ∃ f : Nat → Nat, f m = q ∧ ∀ j, j ≠ m → f j = u j := ⟨fun j => if j = m then q else u j, if_pos rfl, fun j hj => if_neg hj⟩
    have hne : ∀ k, k < m → u k ≠ q := fun k hk e => by
      have := (hC.1 k hk).2.1
      rw [e, hq] at this
      cases this
    refine ih (m + 1) u' σ3 (by omega) (by rw [e3]; exact hH2) (fun k hk => ?_) ⟨fun k hk => ?_, fun i j hi hj e => ?_⟩
    · have o := (OFS.ext hO tz0 ex) k hk
      refine ⟨?_, by rw [e3]; exact o.2⟩
      rw [e3, g_eR_uR, if_neg (fun z => hz z.1)]
      exact o.1
    · by_cases e : k = m
      · subst e
        rw [hu1]
        exact ⟨by rw [e3, g_eR_uR, if_pos ⟨rfl, rfl⟩], by rw [e3]; exact tq⟩
      · rw [hu2 k e]
        have o := (CUS.ext hC tz1 ex).1 k (by omega)
        refine ⟨?_, by rw [e3]; exact o.2⟩
        rw [e3, g_eR_uR, if_neg (fun z => e z.2)]
        exact o.1
    · by_cases ei : i = m
      · by_cases ej : j = m
        · exact ei.trans ej.symm
        · rw [ei, hu1, hu2 j ej] at e
          exact absurd e.symm (hne j (by omega))
      · by_cases ej : j = m
        · rw [ej, hu1, hu2 i ei] at e
          exact absurd e (hne i (by omega))
        · rw [hu2 i ei, hu2 j ej] at e
          exact hC.2 i j (by omega) (by omega) e
theorem x_offs {Z : Nat → Nat} {ax : Nat} {K : ST → Prop} (hK : ∀ (g : Nat → Nat) (σ : ST), HD Z ax σ → OFS (Z 0) g 8 σ → ∃ n : Nat, n ≤ 5 ∧ wb_X_init_87 ax K n σ 0) : ∀ (r m : Nat) (g : Nat → Nat) (σ : ST), m + r = 8 → HD Z ax σ → OFS (Z 0) g m σ → wb_X_init_59 ax K (r + 1) σ (nI m) := by
  intro r
  induction r with
  | zero =>
    intro m g σ hm hH hO
    have e : m = 8 := by omega
    subst e
    unfold wb_X_init_59
    exact ⟨fun _ => hK g σ hH hO, fun z => absurd (nI_le (a := 8) (b := 8) (by decide) (by decide)) z⟩
  | succ r ih =>
    intro m g σ hm hH hO
    have tz0 : st_tg σ (Z 0) = some 314 := (hH.2.2.1 0 rfl).2.1
    unfold wb_X_init_59
    refine ⟨fun z => absurd ((nI_leI (a := 8) (b := m) (by decide) (by omega)).mp z) (by omega), fun _ => ⟨hH.1, fun q hq σ1 e1 => ?_⟩⟩
    unfold wp_Office_init
    refine ⟨by rw [e1, g_tg_new, if_pos rfl], fun σ2 e2 σ5 e5 σ8 e8 => ?_⟩
    have ex : Ext σ σ8 := by rw [e8, e5, e2, e1]; exact (((Ext.nw hq).sJ hq).sJ hq).sI hq
    have hH2 := hH.ext ex (by rw [e8, e5, e2, e1]; rfl)
    have tq : OF0 σ8 m q := by
      refine ⟨?_, ?_, ?_, ?_, ?_, ?_, ?_, ?_, ?_, ?_⟩
      · rw [e8, g_tg_sI, e5, g_tg_sJ, e2, g_tg_sJ, e1, g_tg_new, if_pos rfl]
      · rw [e8, g_I_sI, if_pos ⟨rfl, rfl⟩]
      · rw [e8, g_J_sI, e5, g_J_sJ, if_neg (fun z => absurd z.1 (by decide)), e2, g_J_sJ, if_neg (fun z => absurd z.1 (by decide)), e1, g_J_new, if_pos rfl]
      · rw [e8, g_J_sI, e5, g_J_sJ, if_neg (fun z => absurd z.1 (by decide)), e2, g_J_sJ, if_pos ⟨rfl, rfl⟩]
      · rw [e8, g_I_sI, if_neg (fun z => absurd z.1 (by decide)), e5, g_I_sJ, e2, g_I_sJ, e1, g_I_new, if_pos rfl]
      · rw [e8, g_I_sI, if_neg (fun z => absurd z.1 (by decide)), e5, g_I_sJ, e2, g_I_sJ, e1, g_I_new, if_pos rfl]
      · rw [e8, g_I_sI, if_neg (fun z => absurd z.1 (by decide)), e5, g_I_sJ, e2, g_I_sJ, e1, g_I_new, if_pos rfl]
      · rw [e8, g_J_sI, e5, g_J_sJ, if_pos ⟨rfl, rfl⟩]
      · rw [e8, g_J_sI, e5, g_J_sJ, if_neg (fun z => absurd z.1 (by decide)), e2, g_J_sJ, if_neg (fun z => absurd z.1 (by decide)), e1, g_J_new, if_pos rfl]
      · rw [e8, g_R_sI, e5, g_R_sJ, e2, g_R_sJ, e1, g_R_new, if_pos rfl]
    refine ⟨Z 0, (hH.2.2.1 0 rfl).1, (hH2.2.2.1 0 rfl).2.1, by rw [(hH2.2.2.1 0 rfl).2.2]; exact vp_in_nI (N := 8) (by omega) (by decide), fun y hy => by rw [← Option.some.inj hy]; exact tq.1, fun σ9 e9 x ex9 => ?_⟩
    rw [ex9, nI_1]
    rw [nI_clamp (by omega)] at e9
    obtain ⟨g', hg1, hg2⟩ : ∃ f : Nat → Nat, f m = q ∧ ∀ j, j ≠ m → f j = g j := ⟨fun j => if j = m then q else g j, if_pos rfl, fun j hj => if_neg hj⟩
    refine ih (m + 1) g' σ9 (by omega) (by rw [e9]; exact hH2) (fun k hk => ?_)
    by_cases e : k = m
    · subst e
      rw [hg1]
      exact ⟨by rw [e9, g_eR_uR, if_pos ⟨rfl, rfl⟩], by rw [e9]; exact tq⟩
    · rw [hg2 k e]
      have o := (OFS.ext hO tz0 ex) k (by omega)
      refine ⟨?_, by rw [e9]; exact o.2⟩
      rw [e9, g_eR_uR, if_neg (fun z => e z.2)]
      exact o.1
theorem x_init {σ0 : ST} {ax : Nat} (h0 : st_tg σ0 ax = none) {K : ST → Prop} (hK : ∀ (Z g u : Nat → Nat) (σ : ST), HD Z ax σ → OFS (Z 0) g 8 σ → CUS (Z 1) u 4 σ → K σ) : wp_X_init (st_new σ0 ax 0) ax K := by
  have k : ∃ ma, AR ax 0 tX lX (fun _ => 0) (dX 0) ma σ0 (st_new σ0 ax 0) := ⟨fun _ => 0, AR.new h0 (fun j q => absurd q.2 (by omega))⟩
  generalize st_new σ0 ax 0 = σ at k ⊢
  unfold wp_X_init
  intro q0 C0 t0 s0 e0
  refine ⟨?_, ?_⟩
  · obtain ⟨ma, ha⟩ := k
    rw [e0, g_tg_arr, if_neg (fun z => by have := ha.1; rw [z, t0] at this; cases this)]
    exact ha.1
  intro r0 z0
  have k0 := AR.step (m := 0) (D' := dX 1) k t0 e0 z0 rfl (dX_next 0 0 (fun j a b d => by have := isX_iff a; omega))
  intro q1 C1 t1 s1 e1 r1 z1
  have k1 := AR.step (m := 1) (D' := dX 2) k0 t1 e1 z1 rfl (dX_next 1 1 (fun j a b d => by have := isX_iff a; omega))
  intro q2 C2 t2 s2 e2 r2 z2
  have k2 := AR.step (m := 2) (D' := dX 3) k1 t2 e2 z2 rfl (dX_next 2 2 (fun j a b d => by have := isX_iff a; omega))
  intro q4 C4 t4 s4 e4 r4 z4
  have k4 := AR.step (m := 4) (D' := dX 5) k2 t4 e4 z4 rfl (dX_next 3 4 (fun j a b d => by have := isX_iff a; omega))
  intro q7 C7 t7 s7 e7 r7 z7
  have k7 := AR.step (m := 7) (D' := dX 8) k4 t7 e7 z7 rfl (dX_next 5 7 (fun j a b d => by have := isX_iff a; omega))
  intro q9 C9 t9 s9 e9 r9 z9
  obtain ⟨Z, a1, a2, a3, a4, -, -, -⟩ := AR.step (m := 9) (D' := dX 10) k7 t9 e9 z9 rfl (dX_next 8 9 (fun j a b d => by have := isX_iff a; omega))
  have dx : ∀ f, isX f = true → dX 10 f := fun f hf => ⟨hf, by have := isX_iff hf; omega⟩
  have hH : HD Z ax r9 := ⟨a1, fun f _ => a2 f, fun f hf => ⟨(a3 f (dx f hf)).1, (a3 f (dx f hf)).2.1, (a3 f (dx f hf)).2.2.1⟩, fun x hx => (a3 9 (dx 9 rfl)).2.2.2.2.2 x hx, fun i j hi hj e => a4 i j (dx i hi) (dx j hj) e⟩
  exact ⟨9, Nat.le_refl _, x_offs (Z := Z) (fun g σ h1 h2 => ⟨5, Nat.le_refl _, x_curs (Z := Z) (g := g) (fun u σ' b1 b2 b3 => hK Z g u σ' b1 b2 b3) 4 0 (fun _ => 0) σ rfl h1 h2 ⟨fun k hk => absurd hk (Nat.not_lt_zero k), fun i j hi => absurd hi (Nat.not_lt_zero i)⟩⟩) 8 0 (fun _ => 0) r9 rfl hH (fun k hk => absurd hk (Nat.not_lt_zero k))⟩
/-! both objects at the beginning: the relation -/
def mkG (Z g u ma : Nat → Nat) (ax am : Nat) : GX := fun a b => if a = 0 then Z b else if a = 1 then g b else if a = 2 then u b else if a = 5 then ma b else if a = 6 then (if b = 0 then ax else am) else 0
def fsOf (σ : ST) (am : Nat) (ma : Nat → Nat) : FS := (fun j => st_I σ j am, fun j => st_eI σ (ma j), fun j => st_eJ σ (ma j))
def INV (G : GX) (c : Nat) (F : FS) (σ : ST) : Prop := RX G c F σ ∧ G 7 0 = 0 ∧ RM σ (G 6 1) (G 5) F ∧ ∀ j, isA j = true → G 0 9 ≠ G 5 j
theorem start_inv {σ7 σ : ST} {Z g u ma : Nat → Nat} {ax am : Nat} (hH : HD Z ax σ7) (hO : OFS (Z 0) g 8 σ7) (hC : CUS (Z 1) u 4 σ7) (hA : AR am 1 tagA lnA vM (dM 72) ma σ7 σ) : INV (mkG Z g u ma ax am) 0 (fsOf σ am ma) σ := by
  obtain ⟨a1, a2, a3, a4, a5, a6, a7⟩ := hA
  have dm : ∀ j, isA j = true → dM 72 j := fun j h => ⟨h, by have := isA_iff h; omega⟩
  have tz9 : st_tg σ7 (Z 9) = some 302 := (hH.2.2.1 9 rfl).2.1
  have tz0 : st_tg σ7 (Z 0) = some 314 := (hH.2.2.1 0 rfl).2.1
  have tz1 : st_tg σ7 (Z 1) = some 313 := (hH.2.2.1 1 rfl).2.1
  have hH2 := hH.ext a5 (a6 (Z 9) (by rw [tz9]; exact fun z => (by cases z)))
  have hO2 := hO.ext tz0 a5
  have hC2 := hC.ext tz1 a5
  have z9 : ∀ j, isA j = true → Z 9 ≠ ma j := fun j hj e => by
    have := (a3 j (dm j hj)).2.2.2.1
    rw [← e, tz9] at this
    cases this
  have vI : ∀ j x, isA j = true → fI (fsOf σ am ma) j x = 0 := fun j x hj => (a3 j (dm j hj)).2.2.2.2.1 x
  have vJ : ∀ j x, isA j = true → x < lnA j → fJ (fsOf σ am ma) j x = vM j := fun j x hj hx => (a3 j (dm j hj)).2.2.2.2.2 x hx
  have vN : ∀ j, fN (fsOf σ am ma) j = 0 := fun j => a2 j
  have sx : SX (mkG Z g u ma ax am) σ := ⟨⟨hH2.1, (hH2.2.2.1 0 rfl).1, (hH2.2.2.1 1 rfl).1, (hH2.2.2.1 2 rfl).1, (hH2.2.2.1 4 rfl).1, (hH2.2.2.1 7 rfl).1, (hH2.2.2.1 9 rfl).1⟩, ⟨(hH2.2.2.1 0 rfl).2, (hH2.2.2.1 1 rfl).2, (hH2.2.2.1 2 rfl).2, (hH2.2.2.1 4 rfl).2, (hH2.2.2.1 7 rfl).2, (hH2.2.2.1 9 rfl).2⟩, fun k hk => ⟨(hO2 k hk).1, (hO2 k hk).2.1, (hO2 k hk).2.2.1⟩, fun k hk => ⟨(hC2.1 k hk).1, (hC2.1 k hk).2.1⟩, hC2.2⟩
  refine ⟨⟨sx, fun k hk => ?_, fun k hk => ⟨Or.inl (vI 54 k rfl), ?_, 0, by decide, vI 55 k rfl⟩, fun k hk => ?_, fun j hj => ?_, ⟨0, ⟨by decide, vN 40, hH2.2.1 3 rfl, fun i _ => vI 50 i rfl⟩, ⟨fun i hi => absurd hi (Nat.not_lt_zero i), fun i j hi => absurd hi (Nat.not_lt_zero i)⟩, fun k hk => ⟨?_, Nat.zero_le _⟩, fun k hk => ⟨[], ?_, vI 58 k rfl, trivial, fun i hi => absurd hi (List.not_mem_nil), Nat.zero_le _⟩⟩, ⟨0, 0, vN 60, hH2.2.1 5 rfl, vN 61, hH2.2.1 6 rfl, Nat.le_refl _, by decide, Nat.le_refl _, fun t ht => absurd ht (Nat.not_lt_zero t), fun i j hi => absurd hi (Nat.not_lt_zero i)⟩, ⟨0, by decide, vN 67, hH2.2.1 8 rfl, fun i hi => absurd hi (Nat.not_lt_zero i)⟩⟩, rfl, ⟨a1, fun j hj => ⟨(a3 j (dm j hj)).1, (a3 j (dm j hj)).2.1, (a3 j (dm j hj)).2.2.1⟩, fun i j hi hj e => a4 i j (dm i hi) (dm j hj) e, fun j hj => ⟨rfl, rfl⟩, fun j hj => rfl⟩, z9⟩
  · obtain ⟨-, -, o3, o4, o5, -, o7, o8, o9, -⟩ := (hO2 k hk).2
    exact ⟨o3.trans (vJ 52 k rfl hk).symm, o4.trans (vJ 53 k rfl hk).symm, o5.trans (vI 54 k rfl).symm, o7.trans (vI 55 k rfl).symm, o8.trans (vJ 56 k rfl hk).symm, o9.trans (vJ 57 k rfl hk).symm⟩
  · rw [vJ 53 k rfl hk]
    decide
  · exact (hC2.1 k hk).2.2.trans (vJ 51 k rfl hk).symm
  · exact (hH2.2.2.2.1 j hj).trans (vJ 71 j rfl hj).symm
  · exact (hO2 k hk).2.2.2.2.2.2.1
  · exact (hO2 k hk).2.2.2.2.2.2.2.2.2.2
