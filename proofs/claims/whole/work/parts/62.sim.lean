/-! both sides by cases of the arguments -/
theorem off_or (p : Int32) : (∃ k, k < 8 ∧ p = nI k) ∨ (p < 0 ∨ nI 8 ≤ p) := by
  rcases pk_ix p (n := 8) (by decide) with q | q | q
  · exact Or.inr (Or.inl q)
  · exact Or.inr (Or.inr q)
  · exact Or.inl q
theorem cur_or (p : Int32) : (∃ k, k < 4 ∧ p = nI k) ∨ (p < 0 ∨ nI 4 ≤ p) := by
  rcases pk_ix p (n := 4) (by decide) with q | q | q
  · exact Or.inr (Or.inl q)
  · exact Or.inr (Or.inr q)
  · exact Or.inl q
theorem nI_not {k N : Nat} (hk : k < N) (hN : N < 2 ^ 31) : ¬ (nI k < 0 ∨ nI N ≤ nI k) := fun q => q.elim (fun q => nI_pos (by omega) q) (fun q => absurd ((nI_leI hN (by omega)).mp q) (by omega))
theorem num_or (n : Nat) (p : Int64) : (∃ i, i < n ∧ p = lN (nfN (i + 1))) ∨ ∀ i, i < n → p ≠ lN (nfN (i + 1)) := by
  by_cases h : ∃ i, i < n ∧ p = lN (nfN (i + 1))
  · exact Or.inl h
  · exact Or.inr (fun i hi q => h ⟨i, hi, q⟩)
theorem xo_in {G : GX} {σ : ST} (h : SX G σ) {k : Nat} (hk : k < 8) {K : Option Nat → ST → Prop} (h0 : K (some (G 1 k)) σ) : wp_X_officeAt σ (G 6 0) (nI k) K :=
  x_officeAt h (fun j hj e => by rw [(nI_eq (by omega) (by omega)).mp e] at h0; exact h0) (fun q => absurd q (nI_not hk (by decide)))
theorem xo_out {G : GX} {σ : ST} (h : SX G σ) {p : Int32} (hp : p < 0 ∨ nI 8 ≤ p) {K : Option Nat → ST → Prop} (h0 : K none σ) : wp_X_officeAt σ (G 6 0) p K :=
  x_officeAt h (fun j hj e => absurd (by rw [← e]; exact hp) (nI_not hj (by decide))) (fun _ => h0)
theorem xc_in {G : GX} {σ : ST} (h : SX G σ) {k : Nat} (hk : k < 4) {K : Option Nat → ST → Prop} (h0 : K (some (G 2 k)) σ) : wp_X_currencyAt σ (G 6 0) (nI k) K :=
  x_currencyAt h (fun j hj e => by rw [(nI_eq (by omega) (by omega)).mp e] at h0; exact h0) (fun q => absurd q (nI_not hk (by decide)))
theorem xc_out {G : GX} {σ : ST} (h : SX G σ) {p : Int32} (hp : p < 0 ∨ nI 4 ≤ p) {K : Option Nat → ST → Prop} (h0 : K none σ) : wp_X_currencyAt σ (G 6 0) p K :=
  x_currencyAt h (fun j hj e => absurd (by rw [← e]; exact hp) (nI_not hj (by decide))) (fun _ => h0)
theorem mo_in {F : FS} {k : Nat} (hk : k < 8) {K : Int32 → FS → Prop} (h1 : K 1 F) : wf_M_isOffice F (nI k) K := m_isOffice (fun _ _ _ => h1) (fun q => absurd q (nI_not hk (by decide)))
theorem mo_out {F : FS} {p : Int32} (hp : p < 0 ∨ nI 8 ≤ p) {K : Int32 → FS → Prop} (h0 : K 0 F) : wf_M_isOffice F p K := m_isOffice (fun j hj e => absurd (by rw [← e]; exact hp) (nI_not hj (by decide))) (fun _ => h0)
theorem mi_in {F : FS} {p0 p2 p4 : Int64} (ha : p2 ≤ p0) (hb : p0 ≤ p4) {K : Int32 → FS → Prop} (h1 : K 1 F) : wf_M_in F p0 p2 p4 K := m_in (fun _ _ => h1) (fun q => q.elim (fun q => absurd ha (Int64.not_le.mpr q)) (fun q => absurd hb (Int64.not_le.mpr q)))
theorem mi_out {F : FS} {p0 p2 p4 : Int64} (ha : p0 < p2 ∨ p4 < p0) {K : Int32 → FS → Prop} (h0 : K 0 F) : wf_M_in F p0 p2 p4 K := m_in (fun q1 q2 => ha.elim (fun q => absurd q1 (Int64.not_le.mpr q)) (fun q => absurd q2 (Int64.not_le.mpr q))) (fun _ => h0)
theorem xf_in {G : GX} {F : FS} {n : Nat} {σ : ST} (hS : SX G σ) (hN : NUM G F n σ) (hO : ORD G F n σ) {i : Nat} (hi : i < n) {K : Option Nat → ST → Prop} (h : K (some (G 3 i)) σ) : wp_X_find σ (G 6 0) (lN (nfN (i + 1))) K := by
  have hn := hN.1
  refine x_find hS hN hO (fun j hj e => ?_) (fun q => absurd rfl (q i hi))
  have h1 := nfN_lt (n := i + 1) (by omega)
  have h2 := nfN_lt (n := j + 1) (by omega)
  have h3 := nfN_inj ((lN_eq (by omega) (by omega)).mp e)
  rw [show i = j by omega] at h
  exact h
theorem xf_out {G : GX} {F : FS} {n : Nat} {σ : ST} (hS : SX G σ) (hN : NUM G F n σ) (hO : ORD G F n σ) {p : Int64} (hp : ∀ i, i < n → p ≠ lN (nfN (i + 1))) {K : Option Nat → ST → Prop} (h : K none σ) : wp_X_find σ (G 6 0) p K := x_find hS hN hO (fun i hi e => absurd e (hp i hi)) (fun _ => h)
theorem mf_in {F : FS} {n : Nat} (hn : n ≤ 300) (hF : fN F 40 = nI n) {i : Nat} (hi : i < n) {K : Int32 → FS → Prop} (h : K (nI (i + 1)) F) : wf_M_find F (lN (nfN (i + 1))) K := by
  refine m_find hn hF (fun j hj e => ?_) (fun q => absurd rfl (q i hi))
  have h1 := nfN_lt (n := i + 1) (by omega)
  have h2 := nfN_lt (n := j + 1) (by omega)
  have h3 := nfN_inj ((lN_eq (by omega) (by omega)).mp e)
  rw [show i = j by omega] at h
  exact h
theorem mf_out {F : FS} {n : Nat} (hn : n ≤ 300) (hF : fN F 40 = nI n) {p : Int64} (hp : ∀ i, i < n → p ≠ lN (nfN (i + 1))) {K : Int32 → FS → Prop} (h : K 0 F) : wf_M_find F p K := m_find hn hF (fun i hi e => absurd e (hp i hi)) (fun _ => h)
/-- what the class's calls leave as it was (z: the class's own totals) -/
def FrX (z : Nat) (σ σ1 : ST) : Prop := ∀ a, st_tg σ a ≠ none → st_tg σ1 a = st_tg σ a ∧ st_ln σ1 a = st_ln σ a ∧ (∀ f, 40 ≤ f → f ≤ 71 → st_R σ1 f a = st_R σ f a ∧ st_I σ1 f a = st_I σ f a) ∧ st_eI σ1 a = st_eI σ a ∧ (a ≠ z → st_eJ σ1 a = st_eJ σ a)
theorem FrX.rf {z : Nat} {σ : ST} : FrX z σ σ := fun _ _ => ⟨rfl, rfl, fun _ _ _ => ⟨rfl, rfl⟩, rfl, fun _ => rfl⟩
theorem FrX.tr {z : Nat} {σ σ1 σ2 : ST} (h : FrX z σ σ1) (h2 : FrX z σ1 σ2) : FrX z σ σ2 := fun a ha => by
  obtain ⟨a1, a2, a3, a4, a5⟩ := h a ha
  obtain ⟨b1, b2, b3, b4, b5⟩ := h2 a (by rw [a1]; exact ha)
  exact ⟨b1.trans a1, b2.trans a2, fun f h1 h2 => ⟨(b3 f h1 h2).1.trans (a3 f h1 h2).1, (b3 f h1 h2).2.trans (a3 f h1 h2).2⟩, b4.trans a4, fun q => (b5 q).trans (a5 q)⟩
theorem FrX.sI {z : Nat} {σ : ST} {f a : Nat} {v : Int32} (hf : f < 40 ∨ 71 < f) : FrX z σ (st_sI σ f a v) := fun b _ => ⟨rfl, rfl, fun g h1 h2 => ⟨rfl, by rw [g_I_sI, if_neg (fun q => by omega)]⟩, rfl, fun _ => rfl⟩
theorem FrX.sJ {z : Nat} {σ : ST} {f a : Nat} {v : Int64} : FrX z σ (st_sJ σ f a v) := fun b _ => ⟨rfl, rfl, fun g h1 h2 => ⟨rfl, rfl⟩, rfl, fun _ => rfl⟩
theorem FrX.sR {z : Nat} {σ : ST} {f a : Nat} {v : Option Nat} (hf : f < 40 ∨ 71 < f) : FrX z σ (st_sR σ f a v) := fun b _ => ⟨rfl, rfl, fun g h1 h2 => ⟨by rw [g_R_sR, if_neg (fun q => by omega)], rfl⟩, rfl, fun _ => rfl⟩
theorem FrX.uR {z : Nat} {σ : ST} {a i : Nat} {v : Option Nat} : FrX z σ (st_uR σ a i v) := fun b _ => ⟨rfl, rfl, fun g h1 h2 => ⟨rfl, rfl⟩, rfl, fun _ => rfl⟩
theorem FrX.uJ {z : Nat} {σ : ST} {i : Nat} {v : Int64} : FrX z σ (st_uJ σ z i v) := fun b _ => ⟨rfl, rfl, fun g h1 h2 => ⟨rfl, rfl⟩, rfl, fun q => by funext j; rw [g_eJ_uJ, if_neg (fun y => q y.1)]⟩
theorem FrX.nw {z : Nat} {σ : ST} {q k : Nat} (hq : st_tg σ q = none) : FrX z σ (st_new σ q k) := fun b hb => by
  have hne : b ≠ q := fun e => hb (by rw [e]; exact hq)
  exact ⟨by rw [g_tg_new, if_neg hne], rfl, fun g h1 h2 => ⟨by rw [g_R_new, if_neg hne], by rw [g_I_new, if_neg hne]⟩, rfl, fun _ => rfl⟩
def GG (G G' : GX) : Prop := G' 0 = G 0 ∧ G' 5 = G 5 ∧ G' 6 = G 6 ∧ G' 7 = G 7
theorem GG.rf {G : GX} : GG G G := ⟨rfl, rfl, rfl, rfl⟩
theorem GG.tr {G G1 G2 : GX} (h : GG G G1) (h2 : GG G1 G2) : GG G G2 := ⟨h2.1.trans h.1, h2.2.1.trans h.2.1, h2.2.2.1.trans h.2.2.1, h2.2.2.2.trans h.2.2.2⟩
/-- a call of the class (X) and of the reference (M), from related states: one answer, related states -/
def SimR {α : Type} (G : GX) (c : Nat) (F : FS) (σ : ST) (X : (α → ST → Prop) → Prop) (M : (α → FS → Prop) → Prop) : Prop :=
  ∃ (ans : α) (F' : FS), (∀ K' : α → FS → Prop, K' ans F' → M K') ∧ ∀ K : α → ST → Prop, (∀ (G' : GX) (σ1 : ST), RX G' (c + 1) F' σ1 → FrX (G 0 9) σ σ1 → GG G G' → K ans σ1) → X K
theorem TRS.up {G : GX} {F : FS} {c a v : Nat} {σ : ST} (h : TRS G F c a v σ) : TRS G F (c + 1) a v σ := ⟨h.1, h.2.1, h.2.2.1, h.2.2.2.1, h.2.2.2.2.1, h.2.2.2.2.2.1, Nat.le_succ_of_le h.2.2.2.2.2.2.1, h.2.2.2.2.2.2.2⟩
theorem RX.up {G : GX} {c : Nat} {F : FS} {σ : ST} (h : RX G c F σ) : RX G (c + 1) F σ := by
  obtain ⟨h1, h2, h3, h4, h5, h6, ⟨a, v, h7⟩, h8⟩ := h
  exact ⟨h1, h2, h3, h4, h5, h6, ⟨a, v, h7.up⟩, h8⟩
theorem sim_same {α : Type} {G : GX} {c : Nat} {F : FS} {σ : ST} {X : (α → ST → Prop) → Prop} {M : (α → FS → Prop) → Prop} (h : RX G c F σ) (ans : α) (hM : ∀ K' : α → FS → Prop, K' ans F → M K') (hX : ∀ K : α → ST → Prop, K ans σ → X K) : SimR G c F σ X M := ⟨ans, F, hM, fun K hK => hX K (hK G σ h.up FrX.rf GG.rf)⟩
theorem sim_to {α : Type} {G : GX} {c : Nat} {F : FS} {σ : ST} {X : (α → ST → Prop) → Prop} {M : (α → FS → Prop) → Prop} (ans : α) (F' : FS) (G' : GX) (σ1 : ST) (hR : RX G' (c + 1) F' σ1) (hF : FrX (G 0 9) σ σ1) (hG : GG G G') (hM : ∀ K' : α → FS → Prop, K' ans F' → M K') (hX : ∀ K : α → ST → Prop, K ans σ1 → X K) : SimR G c F σ X M := ⟨ans, F', hM, fun K hK => hX K (hK G' σ1 hR hF hG)⟩
/-! calls that only read -/
theorem s_till {G : GX} {c : Nat} {F : FS} {σ : ST} (h : RX G c F σ) (p : Int32) : SimR G c F σ (fun K => wp_X_till σ (G 6 0) p K) (fun K => wf_M_till F p K) := by
  rcases off_or p with ⟨k, hk, rfl⟩ | hp
  · refine sim_same h (fJ F 52 k) (fun K' q => ?_) (fun K q => ?_)
    · unfold wf_M_till
      refine mo_in hk ⟨fun z => absurd z (by decide), fun _ => ⟨vp_in_nI hk (by decide), ?_⟩⟩
      rw [nI_clamp (by omega)]
      exact q
    · unfold wp_X_till
      refine ⟨h.1.1.1, xo_in h.1 hk ⟨fun _ => ⟨G 1 k, rfl, (h.1.2.2.1 k hk).2.1, ?_⟩, fun z => by cases z⟩⟩
      rw [(h.2.1 k hk).1]
      exact q
  · refine sim_same h (-102) (fun K' q => ?_) (fun K q => ?_)
    · unfold wf_M_till
      exact mo_out hp ⟨fun _ => q, fun z => absurd rfl z⟩
    · unfold wp_X_till
      exact ⟨h.1.1.1, xo_out h.1 hp ⟨fun z => absurd rfl z, fun _ => q⟩⟩
theorem s_all {G : GX} {c : Nat} {F : FS} {σ : ST} (h : RX G c F σ) (p : Int32) : SimR G c F σ (fun K => wp_X_all σ (G 6 0) p K) (fun K => wf_M_all F p K) := by
  rcases pk_ix p (n := 9) (by decide) with hp | hp | ⟨k, hk, rfl⟩
  · refine sim_same h (-102) (fun K' q => ?_) (fun K q => ?_)
    · unfold wf_M_all
      exact mi_out (Or.inl ((t64_lt (y := 0)).mpr hp)) ⟨fun _ => q, fun z => absurd rfl z⟩
    · unfold wp_X_all
      exact ⟨fun _ => q, fun z => absurd hp z⟩
  · have hp0 : ¬ p < 0 := fun z => absurd (Int32.lt_of_le_of_lt hp z) (by decide)
    have hp9 : ¬ p < (9 : Int32) := Int32.not_lt.mpr hp
    have hp8 : (8 : Int32) < p := Int32.lt_of_lt_of_le (by decide) hp
    refine sim_same h (-102) (fun K' q => ?_) (fun K q => ?_)
    · unfold wf_M_all
      exact mi_out (Or.inr ((t64_lt (x := 8)).mpr hp8)) ⟨fun _ => q, fun z => absurd rfl z⟩
    · unfold wp_X_all
      exact ⟨fun z => absurd z hp0, fun _ => ⟨fun z => absurd z hp9, fun _ => q⟩⟩
  · refine sim_same h (fJ F 71 k) (fun K' q => ?_) (fun K q => ?_)
    · unfold wf_M_all
      refine mi_in ((t64_le (x := 0)).mpr (nI_pos' (by omega))) ((t64_le (y := 8)).mpr (nI_le (a := k) (b := 8) (by omega) (by decide))) ⟨fun z => absurd z (by decide), fun _ => ⟨vp_in_nI hk (by decide), ?_⟩⟩
      rw [nI_clamp (by omega)]
      exact q
    · unfold wp_X_all
      refine ⟨fun z => absurd z (nI_pos (by omega)), fun _ => ⟨fun _ => ⟨h.1.1.1, G 0 9, h.1.1.2.2.2.2.2.2, h.1.2.1.2.2.2.2.2.1, ?_, ?_⟩, fun z => absurd (nI_lt (a := k) (b := 9) hk (by decide)) z⟩⟩
      · rw [h.1.2.1.2.2.2.2.2.2]
        exact vp_in_nI hk (by decide)
      · rw [nI_clamp (by omega), h.2.2.2.2.1 k hk]
        exact q
theorem s_since {G : GX} {c : Nat} {F : FS} {σ : ST} (h : RX G c F σ) (p : Int64) : SimR G c F σ (fun K => wp_X_since σ (G 6 0) p K) (fun K => wf_M_since F p K) := by
  obtain ⟨n, hN, hO, -, -⟩ := h.2.2.2.2.2.1
  have hn := hN.1
  rcases num_or n p with ⟨i, hi, rfl⟩ | hp
  · have hin : vp_in (nI (i + 1)) 301 := vp_in_nI (by omega) (by decide)
    have hne : ¬ nI (i + 1) = 0 := nI_ne0 (by omega) (by omega)
    obtain ⟨-, o2, -, -, -, -, -, -, -, o7, -⟩ := hO.1 i hi
    refine sim_same h (if fI F 50 (i + 1) = 0 then -1 else fJ F 49 (i + 1)) (fun K' q => ?_) (fun K q => ?_)
    · unfold wf_M_since
      refine mf_in hn hN.2.1 hi ⟨fun _ => ⟨hin, ?_⟩, fun z => absurd z hne⟩
      rw [nI_clamp (by omega)]
      refine ⟨fun z => by rw [if_pos z] at q; exact q, fun z => ⟨hin, by rw [if_neg z] at q; exact q⟩⟩
    · unfold wp_X_since
      refine ⟨h.1.1.1, xf_in h.1 hN hO hi ⟨fun _ => ⟨G 3 i, rfl, o2, by rw [o7]; exact q⟩, fun z => by cases z⟩⟩
  · refine sim_same h (-101) (fun K' q => ?_) (fun K q => ?_)
    · unfold wf_M_since
      exact mf_out hn hN.2.1 hp ⟨fun z => absurd rfl z, fun _ => q⟩
    · unfold wp_X_since
      exact ⟨h.1.1.1, xf_out h.1 hN hO hp ⟨fun z => absurd rfl z, fun _ => q⟩⟩
