/-! looking up, on both sides -/
theorem t64_lt {x y : Int32} : x.toInt64 < y.toInt64 ↔ x < y := by rw [Int64.lt_iff_toInt_lt, Int32.lt_iff_toInt_lt, Int32.toInt_toInt64, Int32.toInt_toInt64]
theorem t64_le {x y : Int32} : x.toInt64 ≤ y.toInt64 ↔ x ≤ y := by rw [Int64.le_iff_toInt_le, Int32.le_iff_toInt_le, Int32.toInt_toInt64, Int32.toInt_toInt64]
theorem m_in {F : FS} {p0 p2 p4 : Int64} {K : Int32 → FS → Prop} (h1 : p2 ≤ p0 → p0 ≤ p4 → K 1 F) (h0 : (p0 < p2 ∨ p4 < p0) → K 0 F) : wf_M_in F p0 p2 p4 K := by
  unfold wf_M_in
  refine ⟨fun c => h0 (Or.inl ((lg_cmp_lt _ _).mp c)), fun c => ⟨fun c2 => h0 (Or.inr ((lg_cmp_gt _ _).mp c2)), fun c2 => h1 ?_ ?_⟩⟩
  · exact Int64.not_lt.mp (fun q => c ((lg_cmp_lt _ _).mpr q))
  · exact Int64.not_lt.mp (fun q => c2 ((lg_cmp_gt _ _).mpr q))
theorem m_isOffice {F : FS} {p : Int32} {K : Int32 → FS → Prop} (h1 : ∀ k, k < 8 → p = nI k → K 1 F) (h0 : (p < 0 ∨ nI 8 ≤ p) → K 0 F) : wf_M_isOffice F p K := by
  unfold wf_M_isOffice
  refine m_in (fun a b => ⟨Or.inr rfl, ?_⟩) (fun a => ⟨Or.inl rfl, h0 ?_⟩)
  · have a1 : (0 : Int32) ≤ p := t64_le.mp a
    have b1 : p ≤ (7 : Int32) := t64_le.mp b
    rcases pk_ix p (n := 8) (by decide) with q | q | ⟨k, hk, e⟩
    · exact absurd q (Int32.not_lt.mpr a1)
    · exact absurd (Int32.le_trans q b1) (by decide)
    · exact h1 k hk e
  · rcases a with a | a
    · exact Or.inl (t64_lt.mp a)
    · have a1 : (7 : Int32) < p := t64_lt.mp a
      refine Or.inr ?_
      rcases pk_ix p (n := 8) (by decide) with q | q | ⟨k, hk, e⟩
      · exact absurd (Int32.lt_trans a1 q) (by decide)
      · exact q
      · rw [e] at a1
        exact absurd ((nI_ltI (a := 7) (b := k) (by decide) (by omega)).mp a1) (by omega)
theorem m_find {F : FS} {n : Nat} (hn : n ≤ 300) (hF : fN F 40 = nI n) {p : Int64} {K : Int32 → FS → Prop} (h1 : ∀ i, i < n → p = lN (nfN (i + 1)) → K (nI (i + 1)) F) (h0 : (∀ i, i < n → p ≠ lN (nfN (i + 1))) → K 0 F) : wf_M_find F p K := by
  unfold wf_M_find
  have key : ∀ d j, 1 ≤ j → n + 1 ≤ j + d → j ≤ n + 1 → (∀ i, i + 1 < j → i < n → p ≠ lN (nfN (i + 1))) → wfb_M_find_2 K (d + 1) F p (nI j) := by
    intro d
    induction d with
    | zero =>
      intro j h1j h2j h3j hp
      unfold wfb_M_find_2
      refine ⟨fun c => h0 (fun i hi => hp i (by omega) hi), fun c => ?_⟩
      rw [hF] at c
      exact absurd (nI_lt (a := n) (b := j) (by omega) (by omega)) c
    | succ d ih =>
      intro j h1j h2j h3j hp
      unfold wfb_M_find_2
      rw [hF]
      refine ⟨fun c => h0 (fun i hi => hp i ?_ hi), fun c => ?_⟩
      · have := (nI_ltI (a := n) (b := j) (by omega) (by omega)).mp c
        omega
      · have hj : j ≤ n := by
          rcases Nat.lt_or_ge n j with q | q
          · exact absurd ((nI_ltI (a := n) (b := j) (by omega) (by omega)).mpr q) c
          · exact q
        have hb := nfN_lt (n := j) (by omega)
        refine m_numberOf (by omega) ⟨fun c2 => ?_, fun c2 => ?_⟩
        · intro x e
          subst e
          rw [nI_1]
          refine ih (j + 1) (by omega) (by omega) (by omega) (fun i hi hin => ?_)
          by_cases z : i + 1 = j
          · intro q
            apply c2
            rw [lg_cmp_eq, nI_l (by omega), q, z]
          · exact hp i (by omega) hin
        · rw [lg_cmp_eq, nI_l (by omega)] at c2
          have := h1 (j - 1) (by omega) (by rw [show j - 1 + 1 = j by omega]; exact c2.symm)
          rw [show j - 1 + 1 = j by omega] at this
          exact this
  exact ⟨n + 1, key n 1 (by omega) (by omega) (by omega) (fun i hi _ => by omega)⟩
theorem lN_div10 {m : Nat} (h : m < 3030) : lN m / 10 = lN (m / 10) := pk_lDiv (a := m) (b := 10) (by omega) (by decide) (by decide)
theorem x_find {G : GX} {F : FS} {n : Nat} {σ : ST} (hS : SX G σ) (hN : NUM G F n σ) (hO : ORD G F n σ) {p : Int64} {K : Option Nat → ST → Prop} (h1 : ∀ i, i < n → p = lN (nfN (i + 1)) → K (some (G 3 i)) σ) (h0 : (∀ i, i < n → p ≠ lN (nfN (i + 1))) → K none σ) : wp_X_find σ (G 6 0) p K := by
  obtain ⟨hn, hF, hc, -⟩ := hN
  have hq : ∀ i, i < n → p = lN (nfN (i + 1)) → p / 10 = lN (i + 1) := fun i hi e => by
    rw [e, lN_div10 (nfN_lt (by omega)), nfN_div]
  unfold wp_X_find
  intro x e
  refine ⟨fun c => h0 (fun i hi q => ?_), fun c => ⟨hS.1.1, ⟨fun c2 => ?_, fun c2 => h0 (fun i hi q => ?_)⟩⟩⟩
  · rw [lg_cmp_lt, e, hq i hi q] at c
    exact absurd ((lN_lt (a := i + 1) (b := 1) (by omega) (by decide)).mp c) (by omega)
  · rw [lg_cmp_lt] at c
    rw [lg_cmp_le, hc, nI_l (by omega)] at c2
    have hx0 : ¬ x < 0 := fun q => c (Int64.lt_of_lt_of_le q (by decide))
    obtain ⟨m, hm, rfl⟩ := pk_lOf hx0
    have hm1 : 1 ≤ m := by
      rcases Nat.lt_or_ge m 1 with q | q
      · exact absurd ((pk_lLT (a := m) (b := 1) hm (by decide)).mpr q) c
      · exact q
    have hmn : m ≤ n := (pk_lLE (a := m) (b := n) hm (by omega)).mp c2
    have hix : (lN m).toInt32 - 1 = nI (m - 1) := by
      rw [lN_i]
      have := nI_pred (m - 1)
      rwa [show m - 1 + 1 = m by omega] at this
    obtain ⟨o1, o2, o3, -⟩ := hO.1 (m - 1) (by omega)
    rw [show m - 1 + 1 = m by omega] at o3
    refine ⟨G 0 2, hS.1.2.2.2.1, hS.2.1.2.2.1.1, ?_, ?_⟩
    · rw [hS.2.1.2.2.1.2, hix]
      exact vp_in_nI (by omega) (by decide)
    · rw [hix, nI_clamp (by omega), o1]
      refine ⟨fun q => (by cases q), fun _ => ⟨G 3 (m - 1), rfl, o2, ?_⟩⟩
      rw [o3, lg_cmp_eq, nI_l (by have := nfN_lt (n := m) (by omega); omega)]
      refine ⟨fun q => h1 (m - 1) (by omega) (by rw [show m - 1 + 1 = m by omega]; exact q.symm), fun q => h0 (fun i hi z => ?_)⟩
      have hz := hq i hi z
      rw [← e] at hz
      have him := (pk_lEQ (a := m) (b := i + 1) hm (by omega)).mp hz
      exact q (by rw [him]; exact z.symm)
  · rw [e, hq i hi q, hc, lg_cmp_le, nI_l (by omega)] at c2
    exact c2 ((lN_le (a := i + 1) (b := n) (by omega) (by omega)).mpr (by omega))
