/-! pass, both sides -/
theorem psF_hi (d : Int32) (F : FS) : ∀ i j, i ≤ j → fI (psF d i F).1 68 j = fI F 68 j
  | 0, _ => fun _ => rfl
  | i + 1, j => fun h => by
    have hb := (psF_N d F i).2
    have st : psF d (i + 1) F = if psU d (psF d i F).1 i then (psP (psF d i F).1 i, (psF d i F).2) else (psK (psF d i F).1 (psF d i F).2 i, (psF d i F).2 + 1) := rfl
    rw [st]
    by_cases e : psU d (psF d i F).1 i
    · rw [if_pos e]
      show fI (psP (psF d i F).1 i) 68 j = fI F 68 j
      unfold psP
      rw [i_sJ, i_sJ]
      exact psF_hi d F i j (by omega)
    · rw [if_neg e]
      show fI (psK (psF d i F).1 (psF d i F).2 i) 68 j = fI F 68 j
      rw [(psK_o (F := (psF d i F).1) (l := (psF d i F).2) (i := i) (j := j) (by omega)).1]
      exact psF_hi d F i j (by omega)
theorem s_pass {G : GX} {c : Nat} {F : FS} {σ : ST} (h : RX G c F σ) (d : Int32) : SimR G c F σ (fun K => wp_X_pass σ (G 6 0) d K) (fun K => wf_M_pass F d K) := by
  obtain ⟨w, w1, w2, w3, w4⟩ := h.2.2.2.2.2.2.2
  have MD : ∀ {F : FS} {K : Int32 → FS → Prop}, ((0 ≤ d ∧ d ≤ 9999) → K 1 F) → (¬ (0 ≤ d ∧ d ≤ 9999) → K 0 F) → wf_M_in F d.toInt64 0 9999 K := fun q1 q2 => m_in (fun a b => q1 ⟨(t64_le (x := 0)).mp a, (t64_le (y := 9999)).mp b⟩) (fun a => q2 (fun b => a.elim (fun x => absurd b.1 (Int32.not_le.mpr ((t64_lt (y := 0)).mp x))) (fun x => absurd b.2 (Int32.not_le.mpr ((t64_lt (x := 9999)).mp x)))))
  have XD : ∀ {σ : ST} {K : Int32 → ST → Prop}, ((0 ≤ d ∧ d ≤ 9999) → K 1 σ) → (¬ (0 ≤ d ∧ d ≤ 9999) → K 0 σ) → wp_X_isCollectDay σ d K := fun q1 q2 => by
    unfold wp_X_isCollectDay
    exact ⟨fun z => q2 (fun b => absurd b.1 (Int32.not_le.mpr z)), fun z => ⟨fun y => q2 (fun b => absurd b.2 (Int32.not_le.mpr y)), fun y => q1 ⟨Int32.not_lt.mp z, Int32.not_lt.mp y⟩⟩⟩
  by_cases hd : 0 ≤ d ∧ d ≤ 9999
  · refine ⟨nI (w - (psF d w F).2), fsN (psF d w F).1 67 (nI (psF d w F).2), fun K' q => ?_, fun K hK => ?_⟩
    · unfold wf_M_pass
      exact MD (fun _ => ⟨fun _ => m_passLoop w1 w2 (fun i hi => by
        obtain ⟨-, -, -, ⟨hh, a1, -, a3⟩, -⟩ := w4 i hi
        exact ⟨hh, a1, by rw [psF_hi d F i i (Nat.le_refl _)]; exact a3⟩) q, fun z => absurd z (by decide)⟩) (fun z => absurd hd z)
    · unfold wp_X_pass
      refine XD (fun _ => ⟨fun _ => ⟨h.1.1.1, fun x ex => ?_⟩, fun z => absurd z (by decide)⟩) (fun z => absurd hd z)
      rw [ex, w3]
      obtain ⟨h1, h2, h3, h4, h5, h6, h7, -⟩ := h.up
      exact x_passLoop w1 ⟨h1, h2, h3, h4, h5, h6, h7⟩ w4 w3 (fun σ' q1 q2 => hK G σ' q1 q2 GG.rf)
  · refine sim_same h (-102) (fun K' q => ?_) (fun K q => ?_)
    · unfold wf_M_pass
      exact MD (fun z => absurd z hd) (fun _ => ⟨fun z => absurd rfl z, fun _ => q⟩)
    · unfold wp_X_pass
      exact XD (fun z => absurd z hd) (fun _ => ⟨fun z => absurd rfl z, fun _ => q⟩)
