/-! cut -/
def cutF (k : Nat) : Nat → FS → FS
  | 0, F => F
  | i + 1, F => if fI (cutF k i F) 48 (i + 1) = nI k then fsI (cutF k i F) 48 (i + 1) (-1) else cutF k i F
theorem cutF_N (k : Nat) (F : FS) : ∀ i, fN (cutF k i F) = fN F
  | 0 => rfl
  | i + 1 => by
    show fN (if fI (cutF k i F) 48 (i + 1) = nI k then fsI (cutF k i F) 48 (i + 1) (-1) else cutF k i F) = fN F
    by_cases e : fI (cutF k i F) 48 (i + 1) = nI k
    · rw [if_pos e, n_sI]; exact cutF_N k F i
    · rw [if_neg e]; exact cutF_N k F i
theorem m_cutLoop {F : FS} {n k : Nat} (hn : n ≤ 300) (hF : fN F 40 = nI n) {K : Int32 → FS → Prop} (hK : K 1 (cutF k n F)) : ∃ d : Nat, wfb_M_cut_31 K d F (nI k) 0 1 := by
  have key : ∀ d i, n ≤ i + d → i ≤ n → wfb_M_cut_31 K (d + 1) (cutF k i F) (nI k) 0 (nI (i + 1)) := by
    intro d
    induction d with
    | zero =>
      intro i h1 h2
      have e : i = n := by omega
      subst e
      unfold wfb_M_cut_31
      rw [cutF_N, hF]
      exact ⟨fun _ => hK, fun c => absurd (nI_lt (a := i) (b := i + 1) (by omega) (by omega)) c⟩
    | succ d ih =>
      intro i h1 h2
      unfold wfb_M_cut_31
      rw [cutF_N, hF]
      refine ⟨fun c => ?_, fun c => ⟨fun z => absurd rfl z, fun _ => ?_⟩⟩
      · have := (nI_ltI (a := n) (b := i + 1) (by omega) (by omega)).mp c
        have e : i = n := by omega
        subst e
        exact hK
      · have hi : i + 1 ≤ n := by
          rcases Nat.lt_or_ge n (i + 1) with q | q
          · exact absurd ((nI_ltI (a := n) (b := i + 1) (by omega) (by omega)).mpr q) c
          · exact q
        have ih1 := ih (i + 1) (by omega) (by omega)
        have hin : vp_in (nI (i + 1)) 301 := vp_in_nI (by omega) (by decide)
        rw [nI_clamp (by omega)]
        have st : cutF k (i + 1) F = if fI (cutF k i F) 48 (i + 1) = nI k then fsI (cutF k i F) 48 (i + 1) (-1) else cutF k i F := rfl
        refine ⟨hin, ⟨fun z => ⟨hin, hin, fun F4 e4 x ex => ?_⟩, fun z => ⟨hin, fun F6 e6 x ex => ?_⟩⟩⟩
        · rw [fsI_self rfl] at e4
          rw [st, if_neg z] at ih1
          rw [e4, ex, nI_1]
          exact ih1
        · rw [st, if_pos z] at ih1
          rw [e6, ex, nI_1]
          exact ih1
  exact ⟨n + 1, key n 0 (by omega) (by omega)⟩
theorem x_cutLoop {G : GX} {c : Nat} {F : FS} {σ0 : ST} {n k : Nat} (hn : n ≤ 300) (hk : k < 8) (hF : fN F 40 = nI n) (h0 : RX G c F σ0) {K : ST → Prop} (hK : ∀ σ', RX G c (cutF k n F) σ' → FrX (G 0 9) σ0 σ' → K σ') : wp_X_emptyListOf σ0 (G 6 0) (some (G 1 k)) K := by
  have key : ∀ d i σ, n ≤ i + d → i ≤ n → RX G c (cutF k i F) σ → FrX (G 0 9) σ0 σ → wb_X_emptyListOf_2 (G 6 0) K (d + 1) σ (some (G 1 k)) (nI i) := by
    intro d
    induction d with
    | zero =>
      intro i σ h1 h2 hR hf
      have e : i = n := by omega
      subst e
      obtain ⟨hN, -⟩ := hR.ods hn (by rw [cutF_N]; exact hF)
      unfold wb_X_emptyListOf_2
      rw [hN.2.2.1]
      exact ⟨hR.1.1.1, ⟨fun _ => hK σ hR hf, fun c => absurd (nI_le (a := i) (b := i) (Nat.le_refl _) (by omega)) c⟩⟩
    | succ d ih =>
      intro i σ h1 h2 hR hf
      have hF' : fN (cutF k i F) 40 = nI n := by rw [cutF_N]; exact hF
      obtain ⟨hN, hO, -⟩ := hR.ods hn hF'
      unfold wb_X_emptyListOf_2
      rw [hN.2.2.1]
      refine ⟨hR.1.1.1, ⟨fun c => ?_, fun c => ?_⟩⟩
      · have := (nI_leI (a := n) (b := i) (by omega) (by omega)).mp c
        have e : i = n := by omega
        subst e
        exact hK σ hR hf
      · have hi : i < n := by
          rcases Nat.lt_or_ge i n with q | q
          · exact q
          · exact absurd ((nI_leI (a := n) (b := i) (by omega) (by omega)).mpr q) c
        have hO1 := hO.1 i hi
        refine ⟨G 0 2, hR.1.1.2.2.2.1, hR.1.2.1.2.2.1.1, ?_, ?_⟩
        · rw [hR.1.2.1.2.2.1.2]
          exact vp_in_nI (by omega) (by decide)
        rw [nI_clamp (by omega), hO1.1]
        have st : cutF k (i + 1) F = if fI (cutF k i F) 48 (i + 1) = nI k then fsI (cutF k i F) 48 (i + 1) (-1) else cutF k i F := rfl
        have hm1 : ∀ j, j < 8 → ¬ (-1 : Int32) = nI j := fun j hj q => by
          have := congrArg Int32.toInt q
          rw [nI_toInt (by omega)] at this
          have e9 : (-1 : Int32).toInt = -1 := by decide
          omega
        have iff1 : st_R σ 208 (G 3 i) = some (G 1 k) ↔ fI (cutF k i F) 48 (i + 1) = nI k := by
          rcases hO1.2.2.2.2.2.2.2.2.2.2.1 with ⟨e1, e2⟩ | ⟨k2, hk2, e1, e2⟩
          · rw [e1, e2]
            exact ⟨fun z => (by cases z), fun z => absurd z (hm1 k hk)⟩
          · rw [e1, e2]
            exact ⟨fun z => by rw [hR.1.oinj hk2 hk (Option.some.inj z)], fun z => by rw [(nI_eq (by omega) (by omega)).mp z]⟩
        refine ⟨fun z => (by cases z), fun _ => ⟨G 3 i, rfl, hO1.2.1, ⟨fun z x ex => ?_, fun z => ?_⟩⟩⟩
        · rw [ex, nI_1]
          refine ih (i + 1) σ (by omega) (by omega) ?_ hf
          rw [st, if_neg (fun y => z (iff1.mpr y))]
          exact hR
        · refine x_leaveList hR hn hF' hi (fun σ' q1 q2 x ex => ?_)
          rw [ex, nI_1]
          refine ih (i + 1) σ' (by omega) (by omega) ?_ (hf.tr q2)
          rw [st, if_pos (iff1.mp z)]
          exact q1
  exact ⟨n + 1, key n 0 σ0 (by omega) (by omega) h0 FrX.rf⟩
theorem s_cut {G : GX} {c : Nat} {F : FS} {σ : ST} (h : RX G c F σ) (p b : Int32) (hb : b = 0 ∨ b = 1) : SimR G c F σ (fun K => wp_X_cut σ (G 6 0) p b K) (fun K => wf_M_cut F p b K) := by
  obtain ⟨n, hN, -⟩ := h.2.2.2.2.2.1
  have hn := hN.1
  rcases off_or p with ⟨k, hk, rfl⟩ | hp
  · have hin : vp_in (nI k) 8 := vp_in_nI hk (by decide)
    have hck : (nI k).toNatClampNeg = k := nI_clamp (by omega)
    have MM : ∀ K' : Int32 → FS → Prop, (¬ fI F 54 k = b → ∃ n, wfb_M_cut_31 K' n (fsI F 54 k b) (nI k) b 1) → (fI F 54 k = b → K' 0 F) → wf_M_cut F (nI k) b K' := fun K' q1 q2 => by
      unfold wf_M_cut
      refine mo_in hk ⟨fun _ => ⟨hin, ?_⟩, fun z => absurd z (by decide)⟩
      rw [hck]
      exact ⟨fun z => ⟨hin, hb, fun F2 e2 => by rw [e2]; exact q1 z⟩, q2⟩
    have XX : ∀ K : Int32 → ST → Prop, (¬ fI F 54 k = b → (¬ b = 0 → K 1 (st_sI σ 163 (G 1 k) b)) ∧ (b = 0 → wp_X_emptyListOf (st_sI σ 163 (G 1 k) b) (G 6 0) (some (G 1 k)) (fun σ => K 1 σ))) → (fI F 54 k = b → K 0 σ) → wp_X_cut σ (G 6 0) (nI k) b K := fun K q1 q2 => by
      unfold wp_X_cut
      refine ⟨h.1.1.1, xo_in h.1 hk ⟨fun _ => ⟨G 1 k, rfl, (h.1.2.2.1 k hk).2.1, ?_⟩, fun z => by cases z⟩⟩
      rw [(h.2.1 k hk).2.2.1]
      refine ⟨fun z => ⟨hb, fun σ10 e10 => ?_⟩, q2⟩
      rw [e10]
      exact ⟨(q1 z).1, fun y => ⟨h.1.1.1, (q1 z).2 y⟩⟩
    by_cases he : fI F 54 k = b
    · exact sim_same h 0 (fun K' q => MM K' (fun z => absurd he z) (fun _ => q)) (fun K q => XX K (fun z => absurd he z) (fun _ => q))
    · have hR : RX G (c + 1) (fsI F 54 k b) (st_sI σ 163 (G 1 k) b) := by
        obtain ⟨h1, h2, h3, h4, h5, h6, h7, h8⟩ := h.up
        exact ⟨h1, OFF.c54 h1 h2 hk _, h3.c54 hb, h4, h5, ODS.keep h6 (fun _ q => q) (fun _ q => q) rfl rfl rfl rfl rfl rfl rfl rfl, h7, h8⟩
      have f40 : fN (fsI F 54 k b) 40 = nI n := by rw [n_sI]; exact hN.2.1
      have hfr : FrX (G 0 9) σ (st_sI σ 163 (G 1 k) b) := FrX.sI (by decide)
      by_cases hb0 : b = 0
      · subst hb0
        refine ⟨1, cutF k n (fsI F 54 k 0), fun K' q => MM K' (fun _ => m_cutLoop hn f40 q) (fun z => absurd z he), fun K hK => XX K (fun _ => ⟨fun z => absurd rfl z, fun _ => x_cutLoop hn hk f40 hR (fun σ' q1 q2 => hK G σ' q1 (hfr.tr q2) GG.rf)⟩) (fun z => absurd z he)⟩
      · refine ⟨1, fsI F 54 k b, fun K' q => MM K' (fun _ => ⟨1, ?_⟩) (fun z => absurd z he), fun K hK => XX K (fun _ => ⟨fun _ => hK G _ hR hfr GG.rf, fun z => absurd z hb0⟩) (fun z => absurd z he)⟩
        unfold wfb_M_cut_31
        exact ⟨fun _ => q, fun _ => ⟨fun _ => q, fun z => absurd z hb0⟩⟩
  · refine sim_same h (-102) (fun K' q => ?_) (fun K q => ?_)
    · unfold wf_M_cut
      exact mo_out hp ⟨fun z => absurd rfl z, fun _ => q⟩
    · unfold wp_X_cut
      exact ⟨h.1.1.1, xo_out h.1 hp ⟨fun z => absurd rfl z, fun _ => q⟩⟩
