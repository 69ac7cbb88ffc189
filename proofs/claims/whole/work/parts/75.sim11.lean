/-! tick, the reference's side -/
theorem tk1_46 (F : FS) (i : Nat) : fI (tk1 F i) 46 = fI F 46 := by
  funext j
  unfold tk1
  rw [i_sI, if_neg (fun y => absurd y.1 (by decide)), i_sI, if_neg (fun y => absurd y.1 (by decide)), i_sJ, i_sJ]
theorem tkF_46 (t : Int64) (F : FS) : ∀ i, fI (tkF t i F).1 46 = fI F 46
  | 0 => rfl
  | i + 1 => by
    have st : tkF t (i + 1) F = if fJ (tkF t i F).1 43 (i + 1) < t ∧ tkU (tkF t i F).1 i then (tk1 (tkF t i F).1 i, (tkF t i F).2 + 1) else tkF t i F := rfl
    rw [st]
    by_cases e : fJ (tkF t i F).1 43 (i + 1) < t ∧ tkU (tkF t i F).1 i
    · rw [if_pos e]
      show fI (tk1 (tkF t i F).1 i) 46 = fI F 46
      rw [tk1_46]
      exact tkF_46 t F i
    · rw [if_neg e]
      exact tkF_46 t F i
theorem m_tickLoop {F : FS} {n : Nat} {t : Int64} (hn : n ≤ 300) (hF : fN F 40 = nI n) (h46 : ∀ i, i < n → ∃ hh, hh < 8 ∧ fI F 46 (i + 1) = nI hh) {K : Int32 → FS → Prop} (hK : K (nI (tkF t n F).2) (tkF t n F).1) : ∃ d : Nat, wfb_M_tick_14 K d F t 0 1 := by
  have key : ∀ d i, n ≤ i + d → i ≤ n → wfb_M_tick_14 K (d + 1) (tkF t i F).1 t (nI (tkF t i F).2) (nI (i + 1)) := by
    intro d
    induction d with
    | zero =>
      intro i h1 h2
      have e : i = n := by omega
      subst e
      unfold wfb_M_tick_14
      rw [(tkF_N t F i).1, hF]
      exact ⟨fun _ => hK, fun c => absurd (nI_lt (a := i) (b := i + 1) (by omega) (by omega)) c⟩
    | succ d ih =>
      intro i h1 h2
      unfold wfb_M_tick_14
      rw [(tkF_N t F i).1, hF]
      refine ⟨fun c => ?_, fun c => ?_⟩
      · have := (nI_ltI (a := n) (b := i + 1) (by omega) (by omega)).mp c
        have e : i = n := by omega
        subst e
        exact hK
      · have hi : i + 1 ≤ n := by
          rcases Nat.lt_or_ge n (i + 1) with q | q
          · exact absurd ((nI_ltI (a := n) (b := i + 1) (by omega) (by omega)).mpr q) c
          · exact q
        have hin : vp_in (nI (i + 1)) 301 := vp_in_nI (by omega) (by decide)
        have h4 : vp_in 4 9 := vp_in_nI (n := 4) (N := 9) (by decide) (by decide)
        obtain ⟨hh, hh8, eh⟩ := h46 i (by omega)
        have hi52 : vp_in (fI (tkF t i F).1 46 (i + 1)) 8 := by rw [tkF_46, eh]; exact vp_in_nI hh8 (by decide)
        have st : tkF t (i + 1) F = if fJ (tkF t i F).1 43 (i + 1) < t ∧ tkU (tkF t i F).1 i then (tk1 (tkF t i F).1 i, (tkF t i F).2 + 1) else tkF t i F := rfl
        have ih1 := ih (i + 1) (by omega) (by omega)
        have NS : ¬ (fJ (tkF t i F).1 43 (i + 1) < t ∧ tkU (tkF t i F).1 i) → wfb_M_tick_14 K (d + 1) (tkF t i F).1 t (nI (tkF t i F).2) (nI (i + 1 + 1)) := fun z => by
          rw [st, if_neg z] at ih1
          exact ih1
        have GO : (fJ (tkF t i F).1 43 (i + 1) < t ∧ tkU (tkF t i F).1 i) → wfb_M_tick_14 K (d + 1) (tk1 (tkF t i F).1 i) t (nI ((tkF t i F).2 + 1)) (nI (i + 1 + 1)) := fun z => by
          rw [st, if_pos z] at ih1
          exact ih1
        clear ih1 ih
        rw [nI_clamp (by omega)]
        refine ⟨hin, ⟨fun s0 => ?_, fun s0 => ⟨hin, ⟨fun s2 => ⟨fun _ x ex => ?_, fun y => absurd rfl y⟩, fun s2 => ?_⟩⟩⟩⟩
        · refine ⟨hin, ⟨fun z => ⟨fun _ x ex => ?_, fun y => absurd rfl y⟩, fun z => ⟨hin, hi52, hin, ⟨fun w => ⟨fun _ x ex => ?_, fun y => absurd rfl y⟩, fun w => ⟨fun y => absurd y (by decide), fun _ => ⟨hin, hi52, hin, hi52, fun F1 e1 => ⟨h4, hin, h4, fun F3 e3 => ⟨hin, fun F5 e5 => ⟨hin, fun F7 e7 x ex x2 ex2 => ?_⟩⟩⟩⟩⟩⟩⟩⟩⟩
          · rw [ex, nI_1]
            exact NS (fun y => absurd ((lg_cmp_ge _ _).mp z) (Int64.not_le.mpr y.1))
          · rw [ex, nI_1]
            exact NS (fun y => absurd y.2.2 (Int64.not_le.mpr ((lg_cmp_lt _ _).mp w)))
          · have g1 : fJ F1 71 (Int32.toNatClampNeg 4) = fJ (tkF t i F).1 71 4 := by rw [e1, j_sJ, if_neg (fun y => absurd y.1 (by decide))]; rfl
            have g2 : fJ F1 42 (i + 1) = fJ (tkF t i F).1 42 (i + 1) := by rw [e1, j_sJ, if_neg (fun y => absurd y.1 (by decide))]
            have e8 : F7 = tk1 (tkF t i F).1 i := by rw [e7, e5, e3, g1, g2, e1]; rfl
            rw [e8, ex, ex2, nI_1, nI_1]
            exact GO ⟨Int64.not_le.mp (fun y => z ((lg_cmp_ge _ _).mpr y)), Or.inl s0, Int64.not_lt.mp (fun y => w ((lg_cmp_lt _ _).mpr y))⟩
        · rw [ex, nI_1]
          exact NS (fun y => y.2.1.elim s0 s2)
        · refine ⟨hin, ⟨fun z => ⟨fun _ x ex => ?_, fun y => absurd rfl y⟩, fun z => ⟨hin, hi52, hin, ⟨fun w => ⟨fun _ x ex => ?_, fun y => absurd rfl y⟩, fun w => ⟨fun y => absurd y (by decide), fun _ => ⟨hin, hi52, hin, hi52, fun F1 e1 => ⟨h4, hin, h4, fun F3 e3 => ⟨hin, fun F5 e5 => ⟨hin, fun F7 e7 x ex x2 ex2 => ?_⟩⟩⟩⟩⟩⟩⟩⟩⟩
          · rw [ex, nI_1]
            exact NS (fun y => absurd ((lg_cmp_ge _ _).mp z) (Int64.not_le.mpr y.1))
          · rw [ex, nI_1]
            exact NS (fun y => absurd y.2.2 (Int64.not_le.mpr ((lg_cmp_lt _ _).mp w)))
          · have g1 : fJ F1 71 (Int32.toNatClampNeg 4) = fJ (tkF t i F).1 71 4 := by rw [e1, j_sJ, if_neg (fun y => absurd y.1 (by decide))]; rfl
            have g2 : fJ F1 42 (i + 1) = fJ (tkF t i F).1 42 (i + 1) := by rw [e1, j_sJ, if_neg (fun y => absurd y.1 (by decide))]
            have e8 : F7 = tk1 (tkF t i F).1 i := by rw [e7, e5, e3, g1, g2, e1]; rfl
            rw [e8, ex, ex2, nI_1, nI_1]
            exact GO ⟨Int64.not_le.mp (fun y => z ((lg_cmp_ge _ _).mpr y)), Or.inr s2, Int64.not_lt.mp (fun y => w ((lg_cmp_lt _ _).mpr y))⟩
  exact ⟨n + 1, key n 0 (by omega) (by omega)⟩
theorem s_tick {G : GX} {c : Nat} {F : FS} {σ : ST} (h : RX G c F σ) (t : Int64) : SimR G c F σ (fun K => wp_X_tick σ (G 6 0) t K) (fun K => wf_M_tick F t K) := by
  obtain ⟨n, hN, hO, -⟩ := h.2.2.2.2.2.1
  have hn := hN.1
  by_cases ht : 0 ≤ t
  · have ht1 := (lg_cmp_ge t 0).mpr ht
    refine ⟨nI (tkF t n F).2, (tkF t n F).1, fun K' q => ?_, fun K hK => ?_⟩
    · unfold wf_M_tick
      exact ⟨fun _ => m_tickLoop hn hN.2.1 (fun i hi => by
        obtain ⟨hh, a1, -, a3⟩ := (hO.1 i hi).2.2.2.1
        exact ⟨hh, a1, a3⟩) q, fun z => absurd ht1 z⟩
    · unfold wp_X_tick
      exact ⟨fun _ => x_tickLoop hn hN.2.1 h.up (fun σ' q1 q2 => hK G σ' q1 q2 GG.rf), fun z => absurd ht1 z⟩
  · have ht1 : ¬ 0 ≤ lg_cmp t 0 := fun z => ht ((lg_cmp_ge t 0).mp z)
    refine sim_same h (-102) (fun K' q => ?_) (fun K q => ?_)
    · unfold wf_M_tick
      exact ⟨fun z => absurd z ht1, fun _ => q⟩
    · unfold wp_X_tick
      exact ⟨fun z => absurd z ht1, fun _ => q⟩
