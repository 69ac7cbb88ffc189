/-! pay: what is asked first -/
abbrev okP (F : FS) (k i : Nat) (t : Int64) : Prop := fI F 41 (i + 1) = 0 ∧ t ≤ fJ F 43 (i + 1) ∧ (fI F 48 (i + 1) = nI k ∨ (fI F 48 (i + 1) = -1 ∧ fI F 54 k = 0))
theorem nI_m1 {j : Nat} (hj : j < 2 ^ 31) : ¬ nI j = -1 := fun q => by
  have := congrArg Int32.toInt q
  rw [nI_toInt hj] at this
  have e9 : (-1 : Int32).toInt = -1 := by decide
  omega
theorem m_payTop {F : FS} {n i k : Nat} (hn : n ≤ 300) (hF : fN F 40 = nI n) (hi : i < n) (hk : k < 8) {pr : Int32} {t : Int64} (ht : 0 ≤ t) {K : Int32 → FS → Prop} (h1 : okP F k i t → wfb_M_pay_112 K F (nI k) pr t (nI (i + 1))) (h0 : ¬ okP F k i t → K (-103) F) : wf_M_pay F (nI k) (lN (nfN (i + 1))) pr t K := by
  have hin : vp_in (nI (i + 1)) 301 := vp_in_nI (by omega) (by decide)
  have hk8 : vp_in (nI k) 8 := vp_in_nI hk (by decide)
  have hci : (nI (i + 1)).toNatClampNeg = i + 1 := nI_clamp (by omega)
  have hck : (nI k).toNatClampNeg = k := nI_clamp (by omega)
  have ht1 := (lg_cmp_ge t 0).mpr ht
  have hne : ¬ nI (i + 1) = 0 := nI_ne0 (by omega) (by omega)
  have B : ∀ s : Int32, (¬ s = 0 → ¬ okP F k i t) → (s = 0 → fI F 48 (i + 1) = nI k ∨ fI F 48 (i + 1) = -1) → wfb_M_pay_59 K F (nI k) pr t (nI (i + 1)) s := fun s q1 q2 => by
    unfold wfb_M_pay_59
    rw [hci, hck]
    refine ⟨hin, ⟨fun z => h0 (fun y => z y.1), fun z => ⟨hin, ⟨fun y => h0 (fun x => absurd ((lg_cmp_gt _ _).mp y) (Int64.not_lt.mpr x.2.1)), fun y => ⟨fun x => h0 (q1 x), fun x => ⟨hk8, ⟨fun w => h1 ⟨z, Int64.not_lt.mp (fun u => y ((lg_cmp_gt _ _).mpr u)), (q2 x).elim Or.inl (fun u => Or.inr ⟨u, w⟩)⟩, fun w => ⟨hin, ⟨fun u => h1 ⟨z, Int64.not_lt.mp (fun u => y ((lg_cmp_gt _ _).mpr u)), Or.inl u⟩, fun u => h0 (fun p => p.2.2.elim u (fun p => w p.2))⟩⟩⟩⟩⟩⟩⟩⟩⟩
  unfold wf_M_pay
  refine mf_in hn hF hi ⟨fun _ => mo_in hk ⟨fun z => absurd z (by decide), fun _ => ⟨fun _ => ⟨hin, ?_⟩, fun z => absurd ht1 z⟩⟩, fun z => absurd z hne⟩
  unfold wfb_M_pay_58
  rw [hci]
  exact ⟨fun z => B 0 (fun y => absurd rfl y) (fun _ => Or.inr z), fun z => ⟨hin, ⟨fun y => B 0 (fun y => absurd rfl y) (fun _ => Or.inl y), fun y => B 1 (fun _ p => p.2.2.elim y (fun p => z p.1)) (fun p => absurd p (by decide))⟩⟩⟩
theorem x_payTop {G : GX} {c : Nat} {F : FS} {σ : ST} (h : RX G c F σ) {n i k : Nat} (hn : n ≤ 300) (hF : fN F 40 = nI n) (hi : i < n) (hk : k < 8) {pr : Int32} {t : Int64} (ht : 0 ≤ t) {K : Int32 → ST → Prop} (h1 : okP F k i t → wp_X_goThroughSteps σ (G 6 0) (some (G 1 k)) (some (G 3 i)) pr (t / 86400) K) (h0 : ¬ okP F k i t → K (-103) σ) : wp_X_pay σ (G 6 0) (nI k) (lN (nfN (i + 1))) pr t K := by
  obtain ⟨hN, hO, hL, hC⟩ := h.ods hn hF
  have ht1 := (lg_cmp_ge t 0).mpr ht
  obtain ⟨-, o2, -, -, -, o6, -, -, o9, -, o11, -⟩ := hO.1 i hi
  unfold wp_X_pay
  refine ⟨h.1.1.1, xf_in h.1 hN hO hi ⟨fun _ => ⟨h.1.1.1, xo_in h.1 hk ⟨fun z => (by cases z), fun _ => ⟨fun _ => ⟨G 3 i, rfl, o2, ?_⟩, fun z => absurd ht1 z⟩⟩⟩, fun z => (by cases z)⟩⟩
  rw [o9, o6]
  refine ⟨fun z => h0 (fun y => z y.1), fun z => ⟨fun y => h0 (fun x => absurd ((lg_cmp_gt _ _).mp y) (Int64.not_lt.mpr x.2.1)), fun y => ⟨G 1 k, rfl, (h.1.2.2.1 k hk).2.1, ?_⟩⟩⟩
  have hu : t ≤ fJ F 43 (i + 1) := Int64.not_lt.mp (fun u => y ((lg_cmp_gt _ _).mpr u))
  unfold wp_Office_mayTouch
  refine ⟨G 3 i, rfl, o2, ?_⟩
  rcases o11 with ⟨e1, e2⟩ | ⟨k', hk', e1, e2⟩
  · rw [e1]
    refine ⟨fun z => (by cases z), fun _ => ⟨fun z => absurd rfl z, fun _ => ⟨(h.1.2.2.1 k hk).2.1, ?_⟩⟩⟩
    rw [(h.2.1 k hk).2.2.1]
    exact ⟨fun w => ⟨fun q => absurd rfl q, fun _ => h0 (fun p => p.2.2.elim (fun p => nI_m1 (by omega) (p.symm.trans e2)) (fun p => w p.2))⟩, fun w => ⟨fun _ => ⟨h.1.1.1, h1 ⟨z, hu, Or.inr ⟨e2, w⟩⟩⟩, fun q => absurd q (by decide)⟩⟩
  · rw [e1]
    refine ⟨fun q => ⟨fun _ => ⟨h.1.1.1, h1 ⟨z, hu, Or.inl ?_⟩⟩, fun q => absurd q (by decide)⟩, fun q => ⟨fun _ => ⟨fun p => absurd rfl p, fun _ => h0 (fun p => p.2.2.elim (fun p => ?_) (fun p => nI_m1 (by omega) (e2.symm.trans p.1)))⟩, fun p => (by cases p)⟩⟩
    · rw [e2, h.1.oinj hk' hk (Option.some.inj q)]
    · exact q (by rw [(nI_eq (by omega) (by omega)).mp (e2.symm.trans p)])
