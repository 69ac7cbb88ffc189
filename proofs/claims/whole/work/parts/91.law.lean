/-! the law: call after call -/
theorem RM.frX {σ σ1 : ST} {z am : Nat} {ma : Nat → Nat} {F : FS} (h : RM σ am ma F) (hz : ∀ j, isA j = true → z ≠ ma j) (q : FrX z σ σ1) : RM σ1 am ma F := by
  obtain ⟨h1, h2, h3, h4, h5⟩ := h
  have ha := q am (by rw [h1]; exact fun z => (by cases z))
  have hj : ∀ j, isA j = true → _ := fun j hj => q (ma j) (by rw [(h2 j hj).2.1]; exact fun z => (by cases z))
  refine ⟨ha.1.trans h1, fun j hj' => ⟨?_, (hj j hj').1.trans (h2 j hj').2.1, (hj j hj').2.1.trans (h2 j hj').2.2⟩, h3, fun j hj' => ⟨(hj j hj').2.2.2.1.trans (h4 j hj').1, ((hj j hj').2.2.2.2 (fun e => hz j hj' e.symm)).trans (h4 j hj').2⟩, fun j hs => ?_⟩
  · have b := isA_iff hj'
    exact (ha.2.2.1 j (by omega) (by omega)).1.trans (h2 j hj').1
  · have b : j = 40 ∨ j = 60 ∨ j = 61 ∨ j = 67 := of_decide_eq_true hs
    exact (ha.2.2.1 j (by omega) (by omega)).2.trans (h5 j hs)
theorem INV.next {G G' : GX} {c : Nat} {F F' : FS} {σ σ1 σ2 : ST} (hI : INV G c F σ) (r : RX G' (c + 1) F' σ1) (g : GG G G') (rm : RMF σ1 σ2 (G 6 1) (G 5) F') : INV G' (c + 1) F' σ2 := by
  obtain ⟨g0, g5, g6, g7⟩ := g
  exact ⟨r.frM rm.2 (fun j hj => by rw [g0]; exact hI.2.2.2 j hj), by rw [g7]; exact hI.2.1, by rw [g6, g5]; exact rm.1, fun j hj => by rw [g0, g5]; exact hI.2.2.2 j hj⟩
theorem nI_sub_lt {a b t : Nat} (ha : a < 2 ^ 30) (hb : b < 2 ^ 30) (ht : t < 2 ^ 31) : nI a - nI b < nI t ↔ a < t + b := by
  rw [Int32.lt_iff_toInt_lt, pk_sub_toInt ha hb, nI_toInt ht]
  omega
set_option maxHeartbeats 4000000 in
set_option maxRecDepth 100000 in
theorem law_go {L : Nat} {xs : Nat → Int32} (hL : L ≤ 4096) : ∀ (n c : Nat) (G : GX) (F : FS) (σ : ST), c + n = 513 → 0 < n → INV G c F σ → wb_L_law_18 L xs n σ (some (G 6 0)) (some (G 6 1)) (nI (8 * c)) := by
  intro n
  induction n with
  | zero =>
    intro c G F σ h1 h2
    exact absurd h2 (by decide)
  | succ n ih =>
    intro c G F σ h1 _ hI
    have hc : c ≤ 513 := by omega
    unfold wb_L_law_18
    refine ⟨fun _ => trivial, fun z => ?_⟩
    have hi : 8 * c + 8 ≤ L := by
      rcases Nat.lt_or_ge L (8 * c + 8) with q | q
      · exact absurd ((nI_sub_lt (a := L) (b := 8) (t := 8 * c) (by omega) (by decide) (by omega)).mpr q) z
      · exact q
    have hn : 0 < n := by omega
    have bk : ∀ k, k < 8 → vp_in (nI (8 * c) + nI k) L := fun k hk => by
      rw [nI_add]
      exact vp_in_nI (by omega) (by omega)
    have b0 : vp_in (nI (8 * c)) L := vp_in_nI (by omega) (by omega)
    have b1 : vp_in (nI (8 * c) + 1) L := bk 1 (by decide)
    have b2 : vp_in (nI (8 * c) + 2) L := bk 2 (by decide)
    have b3 : vp_in (nI (8 * c) + 3) L := bk 3 (by decide)
    have b4 : vp_in (nI (8 * c) + 4) L := bk 4 (by decide)
    have b5 : vp_in (nI (8 * c) + 5) L := bk 5 (by decide)
    have b6 : vp_in (nI (8 * c) + 6) L := bk 6 (by decide)
    have b7 : vp_in (nI (8 * c) + 7) L := bk 7 (by decide)
    have e8 : nI (8 * c) + 8 = nI (8 * (c + 1)) := by
      show nI (8 * c) + nI 8 = nI (8 * (c + 1))
      rw [nI_add, show 8 * c + 8 = 8 * (c + 1) by omega]
    have NX : ∀ (G' : GX) (F' : FS) (σ2 : ST), INV G' (c + 1) F' σ2 → G' 6 = G 6 → ∀ x : Int32, x = nI (8 * c) + 8 → wb_L_law_18 L xs n σ2 (some (G 6 0)) (some (G 6 1)) x := fun G' F' σ2 hI' g6 x ex => by
      have k := ih (c + 1) G' F' σ2 (by omega) hn hI'
      rw [g6] at k
      rw [ex, e8]
      exact k
    have FIN : ∀ (G' : GX) (F' F2 : FS) (σ1 σ2 : ST), RX G' (c + 1) F' σ1 → GG G G' → F2 = F' → RMF σ1 σ2 (G 6 1) (G 5) F2 → ∀ x : Int32, x = nI (8 * c) + 8 → wb_L_law_18 L xs n σ2 (some (G 6 0)) (some (G 6 1)) x := fun G' F' F2 σ1 σ2 r g e rm x ex => NX G' F' σ2 (hI.next r g (by rw [← e]; exact rm)) g.2.2.1 x ex
    have RMX : ∀ σ1 : ST, FrX (G 0 9) σ σ1 → RM σ1 (G 6 1) (G 5) F := fun σ1 q => hI.2.2.1.frX hI.2.2.2 q
    have t0 : st_tg σ (G 6 0) = some 0 := hI.1.1.1.1
    refine ⟨b0, ?_⟩
    refine ⟨fun _ => ?_, fun _ => ?_⟩
    · refine ⟨b1, b2, b3, b4, b5, b6, b7, G 6 0, rfl, t0, ?_⟩
      exact (s_order hI.1 _ _ _ _ _).w _ (fun ans F' G' σ1 m r q g => ⟨G 6 1, rfl, (RMX σ1 q).1, fM_M_order (σ0 := σ1) (K' := fun r F2 => r = ans ∧ F2 = F') ⟨RMX σ1 q, FrM.rf⟩ (fun r2 F2 σ2 e2 rm2 => ⟨fun _ x ex => FIN G' F' F2 σ1 σ2 r g e2.2 rm2 x ex, fun z => absurd e2.1.symm z⟩) (m _ ⟨rfl, rfl⟩)⟩)
    refine ⟨fun _ => ?_, fun _ => ?_⟩
    · refine ⟨b1, b2, b3, b4, b5, b6, G 6 0, rfl, t0, ?_⟩
      exact (s_pay hI.1 _ _ _ _).w _ (fun ans F' G' σ1 m r q g => ⟨G 6 1, rfl, (RMX σ1 q).1, fM_M_pay (σ0 := σ1) (K' := fun r F2 => r = ans ∧ F2 = F') ⟨RMX σ1 q, FrM.rf⟩ (fun r2 F2 σ2 e2 rm2 => ⟨fun _ x ex => FIN G' F' F2 σ1 σ2 r g e2.2 rm2 x ex, fun z => absurd e2.1.symm z⟩) (m _ ⟨rfl, rfl⟩)⟩)
    refine ⟨fun _ => ?_, fun _ => ?_⟩
    · refine ⟨b1, b2, G 6 0, rfl, t0, ?_⟩
      exact (s_fails hI.1 _ _).w _ (fun ans F' G' σ1 m r q g => ⟨G 6 1, rfl, (RMX σ1 q).1, fM_M_fails (σ0 := σ1) (K' := fun r F2 => r = ans ∧ F2 = F') ⟨RMX σ1 q, FrM.rf⟩ (fun r2 F2 σ2 e2 rm2 => ⟨fun _ x ex => FIN G' F' F2 σ1 σ2 r g e2.2 rm2 x ex, fun z => absurd e2.1.symm z⟩) (m _ ⟨rfl, rfl⟩)⟩)
    refine ⟨fun _ => ?_, fun _ => ?_⟩
    · refine ⟨b1, b2, b3, b4, b5, b6, G 6 0, rfl, t0, ?_⟩
      exact (s_ask hc hI.2.1 hI.1 _ _ _ _).w _ (fun ans F' G' σ1 m r q g => ⟨G 6 1, rfl, (RMX σ1 q).1, fM_M_ask (σ0 := σ1) (K' := fun r F2 => r = ans ∧ F2 = F') ⟨RMX σ1 q, FrM.rf⟩ (fun r2 F2 σ2 e2 rm2 => ⟨fun _ x ex => FIN G' F' F2 σ1 σ2 r g e2.2 rm2 x ex, fun z => absurd e2.1.symm z⟩) (m _ ⟨rfl, rfl⟩)⟩)
    refine ⟨fun _ => ?_, fun _ => ?_⟩
    · refine ⟨b1, G 6 0, rfl, t0, ?_⟩
      exact s_serve hc hI.2.1 hI.1 _ _ (fun ans F' G' σ1 m r q g => ⟨G 6 1, rfl, (RMX σ1 q).1, fM_M_serve (σ0 := σ1) (K' := fun r F2 => r = ans ∧ F2 = F') ⟨RMX σ1 q, FrM.rf⟩ (fun r2 F2 σ2 e2 rm2 => ⟨fun _ x ex => FIN G' F' F2 σ1 σ2 r g e2.2 rm2 x ex, fun z => absurd e2.1.symm z⟩) (m _ ⟨rfl, rfl⟩)⟩)
    refine ⟨fun _ => ?_, fun _ => ?_⟩
    · refine ⟨b1, G 6 0, rfl, t0, ?_⟩
      exact (s_answer hc hI.1 _).w _ (fun ans F' G' σ1 m r q g => ⟨G 6 1, rfl, (RMX σ1 q).1, fM_M_answer (σ0 := σ1) (K' := fun r F2 => r = ans ∧ F2 = F') ⟨RMX σ1 q, FrM.rf⟩ (fun r2 F2 σ2 e2 rm2 => ⟨fun _ x ex => FIN G' F' F2 σ1 σ2 r g e2.2 rm2 x ex, fun z => absurd e2.1.symm z⟩) (m _ ⟨rfl, rfl⟩)⟩)
    refine ⟨fun _ => ?_, fun _ => ?_⟩
    · refine ⟨b1, b2, b3, b4, G 6 0, rfl, t0, ?_⟩
      exact (s_bar hI.1 _ _).w _ (fun ans F' G' σ1 m r q g => ⟨G 6 1, rfl, (RMX σ1 q).1, fM_M_bar (σ0 := σ1) (K' := fun r F2 => r = ans ∧ F2 = F') ⟨RMX σ1 q, FrM.rf⟩ (fun r2 F2 σ2 e2 rm2 => ⟨fun _ x ex => FIN G' F' F2 σ1 σ2 r g e2.2 rm2 x ex, fun z => absurd e2.1.symm z⟩) (m _ ⟨rfl, rfl⟩)⟩)
    refine ⟨fun _ => ?_, fun _ => ?_⟩
    · refine ⟨b1, b2, G 6 0, rfl, t0, ?_⟩
      exact (s_since hI.1 _).w _ (fun ans F' G' σ1 m r q g => ⟨G 6 1, rfl, (RMX σ1 q).1, fM_M_since (σ0 := σ1) (K' := fun r F2 => r = ans ∧ F2 = F') ⟨RMX σ1 q, FrM.rf⟩ (fun r2 F2 σ2 e2 rm2 => ⟨fun _ x ex => FIN G' F' F2 σ1 σ2 r g e2.2 rm2 x ex, fun z => absurd ((lg_cmp_eq _ _).mpr e2.1.symm) z⟩) (m _ ⟨rfl, rfl⟩)⟩)
    refine ⟨fun _ => ?_, fun _ => ?_⟩
    · refine ⟨b1, b2, G 6 0, rfl, t0, ?_⟩
      exact (s_replace hI.1 _).w _ (fun ans F' G' σ1 m r q g => ⟨G 6 1, rfl, (RMX σ1 q).1, fM_M_replace (σ0 := σ1) (K' := fun r F2 => r = ans ∧ F2 = F') ⟨RMX σ1 q, FrM.rf⟩ (fun r2 F2 σ2 e2 rm2 => ⟨fun _ x ex => FIN G' F' F2 σ1 σ2 r g e2.2 rm2 x ex, fun z => absurd e2.1.symm z⟩) (m _ ⟨rfl, rfl⟩)⟩)
    refine ⟨fun _ => ?_, fun _ => ?_⟩
    · refine ⟨b1, b2, ⟨fun zA => ⟨G 6 0, rfl, t0, ?_⟩, fun zA => ⟨G 6 0, rfl, t0, ?_⟩⟩⟩
      · exact (s_cut hI.1 _ 0 (Or.inl rfl)).w _ (fun ans F' G' σ1 m r q g => ⟨fun _ => ⟨G 6 1, rfl, (RMX σ1 q).1, fM_M_cut (σ0 := σ1) (K' := fun r F2 => r = ans ∧ F2 = F') ⟨RMX σ1 q, FrM.rf⟩ (fun r2 F2 σ2 e2 rm2 => ⟨fun _ x ex => FIN G' F' F2 σ1 σ2 r g e2.2 rm2 x ex, fun z => absurd e2.1.symm z⟩) (m _ ⟨rfl, rfl⟩)⟩, fun z => absurd zA z⟩)
      · exact (s_cut hI.1 _ 1 (Or.inr rfl)).w _ (fun ans F' G' σ1 m r q g => ⟨fun z => absurd z zA, fun _ => ⟨G 6 1, rfl, (RMX σ1 q).1, fM_M_cut (σ0 := σ1) (K' := fun r F2 => r = ans ∧ F2 = F') ⟨RMX σ1 q, FrM.rf⟩ (fun r2 F2 σ2 e2 rm2 => ⟨fun _ x ex => FIN G' F' F2 σ1 σ2 r g e2.2 rm2 x ex, fun z => absurd e2.1.symm z⟩) (m _ ⟨rfl, rfl⟩)⟩⟩)
    refine ⟨fun _ => ?_, fun _ => ?_⟩
    · refine ⟨b1, b2, b3, G 6 0, rfl, t0, ?_⟩
      exact (s_list hI.1 _ _).w _ (fun ans F' G' σ1 m r q g => ⟨G 6 1, rfl, (RMX σ1 q).1, fM_M_list (σ0 := σ1) (K' := fun r F2 => r = ans ∧ F2 = F') ⟨RMX σ1 q, FrM.rf⟩ (fun r2 F2 σ2 e2 rm2 => ⟨fun _ x ex => FIN G' F' F2 σ1 σ2 r g e2.2 rm2 x ex, fun z => absurd e2.1.symm z⟩) (m _ ⟨rfl, rfl⟩)⟩)
    refine ⟨fun _ => ?_, fun _ => ?_⟩
    · refine ⟨b1, b2, b3, b4, G 6 0, rfl, t0, ?_⟩
      exact (s_set hI.1 _ _ _).w _ (fun ans F' G' σ1 m r q g => ⟨G 6 1, rfl, (RMX σ1 q).1, fM_M_set (σ0 := σ1) (K' := fun r F2 => r = ans ∧ F2 = F') ⟨RMX σ1 q, FrM.rf⟩ (fun r2 F2 σ2 e2 rm2 => ⟨fun _ x ex => FIN G' F' F2 σ1 σ2 r g e2.2 rm2 x ex, fun z => absurd e2.1.symm z⟩) (m _ ⟨rfl, rfl⟩)⟩)
    refine ⟨fun _ => ?_, fun _ => ?_⟩
    · refine ⟨b1, b2, b3, b4, G 6 0, rfl, t0, ?_⟩
      exact (s_collect hI.1 _ _ _).w _ (fun ans F' G' σ1 m r q g => ⟨G 6 1, rfl, (RMX σ1 q).1, fM_M_collect (σ0 := σ1) (K' := fun r F2 => r = ans ∧ F2 = F') ⟨RMX σ1 q, FrM.rf⟩ (fun r2 F2 σ2 e2 rm2 => ⟨fun _ x ex => FIN G' F' F2 σ1 σ2 r g e2.2 rm2 x ex, fun z => absurd e2.1.symm z⟩) (m _ ⟨rfl, rfl⟩)⟩)
    refine ⟨fun _ => ?_, fun _ => ?_⟩
    · refine ⟨b1, G 6 0, rfl, t0, ?_⟩
      exact (s_pass hI.1 _).w _ (fun ans F' G' σ1 m r q g => ⟨G 6 1, rfl, (RMX σ1 q).1, fM_M_pass (σ0 := σ1) (K' := fun r F2 => r = ans ∧ F2 = F') ⟨RMX σ1 q, FrM.rf⟩ (fun r2 F2 σ2 e2 rm2 => ⟨fun _ x ex => FIN G' F' F2 σ1 σ2 r g e2.2 rm2 x ex, fun z => absurd e2.1.symm z⟩) (m _ ⟨rfl, rfl⟩)⟩)
    refine ⟨fun _ => ?_, fun _ => ?_⟩
    · refine ⟨b1, b2, G 6 0, rfl, t0, ?_⟩
      exact (s_tick hI.1 _).w _ (fun ans F' G' σ1 m r q g => ⟨G 6 1, rfl, (RMX σ1 q).1, fM_M_tick (σ0 := σ1) (K' := fun r F2 => r = ans ∧ F2 = F') ⟨RMX σ1 q, FrM.rf⟩ (fun r2 F2 σ2 e2 rm2 => ⟨fun _ x ex => FIN G' F' F2 σ1 σ2 r g e2.2 rm2 x ex, fun z => absurd e2.1.symm z⟩) (m _ ⟨rfl, rfl⟩)⟩)
    refine ⟨fun _ => ?_, fun _ => ?_⟩
    · refine ⟨b1, b2, b3, G 6 0, rfl, t0, ?_⟩
      exact (s_about hI.1 _ _).w _ (fun ans F' G' σ1 m r q g => ⟨G 6 1, rfl, (RMX σ1 q).1, fM_M_about (σ0 := σ1) (K' := fun r F2 => r = ans ∧ F2 = F') ⟨RMX σ1 q, FrM.rf⟩ (fun r2 F2 σ2 e2 rm2 => ⟨fun _ x ex => FIN G' F' F2 σ1 σ2 r g e2.2 rm2 x ex, fun z => absurd ((lg_cmp_eq _ _).mpr e2.1.symm) z⟩) (m _ ⟨rfl, rfl⟩)⟩)
    refine ⟨fun _ => ?_, fun _ => ?_⟩
    · refine ⟨b1, G 6 0, rfl, t0, ?_⟩
      exact (s_till hI.1 _).w _ (fun ans F' G' σ1 m r q g => ⟨G 6 1, rfl, (RMX σ1 q).1, fM_M_till (σ0 := σ1) (K' := fun r F2 => r = ans ∧ F2 = F') ⟨RMX σ1 q, FrM.rf⟩ (fun r2 F2 σ2 e2 rm2 => ⟨fun _ x ex => FIN G' F' F2 σ1 σ2 r g e2.2 rm2 x ex, fun z => absurd ((lg_cmp_eq _ _).mpr e2.1.symm) z⟩) (m _ ⟨rfl, rfl⟩)⟩)
    refine ⟨fun _ => ?_, fun _ => ?_⟩
    · refine ⟨b1, G 6 0, rfl, t0, ?_⟩
      exact (s_all hI.1 _).w _ (fun ans F' G' σ1 m r q g => ⟨G 6 1, rfl, (RMX σ1 q).1, fM_M_all (σ0 := σ1) (K' := fun r F2 => r = ans ∧ F2 = F') ⟨RMX σ1 q, FrM.rf⟩ (fun r2 F2 σ2 e2 rm2 => ⟨fun _ x ex => FIN G' F' F2 σ1 σ2 r g e2.2 rm2 x ex, fun z => absurd ((lg_cmp_eq _ _).mpr e2.1.symm) z⟩) (m _ ⟨rfl, rfl⟩)⟩)
    intro x ex
    exact NX G F σ ⟨hI.1.up, hI.2⟩ rfl x ex
theorem law_all {L : Nat} {xs : Nat → Int32} (hL : L ≤ 4096) (σ : ST) : wp_L L xs σ := by
  unfold wp_L
  intro q1 h1 σ2 e2
  rw [e2]
  refine x_init h1 (fun Z g u σ7 hH hO hC => ?_)
  intro q8 h8 σ9 e9
  rw [e9]
  refine m_init h8 (fun ma σ14 hA => ⟨513, Nat.le_refl _, ?_⟩)
  exact law_go hL 513 0 (mkG Z g u ma q1 q8) (fsOf σ14 q8 ma) σ14 rfl (by decide) (start_inv hH hO hC hA)
