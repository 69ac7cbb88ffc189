/-! serve -/
/-- where things lie while serve pays: the try is counted already -/
def g1 (G : GX) : GX := fun a b => if a = 7 then 1 else G a b
theorem gs1 (G : GX) : GS G (g1 G) := ⟨rfl, rfl, rfl, rfl, rfl⟩
theorem gs1' (G : GX) : GS (g1 G) G := ⟨rfl, rfl, rfl, rfl, rfl⟩
theorem RX.in1 {G : GX} {c : Nat} {F : FS} {σ : ST} (h : RX G c F σ) {a v : Nat} (hT : TRS G F c a v σ) : RX (g1 G) c F (st_sI σ 6 (G 6 0) (nI (v + 1))) := by
  obtain ⟨h1, h2, h3, h4, h5, h6, -, w, h8⟩ := h
  obtain ⟨e60, e5, e61, e6, hva, hav, hac, hTT, hTi⟩ := hT
  have k1 : SX G (st_sI σ 6 (G 6 0) (nI (v + 1))) := h1
  have k2 : OFF G F (st_sI σ 6 (G 6 0) (nI (v + 1))) := h2
  have k4 : CUR G F (st_sI σ 6 (G 6 0) (nI (v + 1))) := h4
  have k5 : TOT G F (st_sI σ 6 (G 6 0) (nI (v + 1))) := h5
  have k8 : COL G F w (st_sI σ 6 (G 6 0) (nI (v + 1))) := h8
  refine ⟨SX.G (gs1 G) k1, OFF.G (gs1 G) k2, h3, CUR.G (gs1 G) k4, TOT.G (gs1 G) k5, ODS.to h6 (gs1 G) rfl rfl rfl rfl (fun f hf => ?_) rfl rfl, ⟨a, v, e60, e5, e61, ?_, hva, hav, hac, fun t q1 q2 => ?_, hTi⟩, w, COL.G (gs1 G) k8⟩
  · funext x
    rw [g_I_sI, if_neg (fun z => absurd z.1 (by omega))]
  · show st_I (st_sI σ 6 (G 6 0) (nI (v + 1))) 6 (G 6 0) = nI (v + 1)
    rw [g_I_sI, if_pos ⟨rfl, rfl⟩]
  · obtain ⟨x1, x2, x3, x4, x5, x6, x7⟩ := hTT t q1 q2
    exact ⟨x1, x2, x3, x4, x5, x6, x7⟩
theorem RX.out1 {G : GX} {c : Nat} {F : FS} {σ : ST} (h : RX (g1 G) c F σ) (hc : c ≤ 513) (p7 : G 7 0 = 0) {a v : Nat} (n60 : fN F 60 = nI a) (n61 : fN F 61 = nI v) (ha : a ≤ 513) (hva : v < a) (r : Int32) : st_tg σ (G 4 v) = some 6 ∧ RX G c (fsN (fsI F 66 (v % 128) r) 61 (nI (v + 1))) (st_sI σ 244 (G 4 v) r) := by
  obtain ⟨h1, h2, h3, h4, h5, h6, ⟨a', v', hT⟩, w, h8⟩ := h
  obtain ⟨e60, e5, e61, e6, hva', hav, hac, hTT, hTi⟩ := hT
  have ea : a' = a := (nI_eq (by omega) (by omega)).mp (e60.symm.trans n60)
  have ev : v' = v := (nI_eq (by omega) (by omega)).mp (e61.symm.trans n61)
  subst ea
  subst ev
  have k1 : SX (g1 G) (st_sI σ 244 (G 4 v') r) := h1
  have k2 : OFF (g1 G) (fsN (fsI F 66 (v' % 128) r) 61 (nI (v' + 1))) (st_sI σ 244 (G 4 v') r) := h2
  have k3 : OFR (fsN (fsI F 66 (v' % 128) r) 61 (nI (v' + 1))) := h3
  have k4 : CUR (g1 G) (fsN (fsI F 66 (v' % 128) r) 61 (nI (v' + 1))) (st_sI σ 244 (G 4 v') r) := h4
  have k5 : TOT (g1 G) (fsN (fsI F 66 (v' % 128) r) 61 (nI (v' + 1))) (st_sI σ 244 (G 4 v') r) := h5
  have k8 : COL (g1 G) (fsN (fsI F 66 (v' % 128) r) 61 (nI (v' + 1))) w (st_sI σ 244 (G 4 v') r) := h8
  have k6 : ODS (g1 G) (fsN (fsI F 66 (v' % 128) r) 61 (nI (v' + 1))) (st_sI σ 244 (G 4 v') r) := ODS.keep h6 (fun _ q => q) (fun _ q => q) rfl rfl rfl rfl rfl rfl rfl rfl
  refine ⟨(hTT v' hva (by omega)).2.1, SX.G (gs1' G) k1, OFF.G (gs1' G) k2, k3, CUR.G (gs1' G) k4, TOT.G (gs1' G) k5, ODS.to k6 (gs1' G) rfl rfl rfl rfl (fun _ _ => rfl) rfl rfl, ⟨a', v' + 1, e60, e5, ?_, ?_, hva, by omega, hac, fun t q1 q2 => ?_, hTi⟩, w, COL.G (gs1' G) k8⟩
  · rw [n_sN, if_pos rfl]
  · rw [p7, Nat.add_zero]
    exact e6
  · obtain ⟨x1, x2, x3, x4, x5, x6, x7⟩ := hTT t q1 q2
    refine ⟨x1, x2, x3, x4, x5, x6, ?_⟩
    by_cases e : t = v'
    · subst e
      rw [g_I_sI, if_pos ⟨rfl, rfl⟩, if_pos (Nat.lt_succ_self t), i_sN, i_sI, if_pos ⟨rfl, rfl⟩]
    · have hne : ¬ G 4 t = G 4 v' := fun q => e (hTi t v' q1 hva q2 (by omega) q)
      have hm : ¬ (66 = 66 ∧ t % 128 = v' % 128) := fun z => absurd z.2 (by omega)
      have x7' : st_I σ 244 (G 4 t) = (if t < v' then fI F 66 (t % 128) else -1) := x7
      rw [g_I_sI, if_neg (fun z => hne z.2), x7', i_sN, i_sI, if_neg hm]
      by_cases q : t < v'
      · rw [if_pos q, if_pos (by omega)]
      · rw [if_neg q, if_neg (by omega)]
theorem x_serveLoop {G : GX} {c : Nat} (hc : c ≤ 513) (p7 : G 7 0 = 0) {P a : Nat} (hP : P < 2 ^ 31) (ha : a ≤ 513) : ∀ (r j v : Nat) (F : FS) (σ : ST), RX G c F σ → fN F 60 = nI a → fN F 61 = nI v → j + r ≤ P → v + r ≤ a → (P ≤ j + r ∨ a ≤ v + r) → ∀ K : Int32 → ST → Prop, (∀ (F' : FS) (σ1 : ST), (∀ K' : Int32 → FS → Prop, K' (nI (j + r)) F' → wfb_M_serve_9 K' (r + 1) F (nI P) (nI j)) → RX G c F' σ1 → FrX (G 0 9) σ σ1 → K (nI (j + r)) σ1) → wb_X_serve_23 (G 6 0) K (r + 1) σ (nI (j + r)) (nI j) := by
  intro r
  induction r with
  | zero =>
    intro j v F σ h n60 n61 hj hv hor K hK
    unfold wb_X_serve_23
    refine ⟨fun _ => hK F σ (fun K' q => ?_) h FrX.rf, fun z => absurd (nI_le (Nat.le_refl _) (by omega)) z⟩
    unfold wfb_M_serve_9
    rw [n60, n61]
    refine ⟨fun _ => q, fun z => ⟨fun _ => q, fun y => ?_⟩⟩
    rcases hor with e | e
    · exact absurd (nI_le (a := P) (b := j) (by omega) (by omega)) z
    · exact absurd (nI_le (a := a) (b := v) (by omega) (by omega)) y
  | succ r ih =>
    intro j v F σ h n60 n61 hj hv hor K hK
    obtain ⟨a', v', hT⟩ := h.2.2.2.2.2.2.1
    obtain ⟨e60, e5, e61, e6, hva, hav, hac, hTT, hTi⟩ := id hT
    have ea : a' = a := (nI_eq (by omega) (by omega)).mp (e60.symm.trans n60)
    have ev : v' = v := (nI_eq (by omega) (by omega)).mp (e61.symm.trans n61)
    subst ea
    subst ev
    rw [p7, Nat.add_zero] at e6
    obtain ⟨x1, x2, x3, x4, x5, x6, -⟩ := hTT v' (by omega) (by omega)
    have r128 : nI v' - nI v' / 128 * 128 = nI (v' % 128) := pk_rem (a := v') (d := 128) (by omega) (by decide) (by decide)
    have hi128 : vp_in (nI (v' % 128)) 128 := vp_in_nI (Nat.mod_lt _ (by decide)) (by decide)
    have c128 : (nI (v' % 128)).toNatClampNeg = v' % 128 := nI_clamp (by omega)
    have ej : j + (r + 1) = j + 1 + r := by omega
    rw [ej] at hK ⊢
    unfold wb_X_serve_23
    rw [e6]
    refine ⟨fun z => absurd ((nI_leI (a := j + 1 + r) (b := j) (by omega) (by omega)).mp z) (by omega), fun _ => ⟨h.1.1.1, x_place (by omega) ⟨G 0 4, h.1.1.2.2.2.2.1, h.1.2.1.2.2.2.1.1, ?_, h.1.1.1, fun σ11 e11 => ?_⟩⟩⟩
    · rw [h.1.2.1.2.2.2.1.2]
      exact vp_in_nI (Nat.mod_lt _ (by decide)) (by decide)
    rw [e6, nI_1] at e11
    rw [nI_clamp (by omega), x1]
    refine ⟨fun z => (by cases z), fun _ => ⟨G 4 v', rfl, by rw [e11]; exact x2, ?_⟩⟩
    have r11 : RX (g1 G) c F σ11 := by rw [e11]; exact h.in1 hT
    have q11 : FrX (G 0 9) σ σ11 := by rw [e11]; exact FrX.sI (by decide)
    have y3 : st_I σ11 240 (G 4 v') = fI F 62 (v' % 128) := by rw [e11]; exact x3
    have y4 : st_J σ11 241 (G 4 v') = fJ F 63 (v' % 128) := by rw [e11]; exact x4
    have y5 : st_I σ11 242 (G 4 v') = fI F 64 (v' % 128) := by rw [e11]; exact x5
    have y6 : st_J σ11 243 (G 4 v') = fJ F 65 (v' % 128) := by rw [e11]; exact x6
    rw [y3, y4, y5, y6]
    obtain ⟨ans, F', n', hM, hX⟩ := p_pay r11 (fI F 62 (v' % 128)) (fJ F 63 (v' % 128)) (fI F 64 (v' % 128)) (fJ F 65 (v' % 128))
    refine hX _ (fun σ22 r22 q22 => ?_)
    have q22' : FrX (G 0 9) σ11 σ22 := q22
    obtain ⟨o1, o2⟩ := r22.out1 hc p7 (by rw [n']; exact n60) (by rw [n']; exact n61) ha (by omega) ans
    refine ⟨o1, fun σ24 e24 x ex => ?_⟩
    rw [ex, nI_1]
    refine ih (j + 1) (v' + 1) (fsN (fsI F' 66 (v' % 128) ans) 61 (nI (v' + 1))) σ24 (by rw [e24]; exact o2) ?_ ?_ (by omega) (by omega) (by omega) K (fun F3 σ3 m3 r3 q3 => hK F3 σ3 (fun K' q => ?_) r3 ((q11.tr q22').tr ((show FrX (G 0 9) σ22 σ24 by rw [e24]; exact FrX.sI (by decide)).tr q3)))
    · show fN F' 60 = nI a'
      rw [n']
      exact n60
    · rw [n_sN, if_pos rfl]
    · unfold wfb_M_serve_9
      rw [n60, n61, r128]
      refine ⟨fun z => absurd ((nI_leI (a := P) (b := j) (by omega) (by omega)).mp z) (by omega), fun _ => ⟨fun z => absurd ((nI_leI (a := a') (b := v') (by omega) (by omega)).mp z) (by omega), fun _ x5' ex5 => ?_⟩⟩
      rw [ex5, c128]
      refine ⟨hi128, hi128, hi128, hi128, hM _ ⟨hi128, fun F2 e2 F4 e4 x37 ex37 => ?_⟩⟩
      have e5' : F4 = fsN (fsI F' 66 (v' % 128) ans) 61 (nI (v' + 1)) := by
        have g2 : fN F2 61 + 1 = nI (v' + 1) := by
          rw [e2, n_sI, n', n61, nI_1]
        rw [e4, g2, e2]
      rw [e5', ex37, nI_1]
      exact m3 K' q
/-- as SimR, the answer and what the reference holds found on the way -/
def SimW {α : Type} (G : GX) (c : Nat) (F : FS) (σ : ST) (X : (α → ST → Prop) → Prop) (M : (α → FS → Prop) → Prop) : Prop :=
  ∀ K : α → ST → Prop, (∀ (ans : α) (F' : FS) (G' : GX) (σ1 : ST), (∀ K' : α → FS → Prop, K' ans F' → M K') → RX G' (c + 1) F' σ1 → FrX (G 0 9) σ σ1 → GG G G' → K ans σ1) → X K
theorem SimR.w {α : Type} {G : GX} {c : Nat} {F : FS} {σ : ST} {X : (α → ST → Prop) → Prop} {M : (α → FS → Prop) → Prop} (h : SimR G c F σ X M) : SimW G c F σ X M := by
  obtain ⟨ans, F', hM, hX⟩ := h
  exact fun K hK => hX K (fun G' σ1 r q g => hK ans F' G' σ1 hM r q g)
theorem s_serve {G : GX} {c : Nat} {F : FS} {σ : ST} (hc : c ≤ 513) (p7 : G 7 0 = 0) (h : RX G c F σ) (p : Int32) : SimW G c F σ (fun K => wp_X_serve σ (G 6 0) p K) (fun K => wf_M_serve F p K) := by
  intro K hK
  obtain ⟨a, v, hT⟩ := h.2.2.2.2.2.2.1
  obtain ⟨e60, e5, e61, e6, hva, hav, hac, hTT, hTi⟩ := id hT
  rw [p7, Nat.add_zero] at e6
  by_cases hp : 0 ≤ p
  · obtain ⟨P, hP, rfl⟩ := nI_of (Int32.not_lt.mpr hp)
    show wp_X_serve σ (G 6 0) (nI P) K
    unfold wp_X_serve
    refine ⟨fun _ => ⟨h.1.1.1, fun x3 ex3 => ?_⟩, fun z => absurd hp z⟩
    rw [e5, e6, pk_sub hva] at ex3
    obtain ⟨r, er, h1, h2, h3⟩ : ∃ r, x3 = nI r ∧ r ≤ P ∧ v + r ≤ a ∧ (P ≤ r ∨ a ≤ v + r) := by
      by_cases z : nI (a - v) < nI P
      · rw [if_pos z] at ex3
        exact ⟨a - v, ex3, by have := (nI_ltI (by omega) hP).mp z; omega, by omega, Or.inr (by omega)⟩
      · rw [if_neg z] at ex3
        refine ⟨P, ex3, Nat.le_refl _, ?_, Or.inl (Nat.le_refl _)⟩
        rcases Nat.lt_or_ge (a - v) P with q | q
        · exact absurd (nI_lt q hP) z
        · omega
    have key := x_serveLoop hc p7 hP (a := a) (by omega) r 0 v F σ h e60 e61 (by omega) h2 (by omega) K
    rw [Nat.zero_add] at key
    rw [er]
    refine ⟨r + 1, key (fun F' σ1 m1 r1 q1 => hK (nI r) F' G σ1 (fun K' q => ?_) r1.up q1 GG.rf)⟩
    show wf_M_serve F (nI P) K'
    unfold wf_M_serve
    exact ⟨fun _ => ⟨r + 1, m1 K' q⟩, fun z => absurd hp z⟩
  · show wp_X_serve σ (G 6 0) p K
    unfold wp_X_serve
    refine ⟨fun z => absurd z hp, fun _ => hK (-102) F G σ (fun K' q => ?_) h.up FrX.rf GG.rf⟩
    show wf_M_serve F p K'
    unfold wf_M_serve
    exact ⟨fun z => absurd z hp, fun _ => q⟩
