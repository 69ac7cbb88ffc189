/-! pay: all steps, and the call -/
theorem l0_ex {G : GX} {c : Nat} {F : FS} {σ : ST} (h : RX G c F σ) {n i k : Nat} (hn : n ≤ 300) (hF0 : fN F 40 = nI n) (hi : i < n) (hk : k < 8) (hp : ¬ fI F 41 (i + 1) = 1) (d : Int64) : ∃ L, L < 300 ∧ l0F F k d = nI L := by
  obtain ⟨-, -, -, hC⟩ := h.ods hn hF0
  obtain ⟨ch, -, c2, -, -, c5⟩ := hC k hk
  have e1 := cntP_inc hp n
  rw [if_pos hi] at e1
  have e2 := cntP_le (fsI F 41 (i + 1) 1) n
  unfold l0F
  by_cases z : fJ F 56 k = d
  · rw [if_pos z]
    exact ⟨ch.length, by omega, c2⟩
  · rw [if_neg z]
    exact ⟨0, by decide, rfl⟩
theorem cB_congr {F F' : FS} {k : Nat} {p : Int32} (e : fI F' 59 = fI F 59) : ∀ m, cB F' k p m = cB F k p m
  | 0 => rfl
  | m + 1 => by
    show cB F' k p m + (if fI F' 59 (300 * k + m) = p then 1 else 0) = cB F k p m + (if fI F 59 (300 * k + m) = p then 1 else 0)
    rw [cB_congr e m, e]
theorem t_5 {σ : ST} {h0 : Nat} (ht : st_tg σ h0 = some 0) {v1 v2 : Option Nat} {pr : Int32} {d : Int64} {K : Int32 → ST → Prop} (hw : wp_X_writePaid σ h0 v1 v2 d (fun σ3 => K 1 σ3)) : wp_X_takeStep σ h0 (nI 5) v1 v2 pr d K := by
  unfold wp_X_takeStep
  rw [show nI 5 = 5 from rfl]
  exact ⟨fun z => absurd z (by decide), fun _ => ⟨fun z => absurd z (by decide), fun _ => ⟨fun z => absurd z (by decide), fun _ => ⟨fun z => absurd z (by decide), fun _ => ⟨ht, hw⟩⟩⟩⟩⟩
theorem clr_hF (F : FS) (k s : Nat) : hF (clrF F k s) = clrF (hF F) k s := by
  unfold clrF hF
  rw [fsJ_I, j_sI, i_sJ]
theorem clr_cF (F : FS) (k i s : Nat) : cF (clrF F k s) k i = clrF (cF F k i) k s := by
  have s1 : sumF (clrF F k s) (i + 1) = sumF F (i + 1) := rfl
  have s2 : fJ (clrF F k s) 52 k = fJ F 52 k := rfl
  have s3 : fI (cF F k i) 55 k = fI F 55 k := rfl
  have e1 : cF (clrF F k s) k i = fsJ (clrF F k s) 52 k (fJ (clrF F k s) 52 k - sumF (clrF F k s) (i + 1)) := rfl
  have e2 : clrF (cF F k i) k s = fsI (cF F k i) 55 k (fI (cF F k i) 55 k - ((1 : Int32) <<< (nI s &&& 31))) := rfl
  rw [e1, e2, s1, s2, s3]
  unfold clrF cF
  rw [fsJ_I]
theorem x_go {G : GX} {c : Nat} {F : FS} {σ : ST} (h : RX G c F σ) {n i k : Nat} (hn : n ≤ 300) (hF0 : fN F 40 = nI n) (hi : i < n) (hk : k < 8) (hp : ¬ fI F 41 (i + 1) = 1) {pr : Int32} {d : Int64} {L : Nat} (hL : L < 300) (eL : l0F F k d = nI L) {K : Int32 → ST → Prop} (hK : ∀ σ', RX G c (payR F k i pr d).2 σ' → FrX (G 0 9) σ σ' → K (payR F k i pr d).1 σ') : wp_X_goThroughSteps σ (G 6 0) (some (G 1 k)) (some (G 3 i)) pr d K := by
  have EX8 : ∀ s s0, s0 < 5 → payR F k i pr d = (-108, f6 (clrF F k s)) → ∀ Y, dnF (clrF F k s) k i s0 = Y → ∀ σ1, RX G c Y σ1 → FrX (G 0 9) σ σ1 → wb_X_goThroughSteps_64 (G 6 0) K σ1 (some (G 1 k)) (some (G 3 i)) (-108) (nI s0) := fun s s0 hs0 e Y eY σ1 r q => by
    rw [e] at hK
    rw [← eY] at r
    exact x_exit (F := clrF F k s) hn hF0 hi hk hs0 r (by decide) (fun _ σ' a b => hK σ' a (q.tr b)) (fun z => absurd rfl z)
  have EXV : ∀ (v : Int32) s0, s0 < 5 → ¬ v = 1 → ¬ v = -108 → payR F k i pr d = (v, F) → ∀ σ1, RX G c (dnF F k i s0) σ1 → FrX (G 0 9) σ σ1 → wb_X_goThroughSteps_64 (G 6 0) K σ1 (some (G 1 k)) (some (G 3 i)) v (nI s0) := fun v s0 hs0 hv hv8 e σ1 r q => by
    rw [e] at hK
    exact x_exit (F := F) hn hF0 hi hk hs0 r hv (fun z => absurd z hv8) (fun _ σ' a b => hK σ' a (q.tr b))
  have S5 : ∀ σ1, RX G c (cF (hF F) k i) σ1 → FrX (G 0 9) σ σ1 → (told F k 5 → payR F k i pr d = (-108, f6 (clrF F k 5))) → (¬ told F k 5 → payR F k i pr d = (1, paidF F k i d)) → wb_X_goThroughSteps_9 (G 6 0) K (1 + 2) σ1 (some (G 1 k)) (some (G 3 i)) pr d 1 (nI 4) (nI 5) := fun σ1 r1 q1 p8 p1 => by
    refine x_step r1 hk (s := 5) (s0 := 4) (m := 1) (by decide) (fun z σ2 r2 q2 => EX8 5 4 (by decide) (p8 z) _ (show cF (hF (clrF F k 5)) k i = clrF (cF (hF F) k i) k 5 by rw [clr_hF, clr_cF]) σ2 r2 (q1.tr q2)) (fun z σ2 r2 q2 K2 k1 _ => t_5 r2.1.1.1 ?_)
    have e9 := p1 z
    rw [e9] at hK
    have hL' : (l0F (cF (hF F) k i) k d).toNatClampNeg = L := by
      show (l0F F k d).toNatClampNeg = L
      rw [eL]
      exact nI_clamp (by omega)
    have ecl : (l0F F k d).toNatClampNeg = L := hL'
    have e59 : fI (wmF F k i d) 59 = fI (kn1 (cF (hF F) k i) k i d) 59 := by rw [← pay_eq, i_sJ]
    have ecB := cB_congr (k := k) (p := fI F 45 (i + 1)) e59 (L + 1)
    unfold paidF at hK
    rw [ecl, ecB] at hK
    refine x_writePaid (F := cF (hF F) k i) r2 hn hF0 hi hk hp hL' hL (fun y σ3 r3 q3 => k1 σ3 (x_fin r3 (fun σ4 r4 q4 => ?_))) (fun y σ3 r3 q3 => k1 σ3 (x_fin r3 (fun σ4 r4 q4 => ?_)))
    · rw [pay_eq] at r4
      have y2 : cB (kn1 (cF (hF F) k i) k i d) k (fI F 45 (i + 1)) (L + 1) < 3 := y
      rw [if_pos y2] at hK
      exact hK σ4 r4 (((q1.tr q2).tr q3).tr q4)
    · have e : fsJ (fsJ (kn1 (cF (hF F) k i) k i d) 71 7 (fJ (cF (hF F) k i) 71 7 + 1)) 71 8 (fJ (fsJ (kn1 (cF (hF F) k i) k i d) 71 7 (fJ (cF (hF F) k i) 71 7 + 1)) 71 8 - 1) = fsJ (wmF F k i d) 71 7 (fJ F 71 7 + 1) := by
        have a7 : fJ (cF (hF F) k i) 71 7 = fJ F 71 7 := rfl
        rw [a7, j_sJ, if_neg (by decide), fsJ_com (j := 71) (i := 7) (j' := 71) (i' := 8) (by decide), pay_eq]
      rw [e] at r4
      have y2 : ¬ cB (kn1 (cF (hF F) k i) k i d) k (fI F 45 (i + 1)) (L + 1) < 3 := y
      rw [if_neg y2] at hK
      exact hK σ4 r4 (((q1.tr q2).tr q3).tr q4)
  have S4 : ∀ σ1, RX G c (hF F) σ1 → FrX (G 0 9) σ σ1 → (told F k 4 → payR F k i pr d = (-108, f6 (clrF F k 4))) → (¬ told F k 4 → fJ F 52 k < sumF F (i + 1) → payR F k i pr d = (-107, F)) → (¬ told F k 4 → ¬ fJ F 52 k < sumF F (i + 1) → told F k 5 → payR F k i pr d = (-108, f6 (clrF F k 5))) → (¬ told F k 4 → ¬ fJ F 52 k < sumF F (i + 1) → ¬ told F k 5 → payR F k i pr d = (1, paidF F k i d)) → wb_X_goThroughSteps_9 (G 6 0) K (2 + 2) σ1 (some (G 1 k)) (some (G 3 i)) pr d 1 (nI 3) (nI 4) := fun σ1 r1 q1 p4 p7 p8 p1 => by
    refine x_step r1 hk (s := 4) (s0 := 3) (m := 2) (by decide) (fun z σ2 r2 q2 => EX8 4 3 (by decide) (p4 z) _ (clr_hF F k 4) σ2 r2 (q1.tr q2)) (fun z σ2 r2 q2 K2 k1 k0 => ?_)
    obtain ⟨-, hO, -, -⟩ := r2.ods (n := n) hn hF0
    exact t_4 r2 hk (hO.1 i hi) (fun y σ3 r3 q3 => k1 σ3 (S5 σ3 r3 ((q1.tr q2).tr q3) (p8 z y) (p1 z y))) (fun y => k0 _ σ2 (by decide) (EXV _ 3 (by decide) (by decide) (by decide) (p7 z y) σ2 r2 (q1.tr q2)))
  have S3 : ∀ σ1, RX G c (hF F) σ1 → FrX (G 0 9) σ σ1 → (told F k 3 → payR F k i pr d = (-108, f6 (clrF F k 3))) → (¬ told F k 3 → ¬ limP F k i d → payR F k i pr d = (-106, F)) → (¬ told F k 3 → limP F k i d → told F k 4 → payR F k i pr d = (-108, f6 (clrF F k 4))) → (¬ told F k 3 → limP F k i d → ¬ told F k 4 → fJ F 52 k < sumF F (i + 1) → payR F k i pr d = (-107, F)) → (¬ told F k 3 → limP F k i d → ¬ told F k 4 → ¬ fJ F 52 k < sumF F (i + 1) → told F k 5 → payR F k i pr d = (-108, f6 (clrF F k 5))) → (¬ told F k 3 → limP F k i d → ¬ told F k 4 → ¬ fJ F 52 k < sumF F (i + 1) → ¬ told F k 5 → payR F k i pr d = (1, paidF F k i d)) → wb_X_goThroughSteps_9 (G 6 0) K (3 + 2) σ1 (some (G 1 k)) (some (G 3 i)) pr d 1 (nI 2) (nI 3) := fun σ1 r1 q1 p3 p6 p4 p7 p8 p1 => by
    refine x_step r1 hk (s := 3) (s0 := 2) (m := 3) (by decide) (fun z σ2 r2 q2 => EX8 3 2 (by decide) (p3 z) _ (clr_hF F k 3) σ2 r2 (q1.tr q2)) (fun z σ2 r2 q2 K2 k1 k0 => ?_)
    obtain ⟨-, hO, -, -⟩ := r2.ods (n := n) hn hF0
    exact t_3 r2 hk (hO.1 i hi) (fun y => k1 σ2 (S4 σ2 r2 (q1.tr q2) (p4 z y) (p7 z y) (p8 z y) (p1 z y))) (fun y => k0 _ σ2 (by decide) (EXV _ 2 (by decide) (by decide) (by decide) (p6 z y) σ2 r2 (q1.tr q2)))
  unfold wp_X_goThroughSteps
  refine ⟨5 + 2, x_step h hk (s := 1) (s0 := 0) (m := 5) (by decide) (fun z σ1 r1 q1 => EX8 1 0 (by decide) (by unfold payR; rw [if_pos z]) _ rfl σ1 r1 q1) (fun z1 σ1 r1 q1 K2 k1 _ => t_1 r1 (fun σ2 r2 q2 => k1 σ2 ?_))⟩
  refine x_step r2 hk (s := 2) (s0 := 1) (m := 4) (by decide) (fun z σ3 r3 q3 => EX8 2 1 (by decide) (by unfold payR; rw [if_neg z1, if_pos (show told F k 2 from z)]) _ (clr_hF F k 2) σ3 r3 ((q1.tr q2).tr q3)) (fun z2 σ3 r3 q3 K3 k3 k0 => ?_)
  have z2 : ¬ told F k 2 := z2
  obtain ⟨-, hO, -, -⟩ := r3.ods (n := n) hn hF0
  refine t_2 (hO.1 i hi) (fun ep => k3 σ3 ?_) (fun ep => k0 _ σ3 (by decide) (EXV _ 1 (by decide) (by decide) (by decide) (by unfold payR; rw [if_neg z1, if_neg z2, if_pos (show ¬ pr = fI F 45 (i + 1) from ep)]) σ3 r3 ((q1.tr q2).tr q3)))
  have ep : ¬ ¬ pr = fI F 45 (i + 1) := fun u => u ep
  refine S3 σ3 r3 ((q1.tr q2).tr q3) (fun a => ?_) (fun a b => ?_) (fun a b e => ?_) (fun a b e f => ?_) (fun a b e f g => ?_) (fun a b e f g => ?_)
  · unfold payR; rw [if_neg z1, if_neg z2, if_neg ep, if_pos a]
  · unfold payR; rw [if_neg z1, if_neg z2, if_neg ep, if_neg a, if_pos b]
  · unfold payR; rw [if_neg z1, if_neg z2, if_neg ep, if_neg a, if_neg (fun u => u b), if_pos e]
  · unfold payR; rw [if_neg z1, if_neg z2, if_neg ep, if_neg a, if_neg (fun u => u b), if_neg e, if_pos f]
  · unfold payR; rw [if_neg z1, if_neg z2, if_neg ep, if_neg a, if_neg (fun u => u b), if_neg e, if_neg f, if_pos g]
  · unfold payR; rw [if_neg z1, if_neg z2, if_neg ep, if_neg a, if_neg (fun u => u b), if_neg e, if_neg f, if_neg g]
theorem ite_N {p : Prop} [Decidable p] {a b : Int32 × FS} {x : Nat → Int32} (ha : fN a.2 = x) (hb : fN b.2 = x) : fN (if p then a else b).2 = x := by
  by_cases z : p
  · rw [if_pos z]; exact ha
  · rw [if_neg z]; exact hb
theorem paidF_N (F : FS) (k i : Nat) (d : Int64) : fN (paidF F k i d) = fN F := by
  unfold paidF
  by_cases z : cB (wmF F k i d) k (fI F 45 (i + 1)) ((l0F F k d).toNatClampNeg + 1) < 3
  · rw [if_pos z]; rfl
  · rw [if_neg z]; rfl
theorem payR_N (F : FS) (k i : Nat) (pr : Int32) (d : Int64) : fN (payR F k i pr d).2 = fN F := by
  unfold payR
  exact ite_N rfl (ite_N rfl (ite_N rfl (ite_N rfl (ite_N rfl (ite_N rfl (ite_N rfl (ite_N rfl (paidF_N F k i d))))))))
/-- as SimR, with c and G as they are -/
def SimP {α : Type} (G : GX) (c : Nat) (F : FS) (σ : ST) (X : (α → ST → Prop) → Prop) (M : (α → FS → Prop) → Prop) : Prop :=
  ∃ (ans : α) (F' : FS), fN F' = fN F ∧ (∀ K' : α → FS → Prop, K' ans F' → M K') ∧ ∀ K : α → ST → Prop, (∀ σ1 : ST, RX G c F' σ1 → FrX (G 0 9) σ σ1 → K ans σ1) → X K
theorem SimP.up {α : Type} {G : GX} {c : Nat} {F : FS} {σ : ST} {X : (α → ST → Prop) → Prop} {M : (α → FS → Prop) → Prop} (h : SimP G c F σ X M) : SimR G c F σ X M := by
  obtain ⟨ans, F', -, hM, hX⟩ := h
  exact ⟨ans, F', hM, fun K hK => hX K (fun σ' r q => hK G σ' r.up q GG.rf)⟩
theorem simP_same {α : Type} {G : GX} {c : Nat} {F : FS} {σ : ST} {X : (α → ST → Prop) → Prop} {M : (α → FS → Prop) → Prop} (h : RX G c F σ) (ans : α) (hM : ∀ K' : α → FS → Prop, K' ans F → M K') (hX : ∀ K : α → ST → Prop, K ans σ → X K) : SimP G c F σ X M := ⟨ans, F, rfl, hM, fun K hK => hX K (hK σ h FrX.rf)⟩
theorem p_pay {G : GX} {c : Nat} {F : FS} {σ : ST} (h : RX G c F σ) (p : Int32) (nu : Int64) (pr : Int32) (t : Int64) : SimP G c F σ (fun K => wp_X_pay σ (G 6 0) p nu pr t K) (fun K => wf_M_pay F p nu pr t K) := by
  obtain ⟨n, hN, hO, -, -⟩ := h.2.2.2.2.2.1
  have hn := hN.1
  rcases num_or n nu with ⟨i, hi, rfl⟩ | hnu
  · have hne : ¬ nI (i + 1) = 0 := nI_ne0 (by omega) (by omega)
    rcases off_or p with ⟨k, hk, rfl⟩ | hp
    · by_cases ht : 0 ≤ t
      · by_cases hok : okP F k i t
        · have hp1 : ¬ fI F 41 (i + 1) = 1 := by rw [hok.1]; decide
          obtain ⟨L, hL, eL⟩ := l0_ex h hn hN.2.1 hi hk hp1 (t / 86400)
          exact ⟨(payR F k i pr (t / 86400)).1, (payR F k i pr (t / 86400)).2, payR_N F k i pr (t / 86400), fun K' q => m_payTop hn hN.2.1 hi hk ht (fun _ => m_go h.2.2.1 hn hi hk (hO.1 i hi) hL eL q) (fun z => absurd hok z), fun K q => x_payTop h hn hN.2.1 hi hk ht (fun _ => x_go h hn hN.2.1 hi hk hp1 hL eL q) (fun z => absurd hok z)⟩
        · exact simP_same h (-103) (fun K' q => m_payTop hn hN.2.1 hi hk ht (fun z => absurd z hok) (fun _ => q)) (fun K q => x_payTop h hn hN.2.1 hi hk ht (fun z => absurd z hok) (fun _ => q))
      · refine simP_same h (-102) (fun K' q => ?_) (fun K q => ?_)
        · unfold wf_M_pay
          exact mf_in hn hN.2.1 hi ⟨fun _ => mo_in hk ⟨fun z => absurd z (by decide), fun _ => ⟨fun z => absurd ((lg_cmp_ge t 0).mp z) ht, fun _ => q⟩⟩, fun z => absurd z hne⟩
        · unfold wp_X_pay
          exact ⟨h.1.1.1, xf_in h.1 hN hO hi ⟨fun _ => ⟨h.1.1.1, xo_in h.1 hk ⟨fun z => (by cases z), fun _ => ⟨fun z => absurd ((lg_cmp_ge t 0).mp z) ht, fun _ => q⟩⟩⟩, fun z => (by cases z)⟩⟩
    · refine simP_same h (-102) (fun K' q => ?_) (fun K q => ?_)
      · unfold wf_M_pay
        exact mf_in hn hN.2.1 hi ⟨fun _ => mo_out hp ⟨fun _ => q, fun z => absurd rfl z⟩, fun z => absurd z hne⟩
      · unfold wp_X_pay
        exact ⟨h.1.1.1, xf_in h.1 hN hO hi ⟨fun _ => ⟨h.1.1.1, xo_out h.1 hp ⟨fun _ => q, fun z => absurd rfl z⟩⟩, fun z => (by cases z)⟩⟩
  · refine simP_same h (-101) (fun K' q => ?_) (fun K q => ?_)
    · unfold wf_M_pay
      exact mf_out hn hN.2.1 hnu ⟨fun z => absurd rfl z, fun _ => q⟩
    · unfold wp_X_pay
      exact ⟨h.1.1.1, xf_out h.1 hN hO hnu ⟨fun z => absurd rfl z, fun _ => q⟩⟩
theorem s_pay {G : GX} {c : Nat} {F : FS} {σ : ST} (h : RX G c F σ) (p : Int32) (nu : Int64) (pr : Int32) (t : Int64) : SimR G c F σ (fun K => wp_X_pay σ (G 6 0) p nu pr t K) (fun K => wf_M_pay F p nu pr t K) := (p_pay h p nu pr t).up
