/-! the beginning: arrays that an object gets when it is made -/
def NA (σ : ST) (q t l : Nat) (g : Nat → Int64) (σ' : ST) : Prop :=
  (∀ b, b ≠ q → st_tg σ' b = st_tg σ b ∧ st_ln σ' b = st_ln σ b ∧ st_eI σ' b = st_eI σ b ∧ st_eJ σ' b = st_eJ σ b ∧ st_eR σ' b = st_eR σ b) ∧ st_tg σ' q = some t ∧ st_ln σ' q = l ∧ (∀ x, st_eI σ' q x = 0) ∧ (∀ x, st_eJ σ' q x = g x) ∧ st_I σ' = st_I σ ∧ st_J σ' = st_J σ ∧ st_R σ' = st_R σ
theorem NA.arr (σ : ST) (q t l : Nat) (C : ClassId) : NA σ q t l (fun _ => 0) (st_arr σ q t C l) := by
  refine ⟨fun b hb => ⟨?_, ?_, ?_, ?_, ?_⟩, ?_, ?_, fun x => ?_, fun x => ?_, rfl, rfl, rfl⟩
  · rw [g_tg_arr, if_neg hb]
  · rw [g_ln_arr, if_neg hb]
  · funext x
    rw [g_eI_arr, if_neg hb]
  · funext x
    rw [g_eJ_arr, if_neg hb]
  · funext x
    rw [g_eR_arr, if_neg hb]
  · rw [g_tg_arr, if_pos rfl]
  · rw [g_ln_arr, if_pos rfl]
  · rw [g_eI_arr, if_pos rfl]
  · rw [g_eJ_arr, if_pos rfl]
theorem NA.uJ {σ σ' : ST} {q t l : Nat} {g : Nat → Int64} (h : NA σ q t l g σ') (i : Nat) (v : Int64) : NA σ q t l (fun x => if x = i then v else g x) (st_uJ σ' q i v) := by
  obtain ⟨h1, h2, h3, h4, h5, h6⟩ := h
  refine ⟨fun b hb => ⟨(h1 b hb).1, (h1 b hb).2.1, (h1 b hb).2.2.1, ?_, (h1 b hb).2.2.2.2⟩, h2, h3, h4, fun x => ?_, h6⟩
  · funext x
    rw [g_eJ_uJ, if_neg (fun z => hb z.1), (h1 b hb).2.2.2.1]
  · rw [g_eJ_uJ, h5]
    show (if q = q ∧ x = i then v else g x) = if x = i then v else g x
    by_cases z : x = i
    · rw [if_pos ⟨rfl, z⟩, if_pos z]
    · rw [if_neg (fun y => z y.2), if_neg z]
def AR (am tm : Nat) (T L : Nat → Nat) (V : Nat → Int64) (D : Nat → Prop) (ma : Nat → Nat) (σ7 σ : ST) : Prop :=
  st_tg σ am = some tm ∧ (∀ f, st_I σ f am = 0) ∧ (∀ j, D j → st_R σ j am = some (ma j) ∧ st_tg σ (ma j) = some (T j) ∧ st_ln σ (ma j) = L j ∧ st_tg σ7 (ma j) = none ∧ (∀ x, st_eI σ (ma j) x = 0) ∧ ∀ x, x < L j → st_eJ σ (ma j) x = V j) ∧ (∀ i j, D i → D j → ma i = ma j → i = j) ∧ Ext σ7 σ ∧ (∀ a, st_tg σ7 a ≠ none → st_eJ σ a = st_eJ σ7 a) ∧ st_tg σ7 am = none
theorem AR.new {am tm : Nat} {T L : Nat → Nat} {V : Nat → Int64} {D : Nat → Prop} {ma : Nat → Nat} {σ7 : ST} (h : st_tg σ7 am = none) (hD : ∀ j, ¬ D j) : AR am tm T L V D ma σ7 (st_new σ7 am tm) :=
  ⟨by rw [g_tg_new, if_pos rfl], fun f => by rw [g_I_new, if_pos rfl], fun j q => absurd q (hD j), fun i j q => absurd q (hD i), Ext.nw h, fun _ _ => rfl, h⟩
theorem AR.add {am tm : Nat} {T L : Nat → Nat} {V : Nat → Int64} {D D' : Nat → Prop} {ma : Nat → Nat} {σ7 σ σ' : ST} (h : AR am tm T L V D ma σ7 σ) {q m : Nat} {g : Nat → Int64} (hq : st_tg σ q = none) (hN : NA σ q (T m) (L m) g σ') (hg : ∀ x, x < L m → g x = V m) (hD : ∀ j, D' j → (D j ∧ j ≠ m) ∨ j = m) : ∃ ma', AR am tm T L V D' ma' σ7 (st_sR σ' m am (some q)) := by
  obtain ⟨h1, h2, h3, h4, h5, h6, h7⟩ := h
  obtain ⟨n1, n2, n3, n4, n5, n6, n7, n8⟩ := hN
  have hqa : am ≠ q := fun e => by rw [e, hq] at h1; cases h1
  have hq7 : st_tg σ7 q = none := by
    by_cases z : st_tg σ7 q = none
    · exact z
    · exact (h5 q z).1.symm.trans hq
  have hne : ∀ j, D j → ma j ≠ q := fun j hj e => by
    have := (h3 j hj).2.1
    rw [e, hq] at this
    cases this
  obtain ⟨ma', hm1, hm2⟩ : ∃ f : Nat → Nat, f m = q ∧ ∀ j, j ≠ m → f j = ma j := ⟨fun j => if j = m then q else ma j, if_pos rfl, fun j hj => if_neg hj⟩
  refine ⟨ma', ?_, fun f => ?_, fun j hj => ?_, fun i j hi hj e => ?_, fun a ha => ?_, fun a ha => ?_, h7⟩
  · rw [g_tg_sR, (n1 am hqa).1]
    exact h1
  · rw [g_I_sR, n6]
    exact h2 f
  · rcases hD j hj with ⟨z1, z2⟩ | z
    · obtain ⟨a1, a2, a3, a4, a5, a6⟩ := h3 j z1
      have b := n1 (ma j) (hne j z1)
      rw [hm2 j z2]
      refine ⟨?_, ?_, ?_, a4, fun x => ?_, fun x hx => ?_⟩
      · rw [g_R_sR, if_neg (fun y => z2 y.1), n8]
        exact a1
      · rw [g_tg_sR, b.1]
        exact a2
      · rw [g_ln_sR, b.2.1]
        exact a3
      · rw [g_eI_sR, b.2.2.1]
        exact a5 x
      · rw [g_eJ_sR, b.2.2.2.1]
        exact a6 x hx
    · subst z
      rw [hm1]
      exact ⟨by rw [g_R_sR, if_pos ⟨rfl, rfl⟩], by rw [g_tg_sR]; exact n2, by rw [g_ln_sR]; exact n3, hq7, fun x => by rw [g_eI_sR]; exact n4 x, fun x hx => by rw [g_eJ_sR, n5]; exact hg x hx⟩
  · rcases hD i hi with ⟨x1, x2⟩ | x
    · rcases hD j hj with ⟨y1, y2⟩ | y
      · rw [hm2 i x2, hm2 j y2] at e
        exact h4 i j x1 y1 e
      · rw [hm2 i x2, y, hm1] at e
        exact absurd e (hne i x1)
    · rcases hD j hj with ⟨y1, y2⟩ | y
      · rw [x, hm1, hm2 j y2] at e
        exact absurd e.symm (hne j y1)
      · exact x.trans y.symm
  · have ka : a ≠ am := fun e => ha (by rw [e]; exact h7)
    have kq : a ≠ q := fun e => ha (by rw [e]; exact hq7)
    obtain ⟨c1, c2, c3, c4, c5, c6⟩ := h5 a ha
    have b := n1 a kq
    exact ⟨by rw [g_tg_sR, b.1]; exact c1, by rw [g_ln_sR, b.2.1]; exact c2, fun f hf => by rw [g_I_sR, n6]; exact c3 f hf, fun f => by rw [g_J_sR, n7]; exact c4 f, fun f => by rw [g_R_sR, if_neg (fun z => ka z.2), n8]; exact c5 f, by rw [g_eR_sR, b.2.2.2.2]; exact c6⟩
  · have kq : a ≠ q := fun e => ha (by rw [e]; exact hq7)
    rw [g_eJ_sR, (n1 a kq).2.2.2.1]
    exact h6 a ha
theorem AR.step {am tm : Nat} {T L : Nat → Nat} {V : Nat → Int64} {D D' : Nat → Prop} {σ7 σ σ' σ2 : ST} (h : ∃ ma, AR am tm T L V D ma σ7 σ) {q m : Nat} {C : ClassId} (hq : st_tg σ q = none) (e1 : σ' = st_arr σ q (T m) C (L m)) (e2 : σ2 = st_sR σ' m am (some q)) (hV : V m = 0) (hD : ∀ j, D' j → (D j ∧ j ≠ m) ∨ j = m) : ∃ ma', AR am tm T L V D' ma' σ7 σ2 := by
  obtain ⟨ma, h⟩ := h
  rw [e2, e1]
  exact h.add hq (NA.arr σ q (T m) (L m) C) (fun _ _ => hV.symm) hD
theorem AR.step2 {am tm : Nat} {T L : Nat → Nat} {V : Nat → Int64} {D D' : Nat → Prop} {σ7 σ σ' σ2 : ST} (h : ∃ ma, AR am tm T L V D ma σ7 σ) {q m : Nat} {g : Nat → Int64} (hq : st_tg σ q = none) (hN : NA σ q (T m) (L m) g σ') (e2 : σ2 = st_sR σ' m am (some q)) (hg : ∀ x, x < L m → g x = V m) (hD : ∀ j, D' j → (D j ∧ j ≠ m) ∨ j = m) : ∃ ma', AR am tm T L V D' ma' σ7 σ2 := by
  obtain ⟨ma, h⟩ := h
  rw [e2]
  exact h.add hq hN hg hD
def vM (j : Nat) : Int64 := if j = 51 then 1000 else if j = 53 ∨ j = 56 then -1 else 0
def dM (b j : Nat) : Prop := isA j = true ∧ j < b
theorem isA_iff {j : Nat} (h : isA j = true) : 41 ≤ j ∧ j ≤ 71 ∧ j ≠ 60 ∧ j ≠ 61 ∧ j ≠ 67 := of_decide_eq_true h
theorem dM_next (b m : Nat) (hs : ∀ j, isA j = true → b ≤ j → j < m → False) : ∀ j, dM (m + 1) j → (dM b j ∧ j ≠ m) ∨ j = m := fun j h => by
  by_cases e : j = m
  · exact Or.inr e
  · refine Or.inl ⟨⟨h.1, ?_⟩, e⟩
    rcases Nat.lt_or_ge j b with q | q
    · exact q
    · exact (hs j h.1 q (by have := h.2; omega)).elim
theorem dM_n (m : Nat) : ∀ j, dM (m + 1) j → (dM m j ∧ j ≠ m) ∨ j = m := dM_next m m (fun j _ a b => absurd a (by omega))
set_option maxHeartbeats 4000000 in
set_option maxRecDepth 100000 in
theorem m_init {σ7 : ST} {am : Nat} (h7 : st_tg σ7 am = none) {K : ST → Prop} (hK : ∀ (ma : Nat → Nat) (σ : ST), AR am 1 tagA lnA vM (dM 72) ma σ7 σ → K σ) : wp_M_init (st_new σ7 am 1) am K := by
  have h41 : ∃ ma, AR am 1 tagA lnA vM (dM 41) ma σ7 (st_new σ7 am 1) := ⟨fun _ => 0, AR.new h7 (fun j q => by have := isA_iff q.1; have := q.2; omega)⟩
  generalize st_new σ7 am 1 = σ41 at h41 ⊢
  unfold wp_M_init
  intro q41 C41 t41 s41 e41
  refine ⟨?_, ?_⟩
  · obtain ⟨ma, ha⟩ := h41
    rw [e41, g_tg_arr, if_neg (fun z => by have := ha.1; rw [z, t41] at this; cases this)]
    exact ha.1
  intro r41 z41
  have k41 := AR.step (m := 41) (D' := dM 42) h41 t41 e41 z41 rfl (dM_n 41)
  intro q42 C42 t42 s42 e42
  intro r42 z42
  have k42 := AR.step (m := 42) (D' := dM 43) k41 t42 e42 z42 rfl (dM_n 42)
  intro q43 C43 t43 s43 e43
  intro r43 z43
  have k43 := AR.step (m := 43) (D' := dM 44) k42 t43 e43 z43 rfl (dM_n 43)
  intro q44 C44 t44 s44 e44
  intro r44 z44
  have k44 := AR.step (m := 44) (D' := dM 45) k43 t44 e44 z44 rfl (dM_n 44)
  intro q45 C45 t45 s45 e45
  intro r45 z45
  have k45 := AR.step (m := 45) (D' := dM 46) k44 t45 e45 z45 rfl (dM_n 45)
  intro q46 C46 t46 s46 e46
  intro r46 z46
  have k46 := AR.step (m := 46) (D' := dM 47) k45 t46 e46 z46 rfl (dM_n 46)
  intro q47 C47 t47 s47 e47
  intro r47 z47
  have k47 := AR.step (m := 47) (D' := dM 48) k46 t47 e47 z47 rfl (dM_n 47)
  intro q48 C48 t48 s48 e48
  intro r48 z48
  have k48 := AR.step (m := 48) (D' := dM 49) k47 t48 e48 z48 rfl (dM_n 48)
  intro q49 C49 t49 s49 e49
  intro r49 z49
  have k49 := AR.step (m := 49) (D' := dM 50) k48 t49 e49 z49 rfl (dM_n 49)
  intro q50 C50 t50 s50 e50
  intro r50 z50
  have k50 := AR.step (m := 50) (D' := dM 51) k49 t50 e50 z50 rfl (dM_n 50)
  intro q51 C51 t51 s51 e51
  have n51 := NA.arr r50 q51 302 4 C51
  rw [← e51] at n51
  refine ⟨by rw [n51.2.2.1]; exact vp_in_nI (n := 0) (N := 4) (by decide) (by decide), ?_⟩
  intro s51_0 e51_0
  replace n51 := n51.uJ (Int32.toNatClampNeg 0) 1000
  rw [← e51_0] at n51
  refine ⟨by rw [n51.2.2.1]; exact vp_in_nI (n := 1) (N := 4) (by decide) (by decide), ?_⟩
  intro s51_1 e51_1
  replace n51 := n51.uJ (Int32.toNatClampNeg 1) 1000
  rw [← e51_1] at n51
  refine ⟨by rw [n51.2.2.1]; exact vp_in_nI (n := 2) (N := 4) (by decide) (by decide), ?_⟩
  intro s51_2 e51_2
  replace n51 := n51.uJ (Int32.toNatClampNeg 2) 1000
  rw [← e51_2] at n51
  refine ⟨by rw [n51.2.2.1]; exact vp_in_nI (n := 3) (N := 4) (by decide) (by decide), ?_⟩
  intro s51_3 e51_3
  replace n51 := n51.uJ (Int32.toNatClampNeg 3) 1000
  rw [← e51_3] at n51
  intro r51 z51
  have k51 := AR.step2 (m := 51) (D' := dM 52) k50 t51 n51 z51 (by decide +kernel) (dM_n 51)
  intro q52 C52 t52 s52 e52
  intro r52 z52
  have k52 := AR.step (m := 52) (D' := dM 53) k51 t52 e52 z52 rfl (dM_n 52)
  intro q53 C53 t53 s53 e53
  have n53 := NA.arr r52 q53 302 8 C53
  rw [← e53] at n53
  refine ⟨by rw [n53.2.2.1]; exact vp_in_nI (n := 0) (N := 8) (by decide) (by decide), ?_⟩
  intro s53_0 e53_0
  replace n53 := n53.uJ (Int32.toNatClampNeg 0) ((-1))
  rw [← e53_0] at n53
  refine ⟨by rw [n53.2.2.1]; exact vp_in_nI (n := 1) (N := 8) (by decide) (by decide), ?_⟩
  intro s53_1 e53_1
  replace n53 := n53.uJ (Int32.toNatClampNeg 1) ((-1))
  rw [← e53_1] at n53
  refine ⟨by rw [n53.2.2.1]; exact vp_in_nI (n := 2) (N := 8) (by decide) (by decide), ?_⟩
  intro s53_2 e53_2
  replace n53 := n53.uJ (Int32.toNatClampNeg 2) ((-1))
  rw [← e53_2] at n53
  refine ⟨by rw [n53.2.2.1]; exact vp_in_nI (n := 3) (N := 8) (by decide) (by decide), ?_⟩
  intro s53_3 e53_3
  replace n53 := n53.uJ (Int32.toNatClampNeg 3) ((-1))
  rw [← e53_3] at n53
  refine ⟨by rw [n53.2.2.1]; exact vp_in_nI (n := 4) (N := 8) (by decide) (by decide), ?_⟩
  intro s53_4 e53_4
  replace n53 := n53.uJ (Int32.toNatClampNeg 4) ((-1))
  rw [← e53_4] at n53
  refine ⟨by rw [n53.2.2.1]; exact vp_in_nI (n := 5) (N := 8) (by decide) (by decide), ?_⟩
  intro s53_5 e53_5
  replace n53 := n53.uJ (Int32.toNatClampNeg 5) ((-1))
  rw [← e53_5] at n53
  refine ⟨by rw [n53.2.2.1]; exact vp_in_nI (n := 6) (N := 8) (by decide) (by decide), ?_⟩
  intro s53_6 e53_6
  replace n53 := n53.uJ (Int32.toNatClampNeg 6) ((-1))
  rw [← e53_6] at n53
  refine ⟨by rw [n53.2.2.1]; exact vp_in_nI (n := 7) (N := 8) (by decide) (by decide), ?_⟩
  intro s53_7 e53_7
  replace n53 := n53.uJ (Int32.toNatClampNeg 7) ((-1))
  rw [← e53_7] at n53
  intro r53 z53
  have k53 := AR.step2 (m := 53) (D' := dM 54) k52 t53 n53 z53 (by decide +kernel) (dM_n 53)
  intro q54 C54 t54 s54 e54
  intro r54 z54
  have k54 := AR.step (m := 54) (D' := dM 55) k53 t54 e54 z54 rfl (dM_n 54)
  intro q55 C55 t55 s55 e55
  intro r55 z55
  have k55 := AR.step (m := 55) (D' := dM 56) k54 t55 e55 z55 rfl (dM_n 55)
  intro q56 C56 t56 s56 e56
  have n56 := NA.arr r55 q56 302 8 C56
  rw [← e56] at n56
  refine ⟨by rw [n56.2.2.1]; exact vp_in_nI (n := 0) (N := 8) (by decide) (by decide), ?_⟩
  intro s56_0 e56_0
  replace n56 := n56.uJ (Int32.toNatClampNeg 0) ((-1))
  rw [← e56_0] at n56
  refine ⟨by rw [n56.2.2.1]; exact vp_in_nI (n := 1) (N := 8) (by decide) (by decide), ?_⟩
  intro s56_1 e56_1
  replace n56 := n56.uJ (Int32.toNatClampNeg 1) ((-1))
  rw [← e56_1] at n56
  refine ⟨by rw [n56.2.2.1]; exact vp_in_nI (n := 2) (N := 8) (by decide) (by decide), ?_⟩
  intro s56_2 e56_2
  replace n56 := n56.uJ (Int32.toNatClampNeg 2) ((-1))
  rw [← e56_2] at n56
  refine ⟨by rw [n56.2.2.1]; exact vp_in_nI (n := 3) (N := 8) (by decide) (by decide), ?_⟩
  intro s56_3 e56_3
  replace n56 := n56.uJ (Int32.toNatClampNeg 3) ((-1))
  rw [← e56_3] at n56
  refine ⟨by rw [n56.2.2.1]; exact vp_in_nI (n := 4) (N := 8) (by decide) (by decide), ?_⟩
  intro s56_4 e56_4
  replace n56 := n56.uJ (Int32.toNatClampNeg 4) ((-1))
  rw [← e56_4] at n56
  refine ⟨by rw [n56.2.2.1]; exact vp_in_nI (n := 5) (N := 8) (by decide) (by decide), ?_⟩
  intro s56_5 e56_5
  replace n56 := n56.uJ (Int32.toNatClampNeg 5) ((-1))
  rw [← e56_5] at n56
  refine ⟨by rw [n56.2.2.1]; exact vp_in_nI (n := 6) (N := 8) (by decide) (by decide), ?_⟩
  intro s56_6 e56_6
  replace n56 := n56.uJ (Int32.toNatClampNeg 6) ((-1))
  rw [← e56_6] at n56
  refine ⟨by rw [n56.2.2.1]; exact vp_in_nI (n := 7) (N := 8) (by decide) (by decide), ?_⟩
  intro s56_7 e56_7
  replace n56 := n56.uJ (Int32.toNatClampNeg 7) ((-1))
  rw [← e56_7] at n56
  intro r56 z56
  have k56 := AR.step2 (m := 56) (D' := dM 57) k55 t56 n56 z56 (by decide +kernel) (dM_n 56)
  intro q57 C57 t57 s57 e57
  intro r57 z57
  have k57 := AR.step (m := 57) (D' := dM 58) k56 t57 e57 z57 rfl (dM_n 57)
  intro q58 C58 t58 s58 e58
  intro r58 z58
  have k58 := AR.step (m := 58) (D' := dM 59) k57 t58 e58 z58 rfl (dM_n 58)
  intro q59 C59 t59 s59 e59
  intro r59 z59
  have k59 := AR.step (m := 59) (D' := dM 60) k58 t59 e59 z59 rfl (dM_n 59)
  intro q62 C62 t62 s62 e62
  intro r62 z62
  have k62 := AR.step (m := 62) (D' := dM 63) k59 t62 e62 z62 rfl (dM_next 60 62 (fun j a b d => by have := isA_iff a; omega))
  intro q63 C63 t63 s63 e63
  intro r63 z63
  have k63 := AR.step (m := 63) (D' := dM 64) k62 t63 e63 z63 rfl (dM_n 63)
  intro q64 C64 t64 s64 e64
  intro r64 z64
  have k64 := AR.step (m := 64) (D' := dM 65) k63 t64 e64 z64 rfl (dM_n 64)
  intro q65 C65 t65 s65 e65
  intro r65 z65
  have k65 := AR.step (m := 65) (D' := dM 66) k64 t65 e65 z65 rfl (dM_n 65)
  intro q66 C66 t66 s66 e66
  intro r66 z66
  have k66 := AR.step (m := 66) (D' := dM 67) k65 t66 e66 z66 rfl (dM_n 66)
  intro q68 C68 t68 s68 e68
  intro r68 z68
  have k68 := AR.step (m := 68) (D' := dM 69) k66 t68 e68 z68 rfl (dM_next 67 68 (fun j a b d => by have := isA_iff a; omega))
  intro q69 C69 t69 s69 e69
  intro r69 z69
  have k69 := AR.step (m := 69) (D' := dM 70) k68 t69 e69 z69 rfl (dM_n 69)
  intro q70 C70 t70 s70 e70
  intro r70 z70
  have k70 := AR.step (m := 70) (D' := dM 71) k69 t70 e70 z70 rfl (dM_n 70)
  intro q71 C71 t71 s71 e71
  intro r71 z71
  have k71 := AR.step (m := 71) (D' := dM 72) k70 t71 e71 z71 rfl (dM_n 71)
  obtain ⟨ma, ha⟩ := k71
  exact hK ma _ ha
