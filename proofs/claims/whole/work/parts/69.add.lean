/-! a new order -/
theorem cntL_low {F F' : FS} (k : Nat) : ∀ n, (∀ i, i ≤ n → fI F' 48 i = fI F 48 i) → cntL F' k n = cntL F k n
  | 0 => fun _ => rfl
  | n + 1 => fun h => by unfold cntL; rw [cntL_low k n (fun i hi => h i (by omega)), h (n + 1) (Nat.le_refl _)]
theorem cntP_low {F F' : FS} : ∀ n, (∀ i, i ≤ n → fI F' 41 i = fI F 41 i) → cntP F' n = cntP F n
  | 0 => fun _ => rfl
  | n + 1 => fun h => by unfold cntP; rw [cntP_low n (fun i hi => h i (by omega)), h (n + 1) (Nat.le_refl _)]
theorem prf_low {F F' : FS} {k : Nat} : ∀ l, (∀ i, i ∈ l → fI F' 45 (i + 1) = fI F 45 (i + 1)) → (∀ j, j < l.length → fI F' 59 (300 * k + j) = fI F 59 (300 * k + j)) → prf F k l → prf F' k l
  | [] => fun _ _ _ => trivial
  | i :: t => fun h h2 q => ⟨by rw [h i List.mem_cons_self, h2 t.length (by simp)]; exact q.1, prf_low t (fun j hj => h j (List.mem_cons_of_mem _ hj)) (fun j hj => h2 j (by simp; omega)) q.2⟩
theorem chn_move {G G' : GX} {σ σ' : ST} : ∀ l x, (∀ i, i ∈ l → G' 3 i = G 3 i ∧ st_R σ' 210 (G 3 i) = st_R σ 210 (G 3 i)) → chn G σ l x → chn G' σ' l x
  | [], _ => fun _ q => q
  | i :: t, _ => fun h q => ⟨by rw [(h i List.mem_cons_self).1]; exact q.1, by rw [(h i List.mem_cons_self).1, (h i List.mem_cons_self).2]; exact chn_move t _ (fun j hj => h j (List.mem_cons_of_mem _ hj)) q.2⟩
theorem tg_ne {σ : ST} {a b i j : Nat} (h1 : st_tg σ a = some i) (h2 : st_tg σ b = some j) (h : ¬ i = j) : ¬ a = b := fun e => by
  rw [e, h2] at h1
  exact h (Option.some.inj h1).symm
theorem SX.uR {G : GX} {σ : ST} (h : SX G σ) {a t i : Nat} {v : Option Nat} (ha : st_tg σ a = some t) (h1 : ¬ t = 314) (h2 : ¬ t = 313) : SX G (st_uR σ a i v) := by
  obtain ⟨A, B, c1, c2, c3⟩ := h
  refine ⟨A, B, fun k hk => ⟨?_, (c1 k hk).2⟩, fun k hk => ⟨?_, (c2 k hk).2⟩, c3⟩
  · rw [g_eR_uR, if_neg (fun q => tg_ne ha B.1.1 h1 q.1.symm)]
    exact (c1 k hk).1
  · rw [g_eR_uR, if_neg (fun q => tg_ne ha B.2.1.1 h2 q.1.symm)]
    exact (c2 k hk).1
theorem TRS.uR {G : GX} {F : FS} {c x v : Nat} {σ : ST} (h : TRS G F c x v σ) {a i : Nat} {w : Option Nat} (ha : ¬ G 0 4 = a) : TRS G F c x v (st_uR σ a i w) := by
  obtain ⟨t1, t2, t3, t4, t5, t6, t7, t8, t9⟩ := h
  refine ⟨t1, t2, t3, t4, t5, t6, t7, fun t ht hk => ?_, t9⟩
  obtain ⟨x1, x2⟩ := t8 t ht hk
  exact ⟨by rw [g_eR_uR, if_neg (fun q => ha q.1)]; exact x1, x2⟩
theorem COL.uR {G : GX} {F : FS} {w : Nat} {σ : ST} (h : COL G F w σ) {a i : Nat} {x : Option Nat} (ha : ¬ G 0 7 = a) : COL G F w (st_uR σ a i x) := by
  obtain ⟨w1, w2, w3, w4⟩ := h
  refine ⟨w1, w2, w3, fun j hj => ?_⟩
  obtain ⟨z, x1, x2⟩ := w4 j hj
  exact ⟨z, by rw [g_eR_uR, if_neg (fun q => ha q.1)]; exact x1, x2⟩
def addF (F : FS) (n : Nat) (h : Int32) (ce un : Int64) (k pr : Int32) : FS := fsI (fsI (fsI (fsI (fsI (fsJ (fsJ (fsI (fsN F 40 (nI (n + 1))) 41 (n + 1) 0) 42 (n + 1) ce) 43 (n + 1) un) 44 (n + 1) k) 45 (n + 1) pr) 46 (n + 1) h) 47 (n + 1) (-1)) 48 (n + 1) (-1)
theorem addF_I {F : FS} {n : Nat} {h k pr : Int32} {ce un : Int64} {j i : Nat} (hi : ¬ i = n + 1) : fI (addF F n h ce un k pr) j i = fI F j i := by
  unfold addF
  simp only [i_sI, i_sJ, i_sN, hi, and_false, if_false]
theorem addF_J {F : FS} {n : Nat} {h k pr : Int32} {ce un : Int64} {j i : Nat} (hi : ¬ i = n + 1) : fJ (addF F n h ce un k pr) j i = fJ F j i := by
  unfold addF
  simp only [j_sI, j_sJ, j_sN, hi, and_false, if_false]
theorem m_add {F : FS} {n : Nat} (hn : n < 300) (hF : fN F 40 = nI n) {h k pr : Int32} {ce un : Int64} {K : Int32 → FS → Prop} (hK : K (nI (nfN (n + 1))) (addF F n h ce un k pr)) : wf_M_add F h ce un k pr K := by
  have hin : vp_in (nI (n + 1)) 301 := vp_in_nI (by omega) (by decide)
  have hcl : (nI (n + 1)).toNatClampNeg = n + 1 := nI_clamp (by omega)
  unfold wf_M_add
  rw [hF, nI_1]
  intro F1 e1
  have f1 : fN F1 40 = nI (n + 1) := by rw [e1]; rfl
  rw [f1, hcl]
  refine ⟨hin, fun F3 e3 => ?_⟩
  have f3 : fN F3 40 = nI (n + 1) := by rw [e3]; exact f1
  rw [f3, hcl]
  refine ⟨hin, fun F5 e5 => ?_⟩
  have f5 : fN F5 40 = nI (n + 1) := by rw [e5]; exact f3
  rw [f5, hcl]
  refine ⟨hin, fun F7 e7 => ?_⟩
  have f7 : fN F7 40 = nI (n + 1) := by rw [e7]; exact f5
  rw [f7, hcl]
  refine ⟨hin, fun F9 e9 => ?_⟩
  have f9 : fN F9 40 = nI (n + 1) := by rw [e9]; exact f7
  rw [f9, hcl]
  refine ⟨hin, fun F11 e11 => ?_⟩
  have f11 : fN F11 40 = nI (n + 1) := by rw [e11]; exact f9
  rw [f11, hcl]
  refine ⟨hin, fun F13 e13 => ?_⟩
  have f13 : fN F13 40 = nI (n + 1) := by rw [e13]; exact f11
  rw [f13, hcl]
  refine ⟨hin, fun F15 e15 => ?_⟩
  have f15 : fN F15 40 = nI (n + 1) := by rw [e15]; exact f13
  rw [f15, hcl]
  refine ⟨hin, fun F17 e17 => ?_⟩
  have f17 : fN F17 40 = nI (n + 1) := by rw [e17]; exact f15
  rw [f17]
  refine m_numberOf (by omega) ?_
  rw [e17, e15, e13, e11, e9, e7, e5, e3, e1]
  exact hK
/-- what a new order's cell holds -/
def NewO (G : GX) (σ σN : ST) (q : Nat) (num : Int32) (x1 : Option Nat) (ce un : Int64) (x2 : Option Nat) (pr : Int32) : Prop :=
  Ext σ σN ∧ FrX (G 0 9) σ σN ∧ st_eJ σN = st_eJ σ ∧ st_tg σN q = some 5 ∧ st_I σN 200 q = num ∧ st_R σN 201 q = x1 ∧ st_J σN 202 q = ce ∧ st_J σN 203 q = un ∧ st_R σN 204 q = x2 ∧ st_I σN 205 q = pr ∧ st_I σN 206 q = 0 ∧ st_J σN 207 q = -1 ∧ st_R σN 208 q = none ∧ st_R σN 209 q = none
theorem x_orderInit {G : GX} {σ : ST} {q : Nat} (hq : st_tg σ q = none) {num : Int32} {x1 : Option Nat} {ce un : Int64} {x2 : Option Nat} {pr : Int32} {K : ST → Prop} (hK : ∀ σN, NewO G σ σN q num x1 ce un x2 pr → K σN) : wp_Order_init (st_new σ q 5) q num x1 ce un x2 pr K := by
  unfold wp_Order_init
  refine ⟨by rw [g_tg_new, if_pos rfl], ?_⟩
  intro σa ea σb eb σd ed σe ee σf ef σg eg σi ei σN eN
  have x0 : Ext σ (st_new σ q 5) := Ext.nw hq
  have y0 : FrX (G 0 9) σ (st_new σ q 5) := FrX.nw hq
  have xa : Ext σ σa := by rw [ea]; exact x0.sI hq
  have ya : FrX (G 0 9) σ σa := by rw [ea]; exact y0.tr (FrX.sI (by decide))
  have xb : Ext σ σb := by rw [eb]; exact xa.sJ hq
  have yb : FrX (G 0 9) σ σb := by rw [eb]; exact ya.tr FrX.sJ
  have xd : Ext σ σd := by rw [ed]; exact xb.sI hq
  have yd : FrX (G 0 9) σ σd := by rw [ed]; exact yb.tr (FrX.sI (by decide))
  have xe : Ext σ σe := by rw [ee]; exact xd.sR hq
  have ye : FrX (G 0 9) σ σe := by rw [ee]; exact yd.tr (FrX.sR (by decide))
  have xf : Ext σ σf := by rw [ef]; exact xe.sJ hq
  have yf : FrX (G 0 9) σ σf := by rw [ef]; exact ye.tr FrX.sJ
  have xg : Ext σ σg := by rw [eg]; exact xf.sJ hq
  have yg : FrX (G 0 9) σ σg := by rw [eg]; exact yf.tr FrX.sJ
  have xi : Ext σ σi := by rw [ei]; exact xg.sR hq
  have yi : FrX (G 0 9) σ σi := by rw [ei]; exact yg.tr (FrX.sR (by decide))
  have xN : Ext σ σN := by rw [eN]; exact xi.sI hq
  have yN : FrX (G 0 9) σ σN := by rw [eN]; exact yi.tr (FrX.sI (by decide))
  refine hK σN ⟨xN, yN, ?_, ?_, ?_, ?_, ?_, ?_, ?_, ?_, ?_, ?_, ?_, ?_⟩
  · rw [eN, g_eJ_sI, ei, g_eJ_sR, eg, g_eJ_sJ, ef, g_eJ_sJ, ee, g_eJ_sR, ed, g_eJ_sI, eb, g_eJ_sJ, ea, g_eJ_sI, g_eJ_new]
  · rw [eN, g_tg_sI, ei, g_tg_sR, eg, g_tg_sJ, ef, g_tg_sJ, ee, g_tg_sR, ed, g_tg_sI, eb, g_tg_sJ, ea, g_tg_sI, g_tg_new, if_pos rfl]
  · rw [eN, g_I_sI, if_neg (fun z => absurd z.1 (by decide)), ei, g_I_sR, eg, g_I_sJ, ef, g_I_sJ, ee, g_I_sR, ed, g_I_sI, if_pos ⟨rfl, rfl⟩]
  · rw [eN, g_R_sI, ei, g_R_sR, if_neg (fun z => absurd z.1 (by decide)), eg, g_R_sJ, ef, g_R_sJ, ee, g_R_sR, if_pos ⟨rfl, rfl⟩]
  · rw [eN, g_J_sI, ei, g_J_sR, eg, g_J_sJ, if_neg (fun z => absurd z.1 (by decide)), ef, g_J_sJ, if_pos ⟨rfl, rfl⟩]
  · rw [eN, g_J_sI, ei, g_J_sR, eg, g_J_sJ, if_pos ⟨rfl, rfl⟩]
  · rw [eN, g_R_sI, ei, g_R_sR, if_pos ⟨rfl, rfl⟩]
  · rw [eN, g_I_sI, if_pos ⟨rfl, rfl⟩]
  · rw [eN, g_I_sI, if_neg (fun z => absurd z.1 (by decide)), ei, g_I_sR, eg, g_I_sJ, ef, g_I_sJ, ee, g_I_sR, ed, g_I_sI, if_neg (fun z => absurd z.1 (by decide)), eb, g_I_sJ, ea, g_I_sI, if_pos ⟨rfl, rfl⟩]
  · rw [eN, g_J_sI, ei, g_J_sR, eg, g_J_sJ, if_neg (fun z => absurd z.1 (by decide)), ef, g_J_sJ, if_neg (fun z => absurd z.1 (by decide)), ee, g_J_sR, ed, g_J_sI, eb, g_J_sJ, if_pos ⟨rfl, rfl⟩]
  · rw [eN, g_R_sI, ei, g_R_sR, if_neg (fun z => absurd z.1 (by decide)), eg, g_R_sJ, ef, g_R_sJ, ee, g_R_sR, if_neg (fun z => absurd z.1 (by decide)), ed, g_R_sI, eb, g_R_sJ, ea, g_R_sI, g_R_new, if_pos rfl]
  · rw [eN, g_R_sI, ei, g_R_sR, if_neg (fun z => absurd z.1 (by decide)), eg, g_R_sJ, ef, g_R_sJ, ee, g_R_sR, if_neg (fun z => absurd z.1 (by decide)), ed, g_R_sI, eb, g_R_sJ, ea, g_R_sI, g_R_new, if_pos rfl]
/-- where things lie may be told anew -/
def GS (G G' : GX) : Prop := G' 0 = G 0 ∧ G' 1 = G 1 ∧ G' 2 = G 2 ∧ G' 5 = G 5 ∧ G' 6 = G 6
theorem SX.G {G G' : GX} {σ : ST} (g : GS G G') (h : SX G σ) : SX G' σ := by
  obtain ⟨g0, g1, g2, g5, g6⟩ := g
  unfold SX
  rw [g0, g1, g2, g6]
  exact h
theorem OFF.G {G G' : GX} {F : FS} {σ : ST} (g : GS G G') (h : OFF G F σ) : OFF G' F σ := by
  obtain ⟨g0, g1, g2, g5, g6⟩ := g
  unfold OFF
  rw [g1]
  exact h
theorem CUR.G {G G' : GX} {F : FS} {σ : ST} (g : GS G G') (h : CUR G F σ) : CUR G' F σ := by
  obtain ⟨g0, g1, g2, g5, g6⟩ := g
  unfold CUR
  rw [g2]
  exact h
theorem TOT.G {G G' : GX} {F : FS} {σ : ST} (g : GS G G') (h : TOT G F σ) : TOT G' F σ := by
  obtain ⟨g0, g1, g2, g5, g6⟩ := g
  unfold TOT
  rw [g0]
  exact h
theorem COL.G {G G' : GX} {F : FS} {w : Nat} {σ : ST} (g : GS G G') (h : COL G F w σ) : COL G' F w σ := by
  obtain ⟨g0, g1, g2, g5, g6⟩ := g
  unfold COL CO1
  rw [g0, g1, g6]
  exact h
theorem TRS.G {G G' : GX} {F : FS} {c a v : Nat} {σ : ST} (g : GS G G') (g4 : G' 4 = G 4) (g7 : G' 7 = G 7) (h : TRS G F c a v σ) : TRS G' F c a v σ := by
  obtain ⟨g0, g1, g2, g5, g6⟩ := g
  unfold TRS TR1
  rw [g0, g4, g6, g7]
  exact h
theorem OR1.G {G G' : GX} {F : FS} {σ : ST} {i : Nat} (g : GS G G') (g3 : G' 3 i = G 3 i) (h : OR1 G F σ i) : OR1 G' F σ i := by
  obtain ⟨g0, g1, g2, g5, g6⟩ := g
  unfold OR1 lnk
  rw [g0, g1, g2, g3]
  exact h
theorem OR1.uR {G : GX} {F : FS} {σ : ST} {i m : Nat} {x : Option Nat} (hm : ¬ i = m) (h : OR1 G F σ i) : OR1 G F (st_uR σ (G 0 2) m x) i := by
  obtain ⟨o1, o2⟩ := h
  exact ⟨by rw [g_eR_uR, if_neg (fun z => hm z.2)]; exact o1, o2⟩
theorem OR1.F {G : GX} {F F' : FS} {σ : ST} {i : Nat} (hI : ∀ j, fI F' j (i + 1) = fI F j (i + 1)) (hJ : ∀ j, fJ F' j (i + 1) = fJ F j (i + 1)) (h : OR1 G F σ i) : OR1 G F' σ i := by
  unfold OR1
  rw [hI, hI, hI, hI, hI, hI, hI, hJ, hJ, hJ]
  exact h
theorem addF_n {F : FS} {n : Nat} {h k pr : Int32} {ce un : Int64} : fI (addF F n h ce un k pr) 41 (n + 1) = 0 ∧ fJ (addF F n h ce un k pr) 42 (n + 1) = ce ∧ fJ (addF F n h ce un k pr) 43 (n + 1) = un ∧ fI (addF F n h ce un k pr) 44 (n + 1) = k ∧ fI (addF F n h ce un k pr) 45 (n + 1) = pr ∧ fI (addF F n h ce un k pr) 46 (n + 1) = h ∧ fI (addF F n h ce un k pr) 47 (n + 1) = -1 ∧ fI (addF F n h ce un k pr) 48 (n + 1) = -1 ∧ fI (addF F n h ce un k pr) 50 (n + 1) = fI F 50 (n + 1) := by
  unfold addF
  refine ⟨?_, ?_, ?_, ?_, ?_, ?_, ?_, ?_, ?_⟩
  · rw [i_sI, if_neg (fun z => absurd z.1 (by decide)), i_sI, if_neg (fun z => absurd z.1 (by decide)), i_sI, if_neg (fun z => absurd z.1 (by decide)), i_sI, if_neg (fun z => absurd z.1 (by decide)), i_sI, if_neg (fun z => absurd z.1 (by decide)), i_sJ, i_sJ, i_sI, if_pos ⟨rfl, rfl⟩]
  · rw [j_sI, j_sI, j_sI, j_sI, j_sI, j_sJ, if_neg (fun z => absurd z.1 (by decide)), j_sJ, if_pos ⟨rfl, rfl⟩]
  · rw [j_sI, j_sI, j_sI, j_sI, j_sI, j_sJ, if_pos ⟨rfl, rfl⟩]
  · rw [i_sI, if_neg (fun z => absurd z.1 (by decide)), i_sI, if_neg (fun z => absurd z.1 (by decide)), i_sI, if_neg (fun z => absurd z.1 (by decide)), i_sI, if_neg (fun z => absurd z.1 (by decide)), i_sI, if_pos ⟨rfl, rfl⟩]
  · rw [i_sI, if_neg (fun z => absurd z.1 (by decide)), i_sI, if_neg (fun z => absurd z.1 (by decide)), i_sI, if_neg (fun z => absurd z.1 (by decide)), i_sI, if_pos ⟨rfl, rfl⟩]
  · rw [i_sI, if_neg (fun z => absurd z.1 (by decide)), i_sI, if_neg (fun z => absurd z.1 (by decide)), i_sI, if_pos ⟨rfl, rfl⟩]
  · rw [i_sI, if_neg (fun z => absurd z.1 (by decide)), i_sI, if_pos ⟨rfl, rfl⟩]
  · rw [i_sI, if_pos ⟨rfl, rfl⟩]
  · rw [i_sI, if_neg (fun z => absurd z.1 (by decide)), i_sI, if_neg (fun z => absurd z.1 (by decide)), i_sI, if_neg (fun z => absurd z.1 (by decide)), i_sI, if_neg (fun z => absurd z.1 (by decide)), i_sI, if_neg (fun z => absurd z.1 (by decide)), i_sJ, i_sJ, i_sI, if_neg (fun z => absurd z.1 (by decide)), i_sN]
theorem addF_o {F : FS} {n : Nat} {h k pr : Int32} {ce un : Int64} {j : Nat} (hj : ¬ j = 41 ∧ ¬ j = 44 ∧ ¬ j = 45 ∧ ¬ j = 46 ∧ ¬ j = 47 ∧ ¬ j = 48) : fI (addF F n h ce un k pr) j = fI F j := by
  obtain ⟨a1, a2, a3, a4, a5, a6⟩ := hj
  funext i
  unfold addF
  simp only [i_sI, i_sJ, i_sN, a1, a2, a3, a4, a5, a6, false_and, if_false]
theorem addF_oJ {F : FS} {n : Nat} {h k pr : Int32} {ce un : Int64} {j : Nat} (hj : ¬ j = 42 ∧ ¬ j = 43) : fJ (addF F n h ce un k pr) j = fJ F j := by
  obtain ⟨a1, a2⟩ := hj
  funext i
  unfold addF
  simp only [j_sI, j_sJ, j_sN, a1, a2, false_and, if_false]
theorem addF_N {F : FS} {n : Nat} {h k pr : Int32} {ce un : Int64} {j : Nat} (hj : ¬ j = 40) : fN (addF F n h ce un k pr) j = fN F j := by
  unfold addF
  simp only [n_sI, n_sJ, n_sN, hj, if_false]
theorem addF_40 {F : FS} {n : Nat} {h k pr : Int32} {ce un : Int64} : fN (addF F n h ce un k pr) 40 = nI (n + 1) := by
  unfold addF
  simp only [n_sI, n_sJ, n_sN, if_true]
theorem OFF.F {G : GX} {F F' : FS} {σ : ST} (hJ : ∀ j, 51 ≤ j → fJ F' j = fJ F j) (hI : ∀ j, 51 ≤ j → fI F' j = fI F j) (h : OFF G F σ) : OFF G F' σ := by
  unfold OFF
  rw [hJ 52 (by decide), hJ 53 (by decide), hJ 56 (by decide), hJ 57 (by decide), hI 54 (by decide), hI 55 (by decide)]
  exact h
theorem OFR.F {F F' : FS} (hJ : ∀ j, 51 ≤ j → fJ F' j = fJ F j) (hI : ∀ j, 51 ≤ j → fI F' j = fI F j) (h : OFR F) : OFR F' := by
  unfold OFR
  rw [hJ 53 (by decide), hI 54 (by decide), hI 55 (by decide)]
  exact h
theorem CUR.F {G : GX} {F F' : FS} {σ : ST} (hJ : ∀ j, 51 ≤ j → fJ F' j = fJ F j) (h : CUR G F σ) : CUR G F' σ := by
  unfold CUR
  rw [hJ 51 (by decide)]
  exact h
theorem TOT.F {G : GX} {F F' : FS} {σ : ST} (hJ : ∀ j, 51 ≤ j → fJ F' j = fJ F j) (h : TOT G F σ) : TOT G F' σ := by
  unfold TOT
  rw [hJ 71 (by decide)]
  exact h
theorem COL.F {G : GX} {F F' : FS} {w : Nat} {σ : ST} (hN : ∀ j, 51 ≤ j → fN F' j = fN F j) (hJ : ∀ j, 51 ≤ j → fJ F' j = fJ F j) (hI : ∀ j, 51 ≤ j → fI F' j = fI F j) (h : COL G F w σ) : COL G F' w σ := by
  unfold COL CO1
  rw [hN 67 (by decide), hI 68 (by decide), hJ 69 (by decide), hI 70 (by decide)]
  exact h
theorem TRS.F {G : GX} {F F' : FS} {c a v : Nat} {σ : ST} (hN : ∀ j, 51 ≤ j → fN F' j = fN F j) (hJ : ∀ j, 51 ≤ j → fJ F' j = fJ F j) (hI : ∀ j, 51 ≤ j → fI F' j = fI F j) (h : TRS G F c a v σ) : TRS G F' c a v σ := by
  unfold TRS TR1
  rw [hN 60 (by decide), hN 61 (by decide), hI 62 (by decide), hJ 63 (by decide), hI 64 (by decide), hJ 65 (by decide), hI 66 (by decide)]
  exact h
theorem x_add {G : GX} {c : Nat} {F : FS} {σ : ST} (h : RX G c F σ) {n : Nat} (hn : n < 300) (hF : fN F 40 = nI n) {hh k : Nat} (hh8 : hh < 8) (hk : k < 4) {ce un : Int64} {pr : Int32} {K : Int32 → ST → Prop} (hK : ∀ (G' : GX) (σ' : ST), RX G' c (addF F n (nI hh) ce un (nI k) pr) σ' → FrX (G 0 9) σ σ' → GG G G' → K (nI (nfN (n + 1))) σ') : wp_X_addOrder σ (G 6 0) (some (G 1 hh)) ce un (some (G 2 k)) pr K := by
  obtain ⟨hN, hO, hL, hC⟩ := h.ods (by omega) hF
  have hS := h.1
  have hnq : ∀ q, st_tg σ q = none → ∀ i, i < n → ¬ G 3 i = q := fun q hq i hi e => by
    have := (hO.1 i hi).2.1
    rw [e, hq] at this
    cases this
  obtain ⟨F', eF⟩ : ∃ z, z = addF F n (nI hh) ce un (nI k) pr := ⟨_, rfl⟩
  have f1 : ∀ j i, ¬ i = n + 1 → fI F' j i = fI F j i := fun j i hi => by rw [eF]; exact addF_I hi
  have f2 : ∀ j i, ¬ i = n + 1 → fJ F' j i = fJ F j i := fun j i hi => by rw [eF]; exact addF_J hi
  have f3 : ∀ j, 51 ≤ j → fI F' j = fI F j := fun j hj => by rw [eF]; exact addF_o (by omega)
  have f4 : ∀ j, 51 ≤ j → fJ F' j = fJ F j := fun j hj => by rw [eF]; exact addF_oJ (by omega)
  have f5 : ∀ j, 51 ≤ j → fN F' j = fN F j := fun j hj => by rw [eF]; exact addF_N (by omega)
  have f6 : fN F' 40 = nI (n + 1) := by rw [eF]; exact addF_40
  have f7 : fI F' 50 = fI F 50 := by rw [eF]; exact addF_o (by decide)
  obtain ⟨v41, v42, v43, v44, v45, v46, v47, v48, v50⟩ := addF_n (F := F) (n := n) (h := nI hh) (k := nI k) (pr := pr) (ce := ce) (un := un)
  rw [← eF] at v41 v42 v43 v44 v45 v46 v47 v48 v50 hK
  clear eF
  unfold wp_X_addOrder
  refine ⟨hS.1.1, ?_⟩
  rw [hN.2.2.1, nI_1]
  refine x_numberOf (by omega) ⟨hS.1.1, fun q hq σ6 e6 => ?_⟩
  subst e6
  refine x_orderInit (G := G) hq (fun σN hNew => ?_)
  obtain ⟨x1, y1, z1, q1, q2, q3, q4, q5, q6, q7, q8, q9, q10, q11⟩ := hNew
  have hR : RX G c F σN := h.ext x1 (by rw [z1])
  obtain ⟨hN', hO', hL', hC'⟩ := hR.ods (by omega) hF
  obtain ⟨h1, h2, h3, h4, h5, -, ⟨ta, tv, h7⟩, ⟨cw, h8⟩⟩ := hR
  refine ⟨G 0 2, hS.1.2.2.2.1, h1.2.1.2.2.1.1, ?_, fun y hy => by cases hy; exact q1, ?_⟩
  · rw [h1.2.1.2.2.1.2, hN.2.2.1]
    exact vp_in_nI (by omega) (by decide)
  rw [hN.2.2.1, nI_clamp (by omega)]
  intro σU eU
  have t0 : st_tg σU = st_tg σN := by rw [eU, g_tg_uR]
  refine ⟨by rw [t0]; exact h1.1.1, fun σV eV => ?_⟩
  have e23 : st_I σU 3 (G 6 0) = nI n := by rw [eU, g_I_uR]; exact hN'.2.2.1
  rw [e23, nI_1] at eV
  obtain ⟨G', gs, g4, g7, g3n, g3⟩ : ∃ G' : GX, GS G G' ∧ G' 4 = G 4 ∧ G' 7 = G 7 ∧ G' 3 n = q ∧ ∀ i, ¬ i = n → G' 3 i = G 3 i := ⟨fun a b => if a = 3 ∧ b = n then q else G a b, ⟨rfl, rfl, rfl, rfl, rfl⟩, rfl, rfl, if_pos ⟨rfl, rfl⟩, fun i hi => if_neg (fun z => hi z.2)⟩
  have oth : ∀ i, i < n → OR1 G' F' σV i := fun i hi => by
    have a1 := ((hO'.1 i hi).uR (m := n) (x := some q) (by omega)).F (F' := F') (fun j => f1 j _ (by omega)) (fun j => f2 j _ (by omega))
    rw [← eU] at a1
    have a2 : OR1 G F' (st_sI σU 3 (G 6 0) (nI (n + 1))) i := a1
    rw [← eV] at a2
    exact a2.G gs (g3 i (by omega))
  have new : OR1 G' F' σV n := by
    unfold OR1 lnk
    rw [gs.1, gs.2.1, gs.2.2.1, g3n, v41, v42, v43, v44, v45, v46, v47, v48, v50]
    have w1 : st_eR σV (G 0 2) n = some q := by rw [eV, g_eR_sI, eU, g_eR_uR, if_pos ⟨rfl, rfl⟩]
    have w2 : st_tg σV q = some 5 := by rw [eV, g_tg_sI, t0]; exact q1
    have w3 : ∀ f, ¬ f = 3 → st_I σV f q = st_I σN f q := fun f hf => by rw [eV, g_I_sI, if_neg (fun z => hf z.1), eU, g_I_uR]
    have w4 : st_J σV = st_J σN := by rw [eV, g_J_sI, eU, g_J_uR]
    have w5 : st_R σV = st_R σN := by rw [eV, g_R_sI, eU, g_R_uR]
    rw [w4, w5, w3 200 (by decide), w3 205 (by decide), w3 206 (by decide)]
    exact ⟨w1, w2, q2, ⟨hh, hh8, q3, rfl⟩, q4, q5, ⟨k, hk, q6, rfl⟩, q7, q8, by rw [hN.2.2.2 (n + 1) (by omega), if_pos rfl]; exact q9, Or.inl ⟨q10, rfl⟩, Or.inl ⟨q11, rfl⟩⟩
  refine hK G' σV ⟨?_, ?_, h3.F f4 f3, ?_, ?_, ⟨n + 1, ⟨by omega, f6, ?_, ?_⟩, ⟨fun i hi => ?_, fun i j hi hj => ?_⟩, fun j hj => ?_, fun j hj => ?_⟩, ⟨ta, tv, ?_⟩, ⟨cw, ?_⟩⟩ ?_ ⟨gs.1, gs.2.2.2.1, gs.2.2.2.2, g7⟩
  · refine SX.G gs ?_
    rw [eV, eU]
    exact h1.uR h1.2.1.2.2.1.1 (by decide) (by decide)
  · refine OFF.G gs (OFF.F f4 f3 ?_)
    rw [eV, eU]
    exact h2
  · refine CUR.G gs (CUR.F f4 ?_)
    rw [eV, eU]
    exact h4
  · refine TOT.G gs (TOT.F f4 ?_)
    rw [eV, eU]
    exact h5
  · rw [gs.2.2.2.2, eV, g_I_sI, if_pos ⟨rfl, rfl⟩]
  · intro i hi
    rw [f7]
    exact hN.2.2.2 i (by omega)
  · by_cases e : i = n
    · rw [e]; exact new
    · exact oth i (by omega)
  · by_cases ei : i = n
    · by_cases ej : j = n
      · intro _; omega
      · rw [ei, g3n, g3 j ej]
        exact fun z => absurd z.symm (hnq q hq j (by omega))
    · by_cases ej : j = n
      · rw [ej, g3n, g3 i ei]
        exact fun z => absurd z (hnq q hq i (by omega))
      · rw [g3 i ei, g3 j ej]
        exact hO.2 i j (by omega) (by omega)
  · have e1 : cntL F' j (n + 1) = cntL F j n := by
      rw [show cntL F' j (n + 1) = cntL F' j n + (if fI F' 48 (n + 1) = nI j then 1 else 0) from rfl, cntL_low (F := F) (F' := F') j n (fun i hi => f1 48 i (by omega)), v48, if_neg]
      · rfl
      · intro z
        have := congrArg Int32.toInt z
        rw [nI_toInt (by omega)] at this
        have e9 : (-1 : Int32).toInt = -1 := by decide
        omega
    rw [e1, gs.2.1, eV, g_I_sI, if_neg (fun z => absurd z.1 (by decide)), eU, g_I_uR]
    exact hL' j hj
  · obtain ⟨ch, c1, c2, c3, c4, c5⟩ := hC' j hj
    have w5 : st_R σV = st_R σN := by rw [eV, g_R_sI, eU, g_R_uR]
    refine ⟨ch, ?_, by rw [f3 58 (by decide)]; exact c2, prf_low ch (fun i hi => f1 45 _ (by have := (c4 i hi).1; omega)) (fun i hi => by rw [f3 59 (by decide)]) c3, fun i hi => ⟨by have := (c4 i hi).1; omega, ?_⟩, ?_⟩
    · rw [gs.2.1, w5]
      exact chn_move ch _ (fun i hi => ⟨g3 i (by have := (c4 i hi).1; omega), by rw [w5]⟩) c1
    · rw [f1 41 _ (by have := (c4 i hi).1; omega)]
      exact (c4 i hi).2
    · rw [show cntP F' (n + 1) = cntP F' n + (if fI F' 41 (n + 1) = 1 then 1 else 0) from rfl, cntP_low (F := F) (F' := F') n (fun i hi => f1 41 i (by omega))]
      omega
  · refine TRS.G gs g4 g7 (TRS.F f5 f4 f3 ?_)
    rw [eV, eU]
    exact h7.uR (tg_ne h1.2.1.2.2.2.1.1 h1.2.1.2.2.1.1 (by decide))
  · refine COL.G gs (COL.F f5 f4 f3 ?_)
    rw [eV, eU]
    exact h8.uR (tg_ne h1.2.1.2.2.2.2.1.1 h1.2.1.2.2.1.1 (by decide))
  · rw [eV, eU]
    exact (y1.tr FrX.uR).tr (FrX.sI (by decide))
