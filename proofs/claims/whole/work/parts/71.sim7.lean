/-! ask -/
def NewT (G : GX) (σ σN : ST) (q : Nat) (of : Int32) (nu : Int64) (pr : Int32) (t : Int64) : Prop :=
  Ext σ σN ∧ FrX (G 0 9) σ σN ∧ st_eJ σN = st_eJ σ ∧ st_tg σN q = some 6 ∧ st_I σN 240 q = of ∧ st_J σN 241 q = nu ∧ st_I σN 242 q = pr ∧ st_J σN 243 q = t ∧ st_I σN 244 q = -1
theorem x_tryInit {G : GX} {σ : ST} {q : Nat} (hq : st_tg σ q = none) {of : Int32} {nu : Int64} {pr : Int32} {t : Int64} {K : ST → Prop} (hK : ∀ σN, NewT G σ σN q of nu pr t → K σN) : wp_Try_init (st_new σ q 6) q of nu pr t K := by
  unfold wp_Try_init
  refine ⟨by rw [g_tg_new, if_pos rfl], ?_⟩
  intro σa ea σb eb σd ed σe ee σN eN
  have x0 : Ext σ (st_new σ q 6) := Ext.nw hq
  have y0 : FrX (G 0 9) σ (st_new σ q 6) := FrX.nw hq
  have xa : Ext σ σa := by rw [ea]; exact x0.sI hq
  have ya : FrX (G 0 9) σ σa := by rw [ea]; exact y0.tr (FrX.sI (by decide))
  have xb : Ext σ σb := by rw [eb]; exact xa.sI hq
  have yb : FrX (G 0 9) σ σb := by rw [eb]; exact ya.tr (FrX.sI (by decide))
  have xd : Ext σ σd := by rw [ed]; exact xb.sJ hq
  have yd : FrX (G 0 9) σ σd := by rw [ed]; exact yb.tr FrX.sJ
  have xe : Ext σ σe := by rw [ee]; exact xd.sI hq
  have ye : FrX (G 0 9) σ σe := by rw [ee]; exact yd.tr (FrX.sI (by decide))
  have xN : Ext σ σN := by rw [eN]; exact xe.sJ hq
  have yN : FrX (G 0 9) σ σN := by rw [eN]; exact ye.tr FrX.sJ
  refine hK σN ⟨xN, yN, ?_, ?_, ?_, ?_, ?_, ?_, ?_⟩
  · rw [eN, g_eJ_sJ, ee, g_eJ_sI, ed, g_eJ_sJ, eb, g_eJ_sI, ea, g_eJ_sI, g_eJ_new]
  · rw [eN, g_tg_sJ, ee, g_tg_sI, ed, g_tg_sJ, eb, g_tg_sI, ea, g_tg_sI, g_tg_new, if_pos rfl]
  · rw [eN, g_I_sJ, ee, g_I_sI, if_neg (fun z => absurd z.1 (by decide)), ed, g_I_sJ, eb, g_I_sI, if_pos ⟨rfl, rfl⟩]
  · rw [eN, g_J_sJ, if_neg (fun z => absurd z.1 (by decide)), ee, g_J_sI, ed, g_J_sJ, if_pos ⟨rfl, rfl⟩]
  · rw [eN, g_I_sJ, ee, g_I_sI, if_pos ⟨rfl, rfl⟩]
  · rw [eN, g_J_sJ, if_pos ⟨rfl, rfl⟩]
  · rw [eN, g_I_sJ, ee, g_I_sI, if_neg (fun z => absurd z.1 (by decide)), ed, g_I_sJ, eb, g_I_sI, if_neg (fun z => absurd z.1 (by decide)), ea, g_I_sI, if_pos ⟨rfl, rfl⟩]
def askF (F : FS) (a : Nat) (of : Int32) (nu : Int64) (pr : Int32) (t : Int64) : FS := fsN (fsJ (fsI (fsJ (fsI F 62 (a % 128) of) 63 (a % 128) nu) 64 (a % 128) pr) 65 (a % 128) t) 60 (nI (a + 1))
theorem askF_I {F : FS} {a : Nat} {of : Int32} {nu : Int64} {pr : Int32} {t : Int64} {j : Nat} (h1 : ¬ j = 62) (h2 : ¬ j = 64) : fI (askF F a of nu pr t) j = fI F j := by
  funext i
  unfold askF
  rw [i_sN, i_sJ, i_sI, if_neg (fun z => h2 z.1), i_sJ, i_sI, if_neg (fun z => h1 z.1)]
theorem askF_J {F : FS} {a : Nat} {of : Int32} {nu : Int64} {pr : Int32} {t : Int64} {j : Nat} (h1 : ¬ j = 63) (h2 : ¬ j = 65) : fJ (askF F a of nu pr t) j = fJ F j := by
  funext i
  unfold askF
  rw [j_sN, j_sJ, if_neg (fun z => h2 z.1), j_sI, j_sJ, if_neg (fun z => h1 z.1), j_sI]
theorem askF_N {F : FS} {a : Nat} {of : Int32} {nu : Int64} {pr : Int32} {t : Int64} {j : Nat} (h1 : ¬ j = 60) : fN (askF F a of nu pr t) j = fN F j := by
  unfold askF
  rw [n_sN, if_neg h1, n_sJ, n_sI, n_sJ, n_sI]
theorem askF_i {F : FS} {a : Nat} {of : Int32} {nu : Int64} {pr : Int32} {t : Int64} {j i : Nat} (h : ¬ i = a % 128) : fI (askF F a of nu pr t) j i = fI F j i ∧ fJ (askF F a of nu pr t) j i = fJ F j i := by
  unfold askF
  rw [i_sN, i_sJ, i_sI, if_neg (fun z => h z.2), i_sJ, i_sI, if_neg (fun z => h z.2), j_sN, j_sJ, if_neg (fun z => h z.2), j_sI, j_sJ, if_neg (fun z => h z.2), j_sI]
  exact ⟨rfl, rfl⟩
theorem askF_a {F : FS} {a : Nat} {of : Int32} {nu : Int64} {pr : Int32} {t : Int64} : fN (askF F a of nu pr t) 60 = nI (a + 1) ∧ fI (askF F a of nu pr t) 62 (a % 128) = of ∧ fJ (askF F a of nu pr t) 63 (a % 128) = nu ∧ fI (askF F a of nu pr t) 64 (a % 128) = pr ∧ fJ (askF F a of nu pr t) 65 (a % 128) = t := by
  unfold askF
  refine ⟨by rw [n_sN, if_pos rfl], ?_, ?_, ?_, ?_⟩
  · rw [i_sN, i_sJ, i_sI, if_neg (fun z => absurd z.1 (by decide)), i_sJ, i_sI, if_pos ⟨rfl, rfl⟩]
  · rw [j_sN, j_sJ, if_neg (fun z => absurd z.1 (by decide)), j_sI, j_sJ, if_pos ⟨rfl, rfl⟩]
  · rw [i_sN, i_sJ, i_sI, if_pos ⟨rfl, rfl⟩]
  · rw [j_sN, j_sJ, if_pos ⟨rfl, rfl⟩]
theorem OR1.F51 {G : GX} {F F' : FS} {σ : ST} {i : Nat} (hI : ∀ j, j ≤ 59 → fI F' j = fI F j) (hJ : ∀ j, j ≤ 50 → fJ F' j = fJ F j) (h : OR1 G F σ i) : OR1 G F' σ i := by
  unfold OR1
  rw [hI 46 (by decide), hI 44 (by decide), hI 45 (by decide), hI 41 (by decide), hI 50 (by decide), hI 48 (by decide), hI 47 (by decide), hJ 42 (by decide), hJ 43 (by decide), hJ 49 (by decide)]
  exact h
theorem ODS.F51 {G : GX} {F F' : FS} {σ : ST} (hI : ∀ j, j ≤ 59 → fI F' j = fI F j) (hJ : ∀ j, j ≤ 50 → fJ F' j = fJ F j) (hN : fN F' 40 = fN F 40) (h : ODS G F σ) : ODS G F' σ := by
  refine ODS.keep h (fun n q => ⟨q.1, by rw [hN]; exact q.2.1, q.2.2.1, fun i hi => by rw [hI 50 (by decide)]; exact q.2.2.2 i hi⟩) (fun n q => ⟨fun i hi => (q.1 i hi).F51 hI hJ, q.2⟩) (hI 41 (by decide)) (hI 45 (by decide)) (hI 48 (by decide)) (hI 58 (by decide)) (hI 59 (by decide)) rfl rfl rfl
/-- what X's cells of orders see of the class's object and arrays -/
theorem ODS.to {G G' : GX} {F : FS} {σ σ' : ST} (h : ODS G F σ) (gs : GS G G') (g3 : G' 3 = G 3) (c1 : st_I σ' 3 (G 6 0) = st_I σ 3 (G 6 0)) (c2 : st_eR σ' (G 0 2) = st_eR σ (G 0 2)) (cT : st_tg σ' = st_tg σ) (cI : ∀ f, 100 ≤ f → st_I σ' f = st_I σ f) (cJ : st_J σ' = st_J σ) (cR : st_R σ' = st_R σ) : ODS G' F σ' := by
  obtain ⟨n, ⟨n1, n2, n3, n4⟩, ⟨d1, d2⟩, hL, hC⟩ := h
  refine ⟨n, ⟨n1, n2, by rw [gs.2.2.2.2, c1]; exact n3, n4⟩, ⟨fun i hi => OR1.G gs (by rw [g3]) ?_, by rw [g3]; exact d2⟩, fun k hk => ?_, fun k hk => ?_⟩
  · have := d1 i hi
    unfold OR1 at this ⊢
    rw [c2, cT, cI 200 (by decide), cI 205 (by decide), cI 206 (by decide), cJ, cR]
    exact this
  · rw [gs.2.1, cI 164 (by decide)]
    exact hL k hk
  · obtain ⟨ch, a1, a2⟩ := hC k hk
    refine ⟨ch, ?_, a2⟩
    rw [gs.2.1, cR]
    exact chn_move ch _ (fun i hi => ⟨by rw [g3], by rw [cR]⟩) a1
theorem s_ask {G : GX} {c : Nat} {F : FS} {σ : ST} (hc : c ≤ 513) (p7 : G 7 0 = 0) (h : RX G c F σ) (p : Int32) (nu : Int64) (pr : Int32) (t : Int64) : SimR G c F σ (fun K => wp_X_ask σ (G 6 0) p nu pr t K) (fun K => wf_M_ask F p nu pr t K) := by
  obtain ⟨a, v, hT⟩ := h.2.2.2.2.2.2.1
  obtain ⟨e60, e5, e61, e6, hva, hav, hac, hTT, hTi⟩ := id hT
  rw [p7, Nat.add_zero] at e6
  rcases off_or p with ⟨k, hk, rfl⟩ | hp
  · by_cases ht : 0 ≤ t
    · have ht1 := (lg_cmp_ge t 0).mpr ht
      have esub : nI a - nI v = nI (a - v) := pk_sub hva
      by_cases h20 : a - v = 20
      · refine sim_same h (-104) (fun K' q => ?_) (fun K q => ?_)
        · unfold wf_M_ask
          refine mo_in hk ⟨fun z => absurd z (by decide), fun _ => ⟨fun _ => ?_, fun z => absurd ht1 z⟩⟩
          rw [e60, e61, esub, h20]
          exact ⟨fun z => absurd rfl z, fun _ => q⟩
        · unfold wp_X_ask
          refine ⟨h.1.1.1, xo_in h.1 hk ⟨fun z => (by cases z), fun _ => ⟨fun _ => ⟨h.1.1.1, ?_⟩, fun z => absurd ht1 z⟩⟩⟩
          rw [e5, e6, esub, h20]
          exact ⟨fun z => absurd z (by decide), fun _ => q⟩
      · have hlt : a - v < 20 := by omega
        have r128 : nI a - nI a / 128 * 128 = nI (a % 128) := pk_rem (a := a) (d := 128) (by omega) (by decide) (by decide)
        have hi128 : vp_in (nI (a % 128)) 128 := vp_in_nI (Nat.mod_lt _ (by decide)) (by decide)
        have c128 : (nI (a % 128)).toNatClampNeg = a % 128 := nI_clamp (by omega)
        refine ⟨nI a, askF F a (nI k) nu pr t, fun K' q => ?_, fun K hK => ?_⟩
        · unfold wf_M_ask
          refine mo_in hk ⟨fun z => absurd z (by decide), fun _ => ⟨fun _ => ?_, fun z => absurd ht1 z⟩⟩
          rw [e60, e61, esub, r128, c128]
          refine ⟨fun _ => ⟨hi128, fun F2 e2 => ?_⟩, fun z => absurd ((nI_eq (a := a - v) (b := 20) (by omega) (by decide)).mp z) h20⟩
          have n2 : fN F2 60 = nI a := by rw [e2, n_sI]; exact e60
          rw [n2, r128, c128]
          refine ⟨hi128, fun F4 e4 => ?_⟩
          have n4 : fN F4 60 = nI a := by rw [e4, n_sJ]; exact n2
          rw [n4, r128, c128]
          refine ⟨hi128, fun F6 e6' => ?_⟩
          have n6 : fN F6 60 = nI a := by rw [e6', n_sI]; exact n4
          rw [n6, r128, c128]
          refine ⟨hi128, fun F8 e8 => ?_⟩
          have n8 : fN F8 60 = nI a := by rw [e8, n_sJ]; exact n6
          rw [n8, nI_1]
          intro F10 e10
          have e11 : F10 = askF F a (nI k) nu pr t := by rw [e10, e8, e6', e4, e2]; rfl
          rw [e11, askF_a.1, nI_pred]
          exact q
        · have hq9 : wp_X_ask σ (G 6 0) (nI k) nu pr t K := by
            unfold wp_X_ask
            refine ⟨h.1.1.1, xo_in h.1 hk ⟨fun z => (by cases z), fun _ => ⟨fun _ => ⟨h.1.1.1, ?_⟩, fun z => absurd ht1 z⟩⟩⟩
            rw [e5, e6, esub]
            refine ⟨fun _ => x_place (by omega) ?_, fun z => absurd (nI_lt (a := a - v) (b := 20) hlt (by decide)) z⟩
            intro q hq σ9 e9
            subst e9
            refine x_tryInit (G := G) hq (fun σN hNew => ?_)
            obtain ⟨x1, y1, z1, q1, q2, q3, q4, q5, q6⟩ := hNew
            have hR : RX G c F σN := h.ext x1 (by rw [z1])
            obtain ⟨h1, h2, h3, h4, h5, h6, -, ⟨cw, h8⟩⟩ := id hR
            have hTN : ∀ t, t < a → a ≤ t + 100 → TR1 G F v σN t := fun t hta htk => by
              obtain ⟨s1, s2, s3, s4, s5, s6, s7⟩ := hTT t hta htk
              obtain ⟨w1, -, w3, w4, -, -⟩ := x1.at s2
              exact ⟨by rw [(x1.at h.1.2.1.2.2.2.1.1).2.2.2.2.2]; exact s1, w1, by rw [w3 240 rfl]; exact s3, by rw [w4]; exact s4, by rw [w3 242 rfl]; exact s5, by rw [w4]; exact s6, by rw [w3 244 rfl]; exact s7⟩
            have e5N : st_I σN 5 (G 6 0) = nI a := by rw [(x1.at h.1.1.1).2.2.1 5 rfl]; exact e5
            have e6N : st_I σN 6 (G 6 0) = nI v := by rw [(x1.at h.1.1.1).2.2.1 6 rfl]; exact e6
            refine ⟨G 0 4, h.1.1.2.2.2.2.1, h1.2.1.2.2.2.1.1, ?_, fun y hy => by cases hy; exact q1, ?_⟩
            · rw [h1.2.1.2.2.2.1.2]
              exact vp_in_nI (Nat.mod_lt _ (by decide)) (by decide)
            rw [nI_clamp (by omega)]
            intro σU eU
            have t0 : st_tg σU = st_tg σN := by rw [eU, g_tg_uR]
            refine ⟨by rw [t0]; exact h1.1.1, fun σV eV => ?_⟩
            have e5U : st_I σU 5 (G 6 0) = nI a := by rw [eU, g_I_uR]; exact e5N
            rw [e5U, nI_1] at eV
            rw [e5U]
            obtain ⟨G', gs, g3, g7, g4n, g4⟩ : ∃ G' : GX, GS G G' ∧ G' 3 = G 3 ∧ G' 7 = G 7 ∧ G' 4 a = q ∧ ∀ i, ¬ i = a → G' 4 i = G 4 i := ⟨fun x b => if x = 4 ∧ b = a then q else G x b, ⟨rfl, rfl, rfl, rfl, rfl⟩, rfl, rfl, if_pos ⟨rfl, rfl⟩, fun i hi => if_neg (fun z => hi z.2)⟩
            obtain ⟨F', eF⟩ : ∃ z, z = askF F a (nI k) nu pr t := ⟨_, rfl⟩
            have f1 : ∀ j, ¬ j = 62 → ¬ j = 64 → fI F' j = fI F j := fun j a1 a2 => by rw [eF]; exact askF_I a1 a2
            have f2 : ∀ j, ¬ j = 63 → ¬ j = 65 → fJ F' j = fJ F j := fun j a1 a2 => by rw [eF]; exact askF_J a1 a2
            have f3 : ∀ j, ¬ j = 60 → fN F' j = fN F j := fun j a1 => by rw [eF]; exact askF_N a1
            have f4 : ∀ j i, ¬ i = a % 128 → fI F' j i = fI F j i ∧ fJ F' j i = fJ F j i := fun j i a1 => by rw [eF]; exact askF_i a1
            obtain ⟨v60, v62, v63, v64, v65⟩ := askF_a (F := F) (a := a) (of := nI k) (nu := nu) (pr := pr) (t := t)
            rw [← eF] at v60 v62 v63 v64 v65 hK
            clear eF
            have vT : st_tg σV = st_tg σN := by rw [eV, g_tg_sI, t0]
            have vJ : st_J σV = st_J σN := by rw [eV, g_J_sI, eU, g_J_uR]
            have vR : st_R σV = st_R σN := by rw [eV, g_R_sI, eU, g_R_uR]
            have vI : ∀ f, ¬ f = 5 → st_I σV f = st_I σN f := fun f hf => by
              funext b
              rw [eV, g_I_sI, if_neg (fun z => hf z.1), eU, g_I_uR]
            have vE : ∀ b, ¬ b = G 0 4 → st_eR σV b = st_eR σN b := fun b hb => by
              funext j
              rw [eV, g_eR_sI, eU, g_eR_uR, if_neg (fun z => hb z.1)]
            have vE4 : ∀ j, ¬ j = a % 100 → st_eR σV (G 0 4) j = st_eR σN (G 0 4) j := fun j hj => by rw [eV, g_eR_sI, eU, g_eR_uR, if_neg (fun z => hj z.2)]
            have vE4a : st_eR σV (G 0 4) (a % 100) = some q := by rw [eV, g_eR_sI, eU, g_eR_uR, if_pos ⟨rfl, rfl⟩]
            have hnq : ∀ i, i < a → a ≤ i + 100 → ¬ G 4 i = q := fun i hi hk2 e => by
              have := (hTT i hi hk2).2.1
              rw [e, hq] at this
              cases this
            refine hK G' σV ⟨?_, ?_, ?_, ?_, ?_, ?_, ⟨a + 1, v, v60, ?_, ?_, ?_, by omega, by omega, by omega, fun s hs hsk => ?_, fun i j hi hj hik hjk => ?_⟩, ⟨cw, ?_⟩⟩ ?_ ⟨gs.1, gs.2.2.2.1, gs.2.2.2.2, g7⟩
            · refine SX.G gs ?_
              rw [eV, eU]
              exact h1.uR h1.2.1.2.2.2.1.1 (by decide) (by decide)
            · refine OFF.G gs ?_
              unfold OFF
              rw [f2 52 (by decide) (by decide), f2 53 (by decide) (by decide), f2 56 (by decide) (by decide), f2 57 (by decide) (by decide), f1 54 (by decide) (by decide), f1 55 (by decide) (by decide), vJ, vI 163 (by decide), vI 165 (by decide)]
              exact h2
            · unfold OFR
              rw [f2 53 (by decide) (by decide), f1 54 (by decide) (by decide), f1 55 (by decide) (by decide)]
              exact h3
            · refine CUR.G gs ?_
              unfold CUR
              rw [f2 51 (by decide) (by decide), vJ]
              exact h4
            · refine TOT.G gs ?_
              unfold TOT
              rw [f2 71 (by decide) (by decide), eV, g_eJ_sI, eU, g_eJ_uR]
              exact h5
            · exact ODS.to (ODS.F51 (fun j hj => f1 j (by omega) (by omega)) (fun j hj => f2 j (by omega) (by omega)) (f3 40 (by decide)) h6) gs g3 (by rw [vI 3 (by decide)]) (vE _ (tg_ne h1.2.1.2.2.1.1 h1.2.1.2.2.2.1.1 (by decide))) vT (fun f hf => vI f (by omega)) vJ vR
            · rw [gs.2.2.2.2, eV, g_I_sI, if_pos ⟨rfl, rfl⟩]
            · rw [f3 61 (by decide)]; exact e61
            · rw [gs.2.2.2.2, g7, p7, vI 6 (by decide)]; exact e6N
            · unfold TR1
              by_cases es : s = a
              · rw [es, gs.1, g4n, v62, v63, v64, v65, vT, vJ, vI 240 (by decide), vI 242 (by decide), vI 244 (by decide), if_neg (by omega)]
                exact ⟨vE4a, q1, q2, q3, q4, q5, q6⟩
              · obtain ⟨s1, s2, s3, s4, s5, s6, s7⟩ := hTN s (by omega) (by omega)
                have m1 : ¬ s % 100 = a % 100 := by omega
                have m2 : ¬ s % 128 = a % 128 := by omega
                rw [gs.1, g4 s es, vT, vJ, vI 240 (by decide), vI 242 (by decide), vI 244 (by decide), vE4 _ m1, (f4 62 _ m2).1, (f4 63 _ m2).2, (f4 64 _ m2).1, (f4 65 _ m2).2, (f4 66 _ m2).1]
                exact ⟨s1, s2, s3, s4, s5, s6, s7⟩
            · by_cases ei : i = a
              · by_cases ej : j = a
                · intro _; omega
                · rw [ei, g4n, g4 j ej]
                  exact fun z => absurd z.symm (hnq j (by omega) (by omega))
              · by_cases ej : j = a
                · rw [ej, g4n, g4 i ei]
                  exact fun z => absurd z (hnq i (by omega) (by omega))
                · rw [g4 i ei, g4 j ej]
                  exact hTi i j (by omega) (by omega) (by omega) (by omega)
            · refine COL.G gs ?_
              unfold COL CO1
              rw [f3 67 (by decide), f1 68 (by decide) (by decide), f2 69 (by decide) (by decide), f1 70 (by decide) (by decide), vT, vR, vJ, vI 8 (by decide), vI 82 (by decide), vE _ (tg_ne h1.2.1.2.2.2.2.1.1 h1.2.1.2.2.2.1.1 (by decide))]
              exact h8
            · rw [eV, eU]
              exact (y1.tr FrX.uR).tr (FrX.sI (by decide))
          exact hq9
    · have ht1 : ¬ 0 ≤ lg_cmp t 0 := fun z => ht ((lg_cmp_ge t 0).mp z)
      refine sim_same h (-102) (fun K' q => ?_) (fun K q => ?_)
      · unfold wf_M_ask
        exact mo_in hk ⟨fun z => absurd z (by decide), fun _ => ⟨fun z => absurd z ht1, fun _ => q⟩⟩
      · unfold wp_X_ask
        exact ⟨h.1.1.1, xo_in h.1 hk ⟨fun z => (by cases z), fun _ => ⟨fun z => absurd z ht1, fun _ => q⟩⟩⟩
  · refine sim_same h (-102) (fun K' q => ?_) (fun K q => ?_)
    · unfold wf_M_ask
      exact mo_out hp ⟨fun _ => q, fun z => absurd rfl z⟩
    · unfold wp_X_ask
      exact ⟨h.1.1.1, xo_out h.1 hp ⟨fun _ => q, fun z => absurd rfl z⟩⟩
