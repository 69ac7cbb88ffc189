/-! collect -/
theorem fsJ_comm {F : FS} {j i j' i' : Nat} {v v' : Int64} (h : ¬ j = j') : fsJ (fsJ F j i v) j' i' v' = fsJ (fsJ F j' i' v') j i v := by
  have e : (fun g x => if g = j' ∧ x = i' then v' else fJ (fsJ F j i v) g x) = (fun g x => if g = j ∧ x = i then v else fJ (fsJ F j' i' v') g x) := by
    funext g x
    rw [j_sJ, j_sJ]
    by_cases a : g = j' ∧ x = i'
    · rw [if_pos a, if_neg (fun b => h (b.1.symm.trans a.1)), if_pos a]
    · rw [if_neg a, if_neg a]
  show (fN F, fI F, (fun g x => if g = j' ∧ x = i' then v' else fJ (fsJ F j i v) g x)) = (fN F, fI F, (fun g x => if g = j ∧ x = i then v else fJ (fsJ F j' i' v') g x))
  rw [e]
def NewC (G : GX) (σ σN : ST) (q : Nat) (x : Option Nat) (ce : Int64) (d : Int32) : Prop :=
  Ext σ σN ∧ FrX (G 0 9) σ σN ∧ st_eJ σN = st_eJ σ ∧ st_tg σN q = some 2 ∧ st_R σN 80 q = x ∧ st_J σN 81 q = ce ∧ st_I σN 82 q = d
theorem x_colInit {G : GX} {σ : ST} {q : Nat} (hq : st_tg σ q = none) {x : Option Nat} {ce : Int64} {d : Int32} {K : ST → Prop} (hK : ∀ σN, NewC G σ σN q x ce d → K σN) : wp_Collected_init (st_new σ q 2) q x ce d K := by
  unfold wp_Collected_init
  refine ⟨by rw [g_tg_new, if_pos rfl], ?_⟩
  intro σa ea σb eb σN eN
  have xa : Ext σ σa := by rw [ea]; exact (Ext.nw hq).sR hq
  have ya : FrX (G 0 9) σ σa := by rw [ea]; exact (FrX.nw hq).tr (FrX.sR (by decide))
  have xb : Ext σ σb := by rw [eb]; exact xa.sJ hq
  have yb : FrX (G 0 9) σ σb := by rw [eb]; exact ya.tr FrX.sJ
  have xN : Ext σ σN := by rw [eN]; exact xb.sI hq
  have yN : FrX (G 0 9) σ σN := by rw [eN]; exact yb.tr (FrX.sI (by decide))
  refine hK σN ⟨xN, yN, ?_, ?_, ?_, ?_, ?_⟩
  · rw [eN, g_eJ_sI, eb, g_eJ_sJ, ea, g_eJ_sR, g_eJ_new]
  · rw [eN, g_tg_sI, eb, g_tg_sJ, ea, g_tg_sR, g_tg_new, if_pos rfl]
  · rw [eN, g_R_sI, eb, g_R_sJ, ea, g_R_sR, if_pos ⟨rfl, rfl⟩]
  · rw [eN, g_J_sI, eb, g_J_sJ, if_pos ⟨rfl, rfl⟩]
  · rw [eN, g_I_sI, if_pos ⟨rfl, rfl⟩]
def colF (F : FS) (w : Nat) (p : Int32) (ce : Int64) (d : Int32) : FS := fsN (fsI (fsJ (fsI F 68 w p) 69 w ce) 70 w d) 67 (nI (w + 1))
theorem colF_I {F : FS} {w : Nat} {p : Int32} {ce : Int64} {d : Int32} {j : Nat} (h1 : ¬ j = 68) (h2 : ¬ j = 70) : fI (colF F w p ce d) j = fI F j := by
  funext i
  unfold colF
  rw [i_sN, i_sI, if_neg (fun z => h2 z.1), i_sJ, i_sI, if_neg (fun z => h1 z.1)]
theorem colF_J {F : FS} {w : Nat} {p : Int32} {ce : Int64} {d : Int32} {j : Nat} (h1 : ¬ j = 69) : fJ (colF F w p ce d) j = fJ F j := by
  funext i
  unfold colF
  rw [j_sN, j_sI, j_sJ, if_neg (fun z => h1 z.1), j_sI]
theorem colF_N {F : FS} {w : Nat} {p : Int32} {ce : Int64} {d : Int32} {j : Nat} (h1 : ¬ j = 67) : fN (colF F w p ce d) j = fN F j := by
  unfold colF
  rw [n_sN, if_neg h1, n_sI, n_sJ, n_sI]
theorem colF_i {F : FS} {w : Nat} {p : Int32} {ce : Int64} {d : Int32} {j i : Nat} (h : ¬ i = w) : fI (colF F w p ce d) j i = fI F j i ∧ fJ (colF F w p ce d) j i = fJ F j i := by
  unfold colF
  rw [i_sN, i_sI, if_neg (fun z => h z.2), i_sJ, i_sI, if_neg (fun z => h z.2), j_sN, j_sI, j_sJ, if_neg (fun z => h z.2), j_sI]
  exact ⟨rfl, rfl⟩
theorem colF_w {F : FS} {w : Nat} {p : Int32} {ce : Int64} {d : Int32} : fN (colF F w p ce d) 67 = nI (w + 1) ∧ fI (colF F w p ce d) 68 w = p ∧ fJ (colF F w p ce d) 69 w = ce ∧ fI (colF F w p ce d) 70 w = d := by
  unfold colF
  refine ⟨by rw [n_sN, if_pos rfl], ?_, ?_, ?_⟩
  · rw [i_sN, i_sI, if_neg (fun z => absurd z.1 (by decide)), i_sJ, i_sI, if_pos ⟨rfl, rfl⟩]
  · rw [j_sN, j_sI, j_sJ, if_pos ⟨rfl, rfl⟩]
  · rw [i_sN, i_sI, if_pos ⟨rfl, rfl⟩]
theorem RX.col {G : GX} {c : Nat} {F : FS} {σ : ST} (h : RX G c F σ) {w : Nat} (e67 : fN F 67 = nI w) (hw : w < 100) : COL G F w σ := by
  obtain ⟨w', q⟩ := h.2.2.2.2.2.2.2
  have e : w' = w := (nI_eq (by have := q.1; omega) (by omega)).mp (q.2.1.symm.trans e67)
  subst e
  exact q
/-- a collected sum comes in -/
theorem x_col {G : GX} {c : Nat} {F : FS} {σ : ST} (h : RX G c F σ) {w : Nat} (hw : w < 100) (e67 : fN F 67 = nI w) {k : Nat} (hk : k < 8) {ce : Int64} {d : Int32} {q : Nat} (hq : st_tg σ q = none) {K : Int32 → ST → Prop} (hK : ∀ σ', RX G c (colF F w (nI k) ce d) σ' → FrX (G 0 9) σ σ' → K (nI (w + 1)) σ') : wp_Collected_init (st_new σ q 2) q (some (G 1 k)) ce d (fun σ39 => ∃ a40 : Nat, st_R σ 7 (G 6 0) = some a40 ∧ st_tg σ39 a40 = some 312 ∧ (vp_in (st_I σ 8 (G 6 0)) (st_ln σ39 a40) ∧ ((∀ y : Nat, some q = some y → st_tg σ39 y = some 2) ∧ (∀ σ45 : ST, σ45 = st_uR σ39 a40 (Int32.toNatClampNeg (st_I σ 8 (G 6 0))) (some q) → (st_tg σ45 (G 6 0) = some 0 ∧ (∀ σ49 : ST, σ49 = st_sI σ45 8 (G 6 0) (st_I σ45 8 (G 6 0) + 1) → K (st_I σ49 8 (G 6 0)) σ49)))))) := by
  refine x_colInit (G := G) hq (fun σN hNew => ?_)
  obtain ⟨x1, y1, z1, q1, q2, q3, q4⟩ := hNew
  have hR : RX G c F σN := h.ext x1 (by rw [z1])
  obtain ⟨h1, h2, h3, h4, h5, h6, ⟨ta, tv, h7⟩, -⟩ := id hR
  obtain ⟨-, -, e8, hCC⟩ := hR.col e67 hw
  have e8o : st_I σ 8 (G 6 0) = nI w := (h.col e67 hw).2.2.1
  rw [e8o]
  refine ⟨G 0 7, h.1.1.2.2.2.2.2.1, h1.2.1.2.2.2.2.1.1, ?_, fun y hy => by cases hy; exact q1, ?_⟩
  · rw [h1.2.1.2.2.2.2.1.2]
    exact vp_in_nI hw (by decide)
  rw [nI_clamp (by omega)]
  intro σU eU
  have t0 : st_tg σU = st_tg σN := by rw [eU, g_tg_uR]
  refine ⟨by rw [t0]; exact h1.1.1, fun σV eV => ?_⟩
  have e8U : st_I σU 8 (G 6 0) = nI w := by rw [eU, g_I_uR]; exact e8
  rw [e8U, nI_1] at eV
  have e8V : st_I σV 8 (G 6 0) = nI (w + 1) := by rw [eV, g_I_sI, if_pos ⟨rfl, rfl⟩]
  rw [e8V]
  obtain ⟨F', eF⟩ : ∃ z, z = colF F w (nI k) ce d := ⟨_, rfl⟩
  have f1 : ∀ j, ¬ j = 68 → ¬ j = 70 → fI F' j = fI F j := fun j a1 a2 => by rw [eF]; exact colF_I a1 a2
  have f2 : ∀ j, ¬ j = 69 → fJ F' j = fJ F j := fun j a1 => by rw [eF]; exact colF_J a1
  have f3 : ∀ j, ¬ j = 67 → fN F' j = fN F j := fun j a1 => by rw [eF]; exact colF_N a1
  have f4 : ∀ j i, ¬ i = w → fI F' j i = fI F j i ∧ fJ F' j i = fJ F j i := fun j i a1 => by rw [eF]; exact colF_i a1
  obtain ⟨v67, v68, v69, v70⟩ := colF_w (F := F) (w := w) (p := nI k) (ce := ce) (d := d)
  rw [← eF] at v67 v68 v69 v70 hK
  clear eF
  have vT : st_tg σV = st_tg σN := by rw [eV, g_tg_sI, t0]
  have vJ : st_J σV = st_J σN := by rw [eV, g_J_sI, eU, g_J_uR]
  have vR : st_R σV = st_R σN := by rw [eV, g_R_sI, eU, g_R_uR]
  have vI : ∀ f, ¬ f = 8 → st_I σV f = st_I σN f := fun f hf => by
    funext b
    rw [eV, g_I_sI, if_neg (fun z => hf z.1), eU, g_I_uR]
  have vE : ∀ b, ¬ b = G 0 7 → st_eR σV b = st_eR σN b := fun b hb => by
    funext j
    rw [eV, g_eR_sI, eU, g_eR_uR, if_neg (fun z => hb z.1)]
  refine hK σV ⟨?_, ?_, ?_, ?_, ?_, ?_, ⟨ta, tv, ?_⟩, ⟨w + 1, by omega, v67, e8V, fun i hi => ?_⟩⟩ ?_
  · rw [eV, eU]
    exact h1.uR h1.2.1.2.2.2.2.1.1 (by decide) (by decide)
  · unfold OFF
    rw [f2 52 (by decide), f2 53 (by decide), f2 56 (by decide), f2 57 (by decide), f1 54 (by decide) (by decide), f1 55 (by decide) (by decide), vJ, vI 163 (by decide), vI 165 (by decide)]
    exact h2
  · unfold OFR
    rw [f2 53 (by decide), f1 54 (by decide) (by decide), f1 55 (by decide) (by decide)]
    exact h3
  · unfold CUR
    rw [f2 51 (by decide), vJ]
    exact h4
  · unfold TOT
    rw [f2 71 (by decide), eV, g_eJ_sI, eU, g_eJ_uR]
    exact h5
  · exact ODS.to (ODS.F51 (fun j hj => f1 j (by omega) (by omega)) (fun j hj => f2 j (by omega)) (f3 40 (by decide)) h6) ⟨rfl, rfl, rfl, rfl, rfl⟩ rfl (by rw [vI 3 (by decide)]) (vE _ (tg_ne h1.2.1.2.2.1.1 h1.2.1.2.2.2.2.1.1 (by decide))) vT (fun f hf => vI f (by omega)) vJ vR
  · unfold TRS TR1
    rw [f3 60 (by decide), f3 61 (by decide), f1 62 (by decide) (by decide), f2 63 (by decide), f1 64 (by decide) (by decide), f2 65 (by decide), f1 66 (by decide) (by decide), vT, vJ, vI 5 (by decide), vI 6 (by decide), vI 240 (by decide), vI 242 (by decide), vI 244 (by decide), vE _ (tg_ne h1.2.1.2.2.2.1.1 h1.2.1.2.2.2.2.1.1 (by decide))]
    exact h7
  · unfold CO1
    by_cases e : i = w
    · refine ⟨q, ?_, by rw [vT]; exact q1, ⟨k, hk, by rw [vR]; exact q2, by rw [e]; exact v68⟩, by rw [vJ, e, v69]; exact q3, by rw [vI 82 (by decide), e, v70]; exact q4⟩
      rw [e, eV, g_eR_sI, eU, g_eR_uR, if_pos ⟨rfl, rfl⟩]
    · obtain ⟨z, s1, s2, s3, s4, s5⟩ := hCC i (by omega)
      refine ⟨z, ?_, by rw [vT]; exact s2, by rw [vR, (f4 68 i e).1]; exact s3, by rw [vJ, (f4 69 i e).2]; exact s4, by rw [vI 82 (by decide), (f4 70 i e).1]; exact s5⟩
      rw [eV, g_eR_sI, eU, g_eR_uR, if_neg (fun y => e y.2)]
      exact s1
  · rw [eV, eU]
    exact (y1.tr FrX.uR).tr (FrX.sI (by decide))
theorem s_collect {G : GX} {c : Nat} {F : FS} {σ : ST} (h : RX G c F σ) (p : Int32) (ce : Int64) (d : Int32) : SimR G c F σ (fun K => wp_X_collect σ (G 6 0) p ce d K) (fun K => wf_M_collect F p ce d K) := by
  obtain ⟨w, w1, w2, w3, w4⟩ := h.2.2.2.2.2.2.2
  rcases off_or p with ⟨k, hk, rfl⟩ | hp
  · by_cases hce : 1 ≤ ce ∧ ce ≤ 500000
    · have MD : ∀ {F : FS} {K : Int32 → FS → Prop}, ((0 ≤ d ∧ d ≤ 9999) → K 1 F) → (¬ (0 ≤ d ∧ d ≤ 9999) → K 0 F) → wf_M_in F d.toInt64 0 9999 K := fun q1 q2 => m_in (fun a b => q1 ⟨(t64_le (x := 0)).mp a, (t64_le (y := 9999)).mp b⟩) (fun a => q2 (fun b => a.elim (fun x => absurd b.1 (Int32.not_le.mpr ((t64_lt (y := 0)).mp x))) (fun x => absurd b.2 (Int32.not_le.mpr ((t64_lt (x := 9999)).mp x)))))
      have XD : ∀ {σ : ST} {K : Int32 → ST → Prop}, ((0 ≤ d ∧ d ≤ 9999) → K 1 σ) → (¬ (0 ≤ d ∧ d ≤ 9999) → K 0 σ) → wp_X_isCollectDay σ d K := fun q1 q2 => by
        unfold wp_X_isCollectDay
        exact ⟨fun z => q2 (fun b => absurd b.1 (Int32.not_le.mpr z)), fun z => ⟨fun y => q2 (fun b => absurd b.2 (Int32.not_le.mpr y)), fun y => q1 ⟨Int32.not_lt.mp z, Int32.not_lt.mp y⟩⟩⟩
      by_cases hd : 0 ≤ d ∧ d ≤ 9999
      · have hin8 : vp_in (nI k) 8 := vp_in_nI hk (by decide)
        have hck : (nI k).toNatClampNeg = k := nI_clamp (by omega)
        by_cases h100 : w = 100
        · refine sim_same h (-104) (fun K' q => ?_) (fun K q => ?_)
          · unfold wf_M_collect
            refine mo_in hk ⟨fun z => absurd z (by decide), fun _ => mi_in hce.1 hce.2 ⟨fun z => absurd z (by decide), fun _ => MD (fun _ => ⟨fun _ => ?_, fun z => absurd z (by decide)⟩) (fun z => absurd hd z)⟩⟩
            rw [w2, h100]
            exact ⟨fun z => absurd rfl z, fun _ => q⟩
          · unfold wp_X_collect
            refine ⟨h.1.1.1, xo_in h.1 hk ⟨fun z => (by cases z), fun _ => xor_in hce.1 hce.2 ⟨fun z => absurd z (by decide), fun _ => XD (fun _ => ⟨fun _ => ⟨h.1.1.1, ?_⟩, fun z => absurd z (by decide)⟩) (fun z => absurd hd z)⟩⟩⟩
            rw [w3, h100]
            exact ⟨fun z => absurd z (by decide), fun _ => q⟩
        · have hw : w < 100 := by omega
          have hwi : vp_in (nI w) 100 := vp_in_nI hw (by decide)
          have hwc : (nI w).toNatClampNeg = w := nI_clamp (by omega)
          refine ⟨nI (w + 1), colF (fsJ (fsJ F 52 k (fJ F 52 k + ce)) 71 2 (fJ F 71 2 + ce)) w (nI k) ce d, fun K' q => ?_, fun K hK => ?_⟩
          · unfold wf_M_collect
            refine mo_in hk ⟨fun z => absurd z (by decide), fun _ => mi_in hce.1 hce.2 ⟨fun z => absurd z (by decide), fun _ => MD (fun _ => ⟨fun _ => ?_, fun z => absurd z (by decide)⟩) (fun z => absurd hd z)⟩⟩
            rw [w2, hwc]
            refine ⟨fun _ => ⟨hwi, fun F4 e4 => ?_⟩, fun z => absurd ((nI_eq (a := w) (b := 100) (by omega) (by decide)).mp z) h100⟩
            have n4 : fN F4 67 = nI w := by rw [e4, n_sI]; exact w2
            rw [n4, hwc]
            refine ⟨hwi, fun F6 e6 => ?_⟩
            have n6 : fN F6 67 = nI w := by rw [e6, n_sJ]; exact n4
            rw [n6, hwc]
            refine ⟨hwi, fun F8 e8 => ?_⟩
            have n8 : fN F8 67 = nI w := by rw [e8, n_sI]; exact n6
            rw [n8, nI_1]
            intro F10 e10
            rw [hck]
            have j52 : fJ F10 52 k = fJ F 52 k := by rw [e10, j_sN, e8, j_sI, e6, j_sJ, if_neg (fun z => absurd z.1 (by decide)), e4, j_sI]
            have j71 : fJ F10 71 2 = fJ F 71 2 := by rw [e10, j_sN, e8, j_sI, e6, j_sJ, if_neg (fun z => absurd z.1 (by decide)), e4, j_sI]
            rw [j52]
            refine ⟨hin8, hin8, fun F12 e12 => ?_⟩
            have j71' : fJ F12 71 (Int32.toNatClampNeg 2) = fJ F 71 2 := by rw [e12, j_sJ, if_neg (fun z => absurd z.1 (by decide))]; exact j71
            rw [j71']
            refine ⟨vp_in_nI (n := 2) (N := 9) (by decide) (by decide), vp_in_nI (n := 2) (N := 9) (by decide) (by decide), fun F14 e14 => ?_⟩
            have e15 : F14 = colF (fsJ (fsJ F 52 k (fJ F 52 k + ce)) 71 2 (fJ F 71 2 + ce)) w (nI k) ce d := by
              have s1 : F14 = fsN (fsI (fsI (fsJ (fsJ (fsJ F 69 w ce) 52 k (fJ F 52 k + ce)) 71 2 (fJ F 71 2 + ce)) 68 w (nI k)) 70 w d) 67 (nI (w + 1)) := by rw [e14, e12, e10, e8, e6, e4]; rfl
              rw [s1, fsJ_comm (j := 69) (j' := 52) (by decide), fsJ_comm (j := 69) (j' := 71) (by decide)]
              rfl
            rw [e15, colF_w.1]
            exact q
          · unfold wp_X_collect
            refine ⟨h.1.1.1, xo_in h.1 hk ⟨fun z => (by cases z), fun _ => xor_in hce.1 hce.2 ⟨fun z => absurd z (by decide), fun _ => XD (fun _ => ⟨fun _ => ⟨h.1.1.1, ?_⟩, fun z => absurd z (by decide)⟩) (fun z => absurd hd z)⟩⟩⟩
            rw [w3]
            refine ⟨fun _ => ⟨G 1 k, rfl, (h.1.2.2.1 k hk).2.1, ?_⟩, fun z => absurd (nI_lt (a := w) (b := 100) hw (by decide)) z⟩
            rw [(h.2.1 k hk).1]
            intro σ16 e16
            have t16 : st_tg σ16 = st_tg σ := by rw [e16]; rfl
            have l16 : st_ln σ16 = st_ln σ := by rw [e16]; rfl
            have r16 : st_R σ16 = st_R σ := by rw [e16]; rfl
            have h9 : vp_in 2 (st_ln σ16 (G 0 9)) := by rw [l16, h.1.2.1.2.2.2.2.2.2]; exact vp_in_nI (n := 2) (N := 9) (by decide) (by decide)
            refine ⟨G 0 9, by rw [r16]; exact h.1.1.2.2.2.2.2.2, by rw [t16]; exact h.1.2.1.2.2.2.2.2.1, h9, h9, ?_⟩
            have e9 : st_eJ σ16 (G 0 9) (Int32.toNatClampNeg 2) = fJ F 71 2 := by rw [e16]; exact h.2.2.2.2.1 2 (by decide)
            rw [e9]
            intro σ25 e25 q hq σ31 e31
            subst e31
            have hR : RX G (c + 1) (fsJ (fsJ F 52 k (fJ F 52 k + ce)) 71 2 (fJ F 71 2 + ce)) σ25 := by
              obtain ⟨h1, h2, h3, h4, h5, h6, h7, h8⟩ := h.up
              rw [e25, e16]
              exact ⟨h1, OFF.c52 h1 h2 hk _, h3, h4, TOT.c (F := fsJ F 52 k (fJ F 52 k + ce)) h5 2 _, ODS.keep h6 (fun _ q => q) (fun _ q => q) rfl rfl rfl rfl rfl rfl rfl rfl, h7, h8⟩
            have hf : FrX (G 0 9) σ σ25 := by rw [e25, e16]; exact FrX.sJ.tr FrX.uJ
            have f67 : fN (fsJ (fsJ F 52 k (fJ F 52 k + ce)) 71 2 (fJ F 71 2 + ce)) 67 = nI w := by rw [n_sJ, n_sJ]; exact w2
            exact x_col hR hw f67 hk hq (fun σ' q1 q2 => hK G σ' q1 (hf.tr q2) GG.rf)
      · refine sim_same h (-102) (fun K' q => ?_) (fun K q => ?_)
        · unfold wf_M_collect
          exact mo_in hk ⟨fun z => absurd z (by decide), fun _ => mi_in hce.1 hce.2 ⟨fun z => absurd z (by decide), fun _ => MD (fun z => absurd z hd) (fun _ => ⟨fun z => absurd rfl z, fun _ => q⟩)⟩⟩
        · unfold wp_X_collect
          exact ⟨h.1.1.1, xo_in h.1 hk ⟨fun z => (by cases z), fun _ => xor_in hce.1 hce.2 ⟨fun z => absurd z (by decide), fun _ => XD (fun z => absurd z hd) (fun _ => ⟨fun z => absurd rfl z, fun _ => q⟩)⟩⟩⟩
    · refine sim_same h (-102) (fun K' q => ?_) (fun K q => ?_)
      · unfold wf_M_collect
        exact mo_in hk ⟨fun z => absurd z (by decide), fun _ => mor_out hce ⟨fun _ => q, fun z => absurd rfl z⟩⟩
      · unfold wp_X_collect
        exact ⟨h.1.1.1, xo_in h.1 hk ⟨fun z => (by cases z), fun _ => xor_out hce ⟨fun _ => q, fun z => absurd rfl z⟩⟩⟩
  · refine sim_same h (-102) (fun K' q => ?_) (fun K q => ?_)
    · unfold wf_M_collect
      exact mo_out hp ⟨fun _ => q, fun z => absurd rfl z⟩
    · unfold wp_X_collect
      exact ⟨h.1.1.1, xo_out h.1 hp ⟨fun _ => q, fun z => absurd rfl z⟩⟩
