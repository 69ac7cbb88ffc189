def wb_M_pay_403 (h0 : Nat) (K : Int32 → ST → Prop) : Nat → ST → Int32 → Int32 → Int32 → Int32 → Prop
  | 0, _, _, _, _, _ => False
  | n + 1, σ, v1, v4, v15, v16 =>
  st_tg σ h0 = some 1 ∧ (∃ a_197 : Nat, (st_R σ 58 h0) = some a_197 ∧ st_tg σ a_197 = some 301 ∧ (vp_in v1 (st_ln σ a_197) ∧ ((((((((300 * v1)) + ((st_eI σ a_197 (Int32.toNatClampNeg v1))))) ≤ v16) → ∃ a_202 : Nat, (st_R σ 71 h0) = some a_202 ∧ st_tg σ a_202 = some 302 ∧ (vp_in 7 (st_ln σ a_202) ∧ ((((v15 ≤ (2 : Int32)) → vp_in 7 (st_ln σ a_202) ∧ (∀ σ_208 : ST, σ_208 = st_uJ σ a_202 (Int32.toNatClampNeg 7) ((((st_eJ σ a_202 (Int32.toNatClampNeg 7))) + 0)) → (K 1 σ_208))) ∧
  ((¬ v15 ≤ (2 : Int32)) → vp_in 7 (st_ln σ a_202) ∧ (∀ σ_214 : ST, σ_214 = st_uJ σ a_202 (Int32.toNatClampNeg 7) ((((st_eJ σ a_202 (Int32.toNatClampNeg 7))) + 1)) → (K 1 σ_214))))))) ∧
  ((¬ ((((300 * v1)) + ((st_eI σ a_197 (Int32.toNatClampNeg v1))))) ≤ v16) → ∃ a_219 : Nat, (st_R σ 59 h0) = some a_219 ∧ st_tg σ a_219 = some 301 ∧ (vp_in v16 (st_ln σ a_219) ∧ ((((¬ ((st_eI σ a_219 (Int32.toNatClampNeg v16))) = v4) → ∀ x_224 : Int32, x_224 = (v15 + 0) → (∀ x_226 : Int32, x_226 = v16 + 1 → (wb_M_pay_403 h0 K n σ v1 v4 x_224 x_226))) ∧
  ((((st_eI σ a_219 (Int32.toNatClampNeg v16))) = v4) → ∀ x_228 : Int32, x_228 = (v15 + 1) → (∀ x_230 : Int32, x_230 = v16 + 1 → (wb_M_pay_403 h0 K n σ v1 v4 x_228 x_230)))))))))))
def wb_M_pay_344 (h0 : Nat) (K : Int32 → ST → Prop) (σ : ST) (v1 : Int32) (v4 : Int32) (v9 : Int64) (v11 : Int64) (v13 : Int64) (s0 : Int32) (s1 : Int32) (s2 : Option Nat) : Prop :=
  ∃ a_137 : Nat, s2 = some a_137 ∧ st_tg σ a_137 = some 301 ∧ (vp_in s1 (st_ln σ a_137) ∧ (∀ σ_141 : ST, σ_141 = st_uI σ a_137 (Int32.toNatClampNeg s1) s0 → (st_tg σ_141 h0 = some 1 ∧ (∃ a_145 : Nat, (st_R σ_141 56 h0) = some a_145 ∧ st_tg σ_141 a_145 = some 302 ∧ (vp_in v1 (st_ln σ_141 a_145) ∧ (∀ σ_149 : ST, σ_149 = st_uJ σ_141 a_145 (Int32.toNatClampNeg v1) v9 → (∃ a_154 : Nat, (st_R σ_149 57 h0) = some a_154 ∧ st_tg σ_149 a_154 = some 302 ∧ (vp_in v1 (st_ln σ_149 a_154) ∧ (∀ σ_158 : ST, σ_158 = st_uJ σ_149 a_154 (Int32.toNatClampNeg v1) ((v13 + v11)) → (∃ a_164 : Nat, (st_R σ_158 58 h0) = some a_164 ∧ st_tg σ_158 a_164 = some 301 ∧ (vp_in v1 (st_ln σ_158 a_164) ∧ (∃ a_168 : Nat, (st_R σ_158 59 h0) = some a_168 ∧ st_tg σ_158 a_168 = some 301 ∧ (vp_in ((((300 * v1)) + ((st_eI σ_158 a_164 (Int32.toNatClampNeg v1))))) (st_ln σ_158 a_168) ∧ (∀ σ_172 : ST, σ_172 = st_uI σ_158 a_168 (Int32.toNatClampNeg ((((300 * v1)) + ((st_eI σ_158 a_164 (Int32.toNatClampNeg v1)))))) v4 → (∃ a_180 : Nat, (st_R σ_172 58 h0) = some a_180 ∧ st_tg σ_172 a_180 = some 301 ∧ (vp_in v1 (st_ln σ_172 a_180) ∧ (vp_in v1 (st_ln σ_172 a_180) ∧ (∀ σ_185 : ST, σ_185 = st_uI σ_172 a_180 (Int32.toNatClampNeg v1) ((((st_eI σ_172 a_180 (Int32.toNatClampNeg v1))) + 1)) → (∀ x_194 : Int32, x_194 = (300 * v1) → (∃ n : Nat, wb_M_pay_403 h0 K n σ_185 v1 v4 0 x_194))))))))))))))))))))
def wb_M_pay_232 (h0 : Nat) (K : Int32 → ST → Prop) (σ : ST) (v1 : Int32) (v4 : Int32) (v7 : Int32) (v9 : Int64) (v11 : Int64) (v13 : Int64) : Prop :=
  st_tg σ h0 = some 1 ∧ (wp_M_failsNow σ h0 v1 4 (fun (r_67 : Int32) σ_68 =>
  (((r_67 = 0) → st_tg σ_68 h0 = some 1 ∧ (∃ a_71 : Nat, (st_R σ_68 52 h0) = some a_71 ∧ st_tg σ_68 a_71 = some 302 ∧ (vp_in v1 (st_ln σ_68 a_71) ∧ ((((0 ≤ ((lg_cmp ((st_eJ σ_68 a_71 (Int32.toNatClampNeg v1))) v11))) → wp_M_failsNow σ_68 h0 v1 5 (fun (r_76 : Int32) σ_77 =>
  (((r_76 = 0) → st_tg σ_77 h0 = some 1 ∧ (∃ a_80 : Nat, (st_R σ_77 52 h0) = some a_80 ∧ st_tg σ_77 a_80 = some 302 ∧ (vp_in v1 (st_ln σ_77 a_80) ∧ (vp_in v1 (st_ln σ_77 a_80) ∧ (∀ σ_85 : ST, σ_85 = st_uJ σ_77 a_80 (Int32.toNatClampNeg v1) ((((st_eJ σ_77 a_80 (Int32.toNatClampNeg v1))) - v11)) → (∃ a_89 : Nat, (st_R σ_85 71 h0) = some a_89 ∧ st_tg σ_85 a_89 = some 302 ∧ (vp_in 1 (st_ln σ_85 a_89) ∧ (vp_in 1 (st_ln σ_85 a_89) ∧ (∀ σ_94 : ST, σ_94 = st_uJ σ_85 a_89 (Int32.toNatClampNeg 1) ((((st_eJ σ_85 a_89 (Int32.toNatClampNeg 1))) + v11)) → (∃ a_99 : Nat, (st_R σ_94 41 h0) = some a_99 ∧ st_tg σ_94 a_99 = some 301 ∧ (vp_in v7 (st_ln σ_94 a_99) ∧ (∀ σ_103 : ST, σ_103 = st_uI σ_94 a_99 (Int32.toNatClampNeg v7) 1 → (∃ a_109 : Nat, (st_R σ_103 47 h0) = some a_109 ∧ st_tg σ_103 a_109 = some 301 ∧ (vp_in v7 (st_ln σ_103 a_109) ∧ (∀ σ_113 : ST, σ_113 = st_uI σ_103 a_109 (Int32.toNatClampNeg v7) v1 → (∃ a_120 : Nat, (st_R σ_113 48 h0) = some a_120 ∧ st_tg σ_113 a_120 = some 301 ∧ (vp_in v7 (st_ln σ_113 a_120) ∧ (∀ σ_124 : ST, σ_124 = st_uI σ_113 a_120 (Int32.toNatClampNeg v7) ((-1)) → (∃ a_132 : Nat, (st_R σ_124 56 h0) = some a_132 ∧ st_tg σ_124 a_132 = some 302 ∧ (vp_in v1 (st_ln σ_124 a_132) ∧ ((((¬ ((lg_cmp ((st_eJ σ_124 a_132 (Int32.toNatClampNeg v1))) v9)) = 0) → wb_M_pay_344 h0 K σ_124 v1 v4 v9 v11 v13 0 v1 ((st_R σ_124 58 h0))) ∧
  ((((lg_cmp ((st_eJ σ_124 a_132 (Int32.toNatClampNeg v1))) v9)) = 0) → ∃ a_232 : Nat, (st_R σ_124 58 h0) = some a_232 ∧ st_tg σ_124 a_232 = some 301 ∧ (vp_in v1 (st_ln σ_124 a_232) ∧ (wb_M_pay_344 h0 K σ_124 v1 v4 v9 v11 v13 ((st_eI σ_124 a_232 (Int32.toNatClampNeg v1))) v1 ((st_R σ_124 58 h0))))))))))))))))))))))))))) ∧
  ((¬ r_76 = 0) → K ((-108)) σ_77)))) ∧
  ((¬ 0 ≤ ((lg_cmp ((st_eJ σ_68 a_71 (Int32.toNatClampNeg v1))) v11))) → K ((-107)) σ_68)))))) ∧
  ((¬ r_67 = 0) → K ((-108)) σ_68))))
def wb_M_pay_201 (h0 : Nat) (K : Int32 → ST → Prop) (σ : ST) (v1 : Int32) (v4 : Int32) (v7 : Int32) (v9 : Int64) (v11 : Int64) (s0 : Int64) : Prop :=
  st_tg σ h0 = some 1 ∧ (∃ a_61 : Nat, (st_R σ 53 h0) = some a_61 ∧ st_tg σ a_61 = some 302 ∧ (vp_in v1 (st_ln σ a_61) ∧ ((((((lg_cmp ((st_eJ σ a_61 (Int32.toNatClampNeg v1))) 0)) < 0) → wb_M_pay_232 h0 K σ v1 v4 v7 v9 v11 s0) ∧
  ((¬ ((lg_cmp ((st_eJ σ a_61 (Int32.toNatClampNeg v1))) 0)) < 0) → vp_in v1 (st_ln σ a_61) ∧ ((((((lg_cmp ((s0 + v11)) ((st_eJ σ a_61 (Int32.toNatClampNeg v1))))) ≤ 0) → wb_M_pay_232 h0 K σ v1 v4 v7 v9 v11 s0) ∧
  ((¬ ((lg_cmp ((s0 + v11)) ((st_eJ σ a_61 (Int32.toNatClampNeg v1))))) ≤ 0) → K ((-106)) σ))))))))
def wb_M_pay_112 (h0 : Nat) (K : Int32 → ST → Prop) (σ : ST) (v1 : Int32) (v4 : Int32) (v5 : Int64) (v7 : Int32) : Prop :=
  st_tg σ h0 = some 1 ∧ (wp_M_failsNow σ h0 v1 1 (fun (r_33 : Int32) σ_34 =>
  (((r_33 = 0) → st_tg σ_34 h0 = some 1 ∧ (wp_M_failsNow σ_34 h0 v1 2 (fun (r_37 : Int32) σ_38 =>
  (((r_37 = 0) → st_tg σ_38 h0 = some 1 ∧ (∃ a_41 : Nat, (st_R σ_38 45 h0) = some a_41 ∧ st_tg σ_38 a_41 = some 301 ∧ (vp_in v7 (st_ln σ_38 a_41) ∧ ((((v4 = ((st_eI σ_38 a_41 (Int32.toNatClampNeg v7)))) → wp_M_failsNow σ_38 h0 v1 3 (fun (r_46 : Int32) σ_47 =>
  (((r_46 = 0) → ∀ x_49 : Int64, x_49 = (v5 / 86400) → (st_tg σ_47 h0 = some 1 ∧ (wp_M_sumOf σ_47 h0 v7 (fun (r_52 : Int64) σ_53 =>
  st_tg σ_53 h0 = some 1 ∧ (∃ a_55 : Nat, (st_R σ_53 56 h0) = some a_55 ∧ st_tg σ_53 a_55 = some 302 ∧ (vp_in v1 (st_ln σ_53 a_55) ∧ ((((¬ ((lg_cmp ((st_eJ σ_53 a_55 (Int32.toNatClampNeg v1))) x_49)) = 0) → wb_M_pay_201 h0 K σ_53 v1 v4 v7 x_49 r_52 0) ∧
  ((((lg_cmp ((st_eJ σ_53 a_55 (Int32.toNatClampNeg v1))) x_49)) = 0) → ∃ a_238 : Nat, (st_R σ_53 57 h0) = some a_238 ∧ st_tg σ_53 a_238 = some 302 ∧ (vp_in v1 (st_ln σ_53 a_238) ∧ (wb_M_pay_201 h0 K σ_53 v1 v4 v7 x_49 r_52 ((st_eJ σ_53 a_238 (Int32.toNatClampNeg v1)))))))))))))) ∧
  ((¬ r_46 = 0) → K ((-108)) σ_47)))) ∧
  ((¬ v4 = ((st_eI σ_38 a_41 (Int32.toNatClampNeg v7)))) → K ((-105)) σ_38)))))) ∧
  ((¬ r_37 = 0) → K ((-108)) σ_38))))) ∧
  ((¬ r_33 = 0) → K ((-108)) σ_34))))
def wb_M_pay_59 (h0 : Nat) (K : Int32 → ST → Prop) (σ : ST) (v1 : Int32) (v4 : Int32) (v5 : Int64) (v7 : Int32) (s0 : Int32) : Prop :=
  st_tg σ h0 = some 1 ∧ (∃ a_16 : Nat, (st_R σ 41 h0) = some a_16 ∧ st_tg σ a_16 = some 301 ∧ (vp_in v7 (st_ln σ a_16) ∧ ((((¬ ((st_eI σ a_16 (Int32.toNatClampNeg v7))) = 0) → K ((-103)) σ) ∧
  ((((st_eI σ a_16 (Int32.toNatClampNeg v7))) = 0) → ∃ a_21 : Nat, (st_R σ 43 h0) = some a_21 ∧ st_tg σ a_21 = some 302 ∧ (vp_in v7 (st_ln σ a_21) ∧ ((((0 < ((lg_cmp v5 ((st_eJ σ a_21 (Int32.toNatClampNeg v7)))))) → K ((-103)) σ) ∧
  ((¬ 0 < ((lg_cmp v5 ((st_eJ σ a_21 (Int32.toNatClampNeg v7)))))) → (((¬ s0 = 0) → K ((-103)) σ) ∧
  ((s0 = 0) → ∃ a_27 : Nat, (st_R σ 54 h0) = some a_27 ∧ st_tg σ a_27 = some 303 ∧ (vp_in v1 (st_ln σ a_27) ∧ ((((((st_eI σ a_27 (Int32.toNatClampNeg v1))) = 0) → wb_M_pay_112 h0 K σ v1 v4 v5 v7) ∧
  ((¬ ((st_eI σ a_27 (Int32.toNatClampNeg v1))) = 0) → ∃ a_242 : Nat, (st_R σ 48 h0) = some a_242 ∧ st_tg σ a_242 = some 301 ∧ (vp_in v7 (st_ln σ a_242) ∧ ((((((st_eI σ a_242 (Int32.toNatClampNeg v7))) = v1) → wb_M_pay_112 h0 K σ v1 v4 v5 v7) ∧
  ((¬ ((st_eI σ a_242 (Int32.toNatClampNeg v7))) = v1) → K ((-103)) σ)))))))))))))))))))
def wb_M_pay_58 (h0 : Nat) (K : Int32 → ST → Prop) (σ : ST) (v1 : Int32) (v4 : Int32) (v5 : Int64) (v7 : Int32) : Prop :=
  wb_M_pay_59 h0 K σ v1 v4 v5 v7 0
def wp_M_pay (σ : ST) (h0 : Nat) (p1 : Int32) (p2 : Int64) (p4 : Int32) (p5 : Int64) (K : Int32 → ST → Prop) : Prop :=
  st_tg σ h0 = some 1 ∧ (wp_M_find σ h0 p2 (fun (r_2 : Int32) σ_3 =>
  (((¬ r_2 = 0) → wp_M_isOffice σ_3 p1 (fun (r_5 : Int32) σ_6 =>
  (((r_5 = 0) → K ((-102)) σ_6) ∧
  ((¬ r_5 = 0) → (((0 ≤ ((lg_cmp p5 0))) → st_tg σ_6 h0 = some 1 ∧ (∃ a_10 : Nat, (st_R σ_6 48 h0) = some a_10 ∧ st_tg σ_6 a_10 = some 301 ∧ (vp_in r_2 (st_ln σ_6 a_10) ∧ ((((((st_eI σ_6 a_10 (Int32.toNatClampNeg r_2))) = ((-1) : Int32)) → wb_M_pay_58 h0 K σ_6 p1 p4 p5 r_2) ∧
  ((¬ ((st_eI σ_6 a_10 (Int32.toNatClampNeg r_2))) = ((-1) : Int32)) → vp_in r_2 (st_ln σ_6 a_10) ∧ ((((((st_eI σ_6 a_10 (Int32.toNatClampNeg r_2))) = p1) → wb_M_pay_58 h0 K σ_6 p1 p4 p5 r_2) ∧
  ((¬ ((st_eI σ_6 a_10 (Int32.toNatClampNeg r_2))) = p1) → wb_M_pay_59 h0 K σ_6 p1 p4 p5 r_2 1))))))))) ∧
  ((¬ 0 ≤ ((lg_cmp p5 0))) → K ((-102)) σ_6)))))) ∧
  ((r_2 = 0) → K ((-101)) σ_3))))
abbrev ROOM_M_pay : Room := { frames := 2, cells := 0, slots := 0, locals := 46 }
set_option maxHeartbeats 4000000 in
set_option maxRecDepth 100000 in
theorem mc_M_pay (l : Launch) (D : va_G) (A : Nat → Prop) (σ : ST) (h0 : Nat) (p1 : Int32) (p2 : Int64) (p4 : Int32) (p5 : Int64) (K : Int32 → ST → Prop) : Met l y_M_pay ws_M_pay ROOM_M_pay (va_Pc [.ref h0, .int p1, .long p2, .int p4, .long p5] (fun U => mw D A σ U ∧ mn U ∧ wp_M_pay σ h0 p1 p2 p4 p5 K)) (va_Qi K (mw D A) A) 0 0 A := by
  refine Met.ofW (cc := c_M_pay) (maxL := 17) (ret := (some .int)) (by decide) rfl ?_
  intro p e s m args below meth c s₁ B hml hv
  obtain ⟨rfl, ⟨hH, hK, hA⟩, hn, h⟩ := hv
  have hx := B.exec
  have hb := B.bytes
  have hr := B.returns
  have hts := atoms_spec (ws := ws_M_pay) B.pre
  have hown : s.vm.findClass R_M = some m.cls := findClass_of_methodNamed B.named
  have hlocks := B.notSynchronized
  have hts : ∀ w ∈ lw_g, w.before ([.ref h0, .int p1, .long p2, .int p4, .long p5] : List Value).toArray s = true := fun w hw => hts w (List.mem_cons_of_mem _ hw)
  have b_403 : ∀ (n : Nat), ∀ (σ : ST) (v1 : Int32) (v4 : Int32) (v15 : Int32) (v16 : Int32) (H : Heap) (locs : List Loc) (ls : Array Slot), mg_H D vwCl A (st_cell σ) H → mk_K D σ s → va_S A s.heap H locs → lv_has ls 17 [(0, va_rf (some h0)), (1, .int v1), (4, .int v4), (15, .int v15), (16, .int v16)] → wb_M_pay_403 h0 K n σ v1 v4 v15 v16 → W p l e (headSpec ws_M_pay ROOM_M_pay).room s m ([.ref h0, .int p1, .long p2, .int p4, .long p5] : List Value).toArray below meth c H locs 0 0 (MQ below (va_Qi K (mw D A) A) ([.ref h0, .int p1, .long p2, .int p4, .long p5] : List Value).toArray s 0 0 A) (F0 m 403 ls []) := by
    intro n
    induction n with
    | zero =>
      intro σ v1 v4 v15 v16 H locs ls hH hK hS hl h
      exact h.elim
    | succ n ih =>
      intro σ v1 v4 v15 v16 H locs ls hH hK hS hl h
      unfold wb_M_pay_403 at h
      refine lv_iload hx hb d_M_pay_403 (lv_at hl 4 rfl) ?_
      refine lv_sipush (v := 300) hx hb d_M_pay_405 (by decide) ?_
      refine lv_iload_n hx hb d_M_pay_408 rfl (lv_at hl 1 rfl) ?_
      refine lv_imul hx hb d_M_pay_409 ?_
      refine mr_aload_n hx hb d_M_pay_410 rfl (lv_at hl 0 rfl) ?_
      obtain ⟨t_196, h⟩ := h
      refine ms_get (σ := σ) (r := some h0) (a := h0) (fs := fl_1 σ h0) (ci := 1) (C := R_M) (T := T_M) (N := 32) hx hb hts in_1 hown hK hH rfl (cell_1 t_196) rfl 18 (by decide) (hts _ wd_435) (fun _ h9 => h9) (v := va_rf (st_R σ 58 h0)) rfl d_M_pay_411 ?_
      refine lv_iload_n hx hb d_M_pay_414 rfl (lv_at hl 1 rfl) ?_
      obtain ⟨a_197, e_198, t_199, h⟩ := h
      obtain ⟨b_200, h⟩ := h
      refine ms_iald (σ := σ) (r := (st_R σ 58 h0)) (a := a_197) hx hb hK hH e_198 t_199 rfl (cell_301 t_199) b_200 d_M_pay_415 ?_
      refine lv_iadd hx hb d_M_pay_416 ?_
      refine lv_icmp_ge (tgt := 448) hx hb d_M_pay_417 (by decide) (fun c_201 => ?_) (fun c_201 => ?_)
      · have h := h.1 c_201
        refine mr_aload_n hx hb d_M_pay_448 rfl (lv_at hl 0 rfl) ?_
        refine ms_get (σ := σ) (r := some h0) (a := h0) (fs := fl_1 σ h0) (ci := 1) (C := R_M) (T := T_M) (N := 32) hx hb hts in_1 hown hK hH rfl (cell_1 t_196) rfl 31 (by decide) (hts _ wd_448) (fun _ h9 => h9) (v := va_rf (st_R σ 71 h0)) rfl d_M_pay_449 ?_
        refine lv_bipush (v := 7) hx hb d_M_pay_452 (by decide) ?_
        refine lv_dup2_11 hx hb d_M_pay_454 rfl (cat_rf _) ?_
        obtain ⟨a_202, e_203, t_204, h⟩ := h
        obtain ⟨b_205, h⟩ := h
        refine ms_lald (σ := σ) (r := (st_R σ 71 h0)) (a := a_202) hx hb hK hH e_203 t_204 rfl (cell_302 t_204) b_205 d_M_pay_455 ?_
        refine lv_iload hx hb d_M_pay_456 (lv_at hl 3 rfl) ?_
        refine lv_iconst (v := 2) hx hb d_M_pay_458 (by decide) ?_
        refine lv_icmp_le (tgt := 466) hx hb d_M_pay_459 (by decide) (fun c_206 => ?_) (fun c_206 => ?_)
        · have h := h.1 c_206
          refine lv_lconst (v := 0) hx hb d_M_pay_466 rfl ?_
          refine lv_ladd hx hb d_M_pay_467 ?_
          obtain ⟨b_207, h⟩ := h
          obtain ⟨σ_208, z_209⟩ : ∃ y : ST, y = st_uJ σ a_202 (Int32.toNatClampNeg 7) ((((st_eJ σ a_202 (Int32.toNatClampNeg 7))) + 0)) := ⟨_, rfl⟩
          have h := h σ_208 z_209
          refine ms_last (σ := σ) (r := (st_R σ 71 h0)) (a := a_202) (x := (((st_eJ σ a_202 (Int32.toNatClampNeg 7))) + 0)) hx hb hK hH hS e_203 t_204 rfl (cell_302 t_204)  b_207 d_M_pay_468 (σ1 := σ_208) (by rw [z_209]; exact uput_302 σ a_202 _ ((((st_eJ σ a_202 (Int32.toNatClampNeg 7))) + 0)) t_204) (by rw [z_209]; rfl) (by rw [z_209]; rfl) (fun H locs hH hK hS => ?_)
          have t_210 : st_tg σ_208 h0 = some 1 := by rw [z_209]; exact t_196
          have t_211 : st_tg σ_208 a_197 = some 301 := by rw [z_209]; exact t_199
          have t_212 : st_tg σ_208 a_202 = some 302 := by rw [z_209]; exact t_204
          refine lv_iconst (v := 1) hx hb d_M_pay_469 (by decide) ?_
          exact W.iret (v := 1) hx hb hr (fun t ht hW => ⟨⟨1, σ_208, rfl, h, mw_pass hH hK hA hS ht hW⟩, hS.F ht⟩) hS.2.2 d_M_pay_470
        · have h := h.2 c_206
          refine lv_lconst (v := 1) hx hb d_M_pay_462 rfl ?_
          refine lv_goto (tgt := 467) hx hb d_M_pay_463 (by decide) ?_
          refine lv_ladd hx hb d_M_pay_467 ?_
          obtain ⟨b_213, h⟩ := h
          obtain ⟨σ_214, z_215⟩ : ∃ y : ST, y = st_uJ σ a_202 (Int32.toNatClampNeg 7) ((((st_eJ σ a_202 (Int32.toNatClampNeg 7))) + 1)) := ⟨_, rfl⟩
          have h := h σ_214 z_215
          refine ms_last (σ := σ) (r := (st_R σ 71 h0)) (a := a_202) (x := (((st_eJ σ a_202 (Int32.toNatClampNeg 7))) + 1)) hx hb hK hH hS e_203 t_204 rfl (cell_302 t_204)  b_213 d_M_pay_468 (σ1 := σ_214) (by rw [z_215]; exact uput_302 σ a_202 _ ((((st_eJ σ a_202 (Int32.toNatClampNeg 7))) + 1)) t_204) (by rw [z_215]; rfl) (by rw [z_215]; rfl) (fun H locs hH hK hS => ?_)
          have t_216 : st_tg σ_214 h0 = some 1 := by rw [z_215]; exact t_196
          have t_217 : st_tg σ_214 a_197 = some 301 := by rw [z_215]; exact t_199
          have t_218 : st_tg σ_214 a_202 = some 302 := by rw [z_215]; exact t_204
          refine lv_iconst (v := 1) hx hb d_M_pay_469 (by decide) ?_
          exact W.iret (v := 1) hx hb hr (fun t ht hW => ⟨⟨1, σ_214, rfl, h, mw_pass hH hK hA hS ht hW⟩, hS.F ht⟩) hS.2.2 d_M_pay_470
      · have h := h.2 c_201
        refine lv_iload hx hb d_M_pay_420 (lv_at hl 3 rfl) ?_
        refine mr_aload_n hx hb d_M_pay_422 rfl (lv_at hl 0 rfl) ?_
        refine ms_get (σ := σ) (r := some h0) (a := h0) (fs := fl_1 σ h0) (ci := 1) (C := R_M) (T := T_M) (N := 32) hx hb hts in_1 hown hK hH rfl (cell_1 t_196) rfl 19 (by decide) (hts _ wd_436) (fun _ h9 => h9) (v := va_rf (st_R σ 59 h0)) rfl d_M_pay_423 ?_
        refine lv_iload hx hb d_M_pay_426 (lv_at hl 4 rfl) ?_
        obtain ⟨a_219, e_220, t_221, h⟩ := h
        obtain ⟨b_222, h⟩ := h
        refine ms_iald (σ := σ) (r := (st_R σ 59 h0)) (a := a_219) hx hb hK hH e_220 t_221 rfl (cell_301 t_221) b_222 d_M_pay_428 ?_
        refine lv_iload hx hb d_M_pay_429 (lv_at hl 2 rfl) ?_
        refine lv_icmp_ne (tgt := 438) hx hb d_M_pay_431 (by decide) (fun c_223 => ?_) (fun c_223 => ?_)
        · have h := h.1 c_223
          refine lv_iconst (v := 0) hx hb d_M_pay_438 (by decide) ?_
          refine lv_iadd hx hb d_M_pay_439 ?_
          refine lv_topi (fun x_224 q_225 => ?_)
          have h := h x_224 q_225
          refine lv_istore (lv' := [(15, .int x_224), (0, va_rf (some h0)), (1, .int v1), (4, .int v4), (16, .int v16)]) hx hb d_M_pay_440 hl (by decide) rfl (fun ls hl => ?_)
          obtain ⟨x_226, q_227⟩ : ∃ y : Int32, y = v16 + 1 := ⟨_, rfl⟩
          have h := h x_226 q_227
          refine lv_iinc (v := x_226) (lv' := [(16, .int x_226), (15, .int x_224), (0, va_rf (some h0)), (1, .int v1), (4, .int v4)]) hx hb d_M_pay_442 hl (k := 4) rfl (by rw [q_227]; rfl) (by decide) rfl (fun ls hl => ?_)
          refine lv_goto (tgt := 403) hx hb d_M_pay_445 (by decide) ?_
          exact ih _ _ _ _ _ _ _ _ hH hK hS (lv_sub hl [2, 3, 4, 1, 0] rfl) h
        · have h := h.2 c_223
          refine lv_iconst (v := 1) hx hb d_M_pay_434 (by decide) ?_
          refine lv_goto (tgt := 439) hx hb d_M_pay_435 (by decide) ?_
          refine lv_iadd hx hb d_M_pay_439 ?_
          refine lv_topi (fun x_228 q_229 => ?_)
          have h := h x_228 q_229
          refine lv_istore (lv' := [(15, .int x_228), (0, va_rf (some h0)), (1, .int v1), (4, .int v4), (16, .int v16)]) hx hb d_M_pay_440 hl (by decide) rfl (fun ls hl => ?_)
          obtain ⟨x_230, q_231⟩ : ∃ y : Int32, y = v16 + 1 := ⟨_, rfl⟩
          have h := h x_230 q_231
          refine lv_iinc (v := x_230) (lv' := [(16, .int x_230), (15, .int x_228), (0, va_rf (some h0)), (1, .int v1), (4, .int v4)]) hx hb d_M_pay_442 hl (k := 4) rfl (by rw [q_231]; rfl) (by decide) rfl (fun ls hl => ?_)
          refine lv_goto (tgt := 403) hx hb d_M_pay_445 (by decide) ?_
          exact ih _ _ _ _ _ _ _ _ hH hK hS (lv_sub hl [2, 3, 4, 1, 0] rfl) h
  have b_344 : ∀ (σ : ST) (v1 : Int32) (v4 : Int32) (v9 : Int64) (v11 : Int64) (v13 : Int64) (s0 : Int32) (s1 : Int32) (s2 : Option Nat) (H : Heap) (locs : List Loc) (ls : Array Slot), mg_H D vwCl A (st_cell σ) H → mk_K D σ s → va_S A s.heap H locs → lv_has ls 17 [(0, va_rf (some h0)), (1, .int v1), (4, .int v4), (9, .long v9), (11, .long v11), (13, .long v13)] → wb_M_pay_344 h0 K σ v1 v4 v9 v11 v13 s0 s1 s2 → W p l e (headSpec ws_M_pay ROOM_M_pay).room s m ([.ref h0, .int p1, .long p2, .int p4, .long p5] : List Value).toArray below meth c H locs 0 0 (MQ below (va_Qi K (mw D A) A) ([.ref h0, .int p1, .long p2, .int p4, .long p5] : List Value).toArray s 0 0 A) (F0 m 344 ls [.int s0, .int s1, va_rf s2]) := by
    intro σ v1 v4 v9 v11 v13 s0 s1 s2 H locs ls hH hK hS hl h
    unfold wb_M_pay_344 at h
    obtain ⟨a_137, e_138, t_139, h⟩ := h
    obtain ⟨b_140, h⟩ := h
    obtain ⟨σ_141, z_142⟩ : ∃ y : ST, y = st_uI σ a_137 (Int32.toNatClampNeg s1) s0 := ⟨_, rfl⟩
    have h := h σ_141 z_142
    refine ms_iast (σ := σ) (r := s2) (a := a_137) (x := s0) hx hb hK hH hS e_138 t_139 rfl (cell_301 t_139)  b_140 d_M_pay_344 (σ1 := σ_141) (by rw [z_142]; exact uput_301 σ a_137 _ s0 t_139) (by rw [z_142]; rfl) (by rw [z_142]; rfl) (fun H locs hH hK hS => ?_)
    have t_143 : st_tg σ_141 a_137 = some 301 := by rw [z_142]; exact t_139
    refine mr_aload_n hx hb d_M_pay_345 rfl (lv_at hl 0 rfl) ?_
    obtain ⟨t_144, h⟩ := h
    refine ms_get (σ := σ_141) (r := some h0) (a := h0) (fs := fl_1 σ_141 h0) (ci := 1) (C := R_M) (T := T_M) (N := 32) hx hb hts in_1 hown hK hH rfl (cell_1 t_144) rfl 16 (by decide) (hts _ wd_433) (fun _ h9 => h9) (v := va_rf (st_R σ_141 56 h0)) rfl d_M_pay_346 ?_
    refine lv_iload_n hx hb d_M_pay_349 rfl (lv_at hl 1 rfl) ?_
    refine lv_lload hx hb d_M_pay_350 (lv_at hl 3 rfl) ?_
    obtain ⟨a_145, e_146, t_147, h⟩ := h
    obtain ⟨b_148, h⟩ := h
    obtain ⟨σ_149, z_150⟩ : ∃ y : ST, y = st_uJ σ_141 a_145 (Int32.toNatClampNeg v1) v9 := ⟨_, rfl⟩
    have h := h σ_149 z_150
    refine ms_last (σ := σ_141) (r := (st_R σ_141 56 h0)) (a := a_145) (x := v9) hx hb hK hH hS e_146 t_147 rfl (cell_302 t_147)  b_148 d_M_pay_352 (σ1 := σ_149) (by rw [z_150]; exact uput_302 σ_141 a_145 _ v9 t_147) (by rw [z_150]; rfl) (by rw [z_150]; rfl) (fun H locs hH hK hS => ?_)
    have t_151 : st_tg σ_149 a_137 = some 301 := by rw [z_150]; exact t_143
    have t_152 : st_tg σ_149 h0 = some 1 := by rw [z_150]; exact t_144
    have t_153 : st_tg σ_149 a_145 = some 302 := by rw [z_150]; exact t_147
    refine mr_aload_n hx hb d_M_pay_353 rfl (lv_at hl 0 rfl) ?_
    refine ms_get (σ := σ_149) (r := some h0) (a := h0) (fs := fl_1 σ_149 h0) (ci := 1) (C := R_M) (T := T_M) (N := 32) hx hb hts in_1 hown hK hH rfl (cell_1 t_152) rfl 17 (by decide) (hts _ wd_434) (fun _ h9 => h9) (v := va_rf (st_R σ_149 57 h0)) rfl d_M_pay_354 ?_
    refine lv_iload_n hx hb d_M_pay_357 rfl (lv_at hl 1 rfl) ?_
    refine lv_lload hx hb d_M_pay_358 (lv_at hl 5 rfl) ?_
    refine lv_lload hx hb d_M_pay_360 (lv_at hl 4 rfl) ?_
    refine lv_ladd hx hb d_M_pay_362 ?_
    obtain ⟨a_154, e_155, t_156, h⟩ := h
    obtain ⟨b_157, h⟩ := h
    obtain ⟨σ_158, z_159⟩ : ∃ y : ST, y = st_uJ σ_149 a_154 (Int32.toNatClampNeg v1) ((v13 + v11)) := ⟨_, rfl⟩
    have h := h σ_158 z_159
    refine ms_last (σ := σ_149) (r := (st_R σ_149 57 h0)) (a := a_154) (x := (v13 + v11)) hx hb hK hH hS e_155 t_156 rfl (cell_302 t_156)  b_157 d_M_pay_363 (σ1 := σ_158) (by rw [z_159]; exact uput_302 σ_149 a_154 _ ((v13 + v11)) t_156) (by rw [z_159]; rfl) (by rw [z_159]; rfl) (fun H locs hH hK hS => ?_)
    have t_160 : st_tg σ_158 a_137 = some 301 := by rw [z_159]; exact t_151
    have t_161 : st_tg σ_158 h0 = some 1 := by rw [z_159]; exact t_152
    have t_162 : st_tg σ_158 a_145 = some 302 := by rw [z_159]; exact t_153
    have t_163 : st_tg σ_158 a_154 = some 302 := by rw [z_159]; exact t_156
    refine mr_aload_n hx hb d_M_pay_364 rfl (lv_at hl 0 rfl) ?_
    refine ms_get (σ := σ_158) (r := some h0) (a := h0) (fs := fl_1 σ_158 h0) (ci := 1) (C := R_M) (T := T_M) (N := 32) hx hb hts in_1 hown hK hH rfl (cell_1 t_161) rfl 19 (by decide) (hts _ wd_436) (fun _ h9 => h9) (v := va_rf (st_R σ_158 59 h0)) rfl d_M_pay_365 ?_
    refine lv_sipush (v := 300) hx hb d_M_pay_368 (by decide) ?_
    refine lv_iload_n hx hb d_M_pay_371 rfl (lv_at hl 1 rfl) ?_
    refine lv_imul hx hb d_M_pay_372 ?_
    refine mr_aload_n hx hb d_M_pay_373 rfl (lv_at hl 0 rfl) ?_
    refine ms_get (σ := σ_158) (r := some h0) (a := h0) (fs := fl_1 σ_158 h0) (ci := 1) (C := R_M) (T := T_M) (N := 32) hx hb hts in_1 hown hK hH rfl (cell_1 t_161) rfl 18 (by decide) (hts _ wd_435) (fun _ h9 => h9) (v := va_rf (st_R σ_158 58 h0)) rfl d_M_pay_374 ?_
    refine lv_iload_n hx hb d_M_pay_377 rfl (lv_at hl 1 rfl) ?_
    obtain ⟨a_164, e_165, t_166, h⟩ := h
    obtain ⟨b_167, h⟩ := h
    refine ms_iald (σ := σ_158) (r := (st_R σ_158 58 h0)) (a := a_164) hx hb hK hH e_165 t_166 rfl (cell_301 t_166) b_167 d_M_pay_378 ?_
    refine lv_iadd hx hb d_M_pay_379 ?_
    refine lv_iload hx hb d_M_pay_380 (lv_at hl 2 rfl) ?_
    obtain ⟨a_168, e_169, t_170, h⟩ := h
    obtain ⟨b_171, h⟩ := h
    obtain ⟨σ_172, z_173⟩ : ∃ y : ST, y = st_uI σ_158 a_168 (Int32.toNatClampNeg ((((300 * v1)) + ((st_eI σ_158 a_164 (Int32.toNatClampNeg v1)))))) v4 := ⟨_, rfl⟩
    have h := h σ_172 z_173
    refine ms_iast (σ := σ_158) (r := (st_R σ_158 59 h0)) (a := a_168) (x := v4) hx hb hK hH hS e_169 t_170 rfl (cell_301 t_170)  b_171 d_M_pay_382 (σ1 := σ_172) (by rw [z_173]; exact uput_301 σ_158 a_168 _ v4 t_170) (by rw [z_173]; rfl) (by rw [z_173]; rfl) (fun H locs hH hK hS => ?_)
    have t_174 : st_tg σ_172 a_137 = some 301 := by rw [z_173]; exact t_160
    have t_175 : st_tg σ_172 h0 = some 1 := by rw [z_173]; exact t_161
    have t_176 : st_tg σ_172 a_145 = some 302 := by rw [z_173]; exact t_162
    have t_177 : st_tg σ_172 a_154 = some 302 := by rw [z_173]; exact t_163
    have t_178 : st_tg σ_172 a_164 = some 301 := by rw [z_173]; exact t_166
    have t_179 : st_tg σ_172 a_168 = some 301 := by rw [z_173]; exact t_170
    refine mr_aload_n hx hb d_M_pay_383 rfl (lv_at hl 0 rfl) ?_
    refine ms_get (σ := σ_172) (r := some h0) (a := h0) (fs := fl_1 σ_172 h0) (ci := 1) (C := R_M) (T := T_M) (N := 32) hx hb hts in_1 hown hK hH rfl (cell_1 t_175) rfl 18 (by decide) (hts _ wd_435) (fun _ h9 => h9) (v := va_rf (st_R σ_172 58 h0)) rfl d_M_pay_384 ?_
    refine lv_iload_n hx hb d_M_pay_387 rfl (lv_at hl 1 rfl) ?_
    refine lv_dup2_11 hx hb d_M_pay_388 rfl (cat_rf _) ?_
    obtain ⟨a_180, e_181, t_182, h⟩ := h
    obtain ⟨b_183, h⟩ := h
    refine ms_iald (σ := σ_172) (r := (st_R σ_172 58 h0)) (a := a_180) hx hb hK hH e_181 t_182 rfl (cell_301 t_182) b_183 d_M_pay_389 ?_
    refine lv_iconst (v := 1) hx hb d_M_pay_390 (by decide) ?_
    refine lv_iadd hx hb d_M_pay_391 ?_
    obtain ⟨b_184, h⟩ := h
    obtain ⟨σ_185, z_186⟩ : ∃ y : ST, y = st_uI σ_172 a_180 (Int32.toNatClampNeg v1) ((((st_eI σ_172 a_180 (Int32.toNatClampNeg v1))) + 1)) := ⟨_, rfl⟩
    have h := h σ_185 z_186
    refine ms_iast (σ := σ_172) (r := (st_R σ_172 58 h0)) (a := a_180) (x := (((st_eI σ_172 a_180 (Int32.toNatClampNeg v1))) + 1)) hx hb hK hH hS e_181 t_182 rfl (cell_301 t_182)  b_184 d_M_pay_392 (σ1 := σ_185) (by rw [z_186]; exact uput_301 σ_172 a_180 _ ((((st_eI σ_172 a_180 (Int32.toNatClampNeg v1))) + 1)) t_182) (by rw [z_186]; rfl) (by rw [z_186]; rfl) (fun H locs hH hK hS => ?_)
    have t_187 : st_tg σ_185 a_137 = some 301 := by rw [z_186]; exact t_174
    have t_188 : st_tg σ_185 h0 = some 1 := by rw [z_186]; exact t_175
    have t_189 : st_tg σ_185 a_145 = some 302 := by rw [z_186]; exact t_176
    have t_190 : st_tg σ_185 a_154 = some 302 := by rw [z_186]; exact t_177
    have t_191 : st_tg σ_185 a_164 = some 301 := by rw [z_186]; exact t_178
    have t_192 : st_tg σ_185 a_168 = some 301 := by rw [z_186]; exact t_179
    have t_193 : st_tg σ_185 a_180 = some 301 := by rw [z_186]; exact t_182
    refine lv_iconst (v := 0) hx hb d_M_pay_393 (by decide) ?_
    refine lv_istore (lv' := [(15, .int 0), (0, va_rf (some h0)), (1, .int v1), (4, .int v4), (9, .long v9), (11, .long v11), (13, .long v13)]) hx hb d_M_pay_394 hl (by decide) rfl (fun ls hl => ?_)
    refine lv_sipush (v := 300) hx hb d_M_pay_396 (by decide) ?_
    refine lv_iload_n hx hb d_M_pay_399 rfl (lv_at hl 2 rfl) ?_
    refine lv_imul hx hb d_M_pay_400 ?_
    refine lv_topi (fun x_194 q_195 => ?_)
    have h := h x_194 q_195
    refine lv_istore (lv' := [(16, .int x_194), (15, .int 0), (0, va_rf (some h0)), (1, .int v1), (4, .int v4), (9, .long v9), (11, .long v11), (13, .long v13)]) hx hb d_M_pay_401 hl (by decide) rfl (fun ls hl => ?_)
    obtain ⟨n, h⟩ := h
    exact b_403 n _ _ _ _ _ _ _ _ hH hK hS (lv_sub hl [2, 3, 4, 1, 0] rfl) h
  have b_232 : ∀ (σ : ST) (v1 : Int32) (v4 : Int32) (v7 : Int32) (v9 : Int64) (v11 : Int64) (v13 : Int64) (H : Heap) (locs : List Loc) (ls : Array Slot), mg_H D vwCl A (st_cell σ) H → mk_K D σ s → va_S A s.heap H locs → lv_has ls 17 [(0, va_rf (some h0)), (1, .int v1), (4, .int v4), (7, .int v7), (9, .long v9), (11, .long v11), (13, .long v13)] → wb_M_pay_232 h0 K σ v1 v4 v7 v9 v11 v13 → W p l e (headSpec ws_M_pay ROOM_M_pay).room s m ([.ref h0, .int p1, .long p2, .int p4, .long p5] : List Value).toArray below meth c H locs 0 0 (MQ below (va_Qi K (mw D A) A) ([.ref h0, .int p1, .long p2, .int p4, .long p5] : List Value).toArray s 0 0 A) (F0 m 232 ls []) := by
    intro σ v1 v4 v7 v9 v11 v13 H locs ls hH hK hS hl h
    unfold wb_M_pay_232 at h
    refine mr_aload_n hx hb d_M_pay_232 rfl (lv_at hl 0 rfl) ?_
    refine lv_iload_n hx hb d_M_pay_233 rfl (lv_at hl 1 rfl) ?_
    refine lv_iconst (v := 4) hx hb d_M_pay_234 (by decide) ?_
    obtain ⟨t_66, h⟩ := h
    refine ms_calli (va_runV (As := [.int v1, .int 4]) (rest := []) ⟨hx, hb, hml, hown, hts⟩ (mc_M_failsNow l D A σ h0 v1 4 _) ⟨(callB_of 2 hts gw_M_failsNow rfl rfl rfl (hts _ wd_4) (hts _ wd_544) (by decide +kernel) ⟨by decide, by decide⟩), (hts _ wd_546), (hts _ wq_14)⟩ ⟨mw_blind, mg_recv hK.1 hH (ci := 1) rfl (cell_1 t_66), fun U hU hW => ⟨rfl, mw_pass hH hK hA hS hU hW, mn_warm hW hn, h⟩⟩ rfl rfl hl.1 rfl (lv_room (Nat.le_of_ble_eq_true rfl)) d_M_pay_235 ⟨by decide, by decide⟩) hS (fun r_67 σ_68 H locs h hH hK hS => ?_)
    refine lv_if_eq (tgt := 244) hx hb d_M_pay_238 (by decide) (fun c_69 => ?_) (fun c_69 => ?_)
    · have h := h.1 c_69
      refine mr_aload_n hx hb d_M_pay_244 rfl (lv_at hl 0 rfl) ?_
      obtain ⟨t_70, h⟩ := h
      refine ms_get (σ := σ_68) (r := some h0) (a := h0) (fs := fl_1 σ_68 h0) (ci := 1) (C := R_M) (T := T_M) (N := 32) hx hb hts in_1 hown hK hH rfl (cell_1 t_70) rfl 12 (by decide) (hts _ wd_429) (fun _ h9 => h9) (v := va_rf (st_R σ_68 52 h0)) rfl d_M_pay_245 ?_
      refine lv_iload_n hx hb d_M_pay_248 rfl (lv_at hl 1 rfl) ?_
      obtain ⟨a_71, e_72, t_73, h⟩ := h
      obtain ⟨b_74, h⟩ := h
      refine ms_lald (σ := σ_68) (r := (st_R σ_68 52 h0)) (a := a_71) hx hb hK hH e_72 t_73 rfl (cell_302 t_73) b_74 d_M_pay_249 ?_
      refine lv_lload hx hb d_M_pay_250 (lv_at hl 5 rfl) ?_
      refine W.lcmp hx hb d_M_pay_252 ?_
      refine lv_if_ge (tgt := 259) hx hb d_M_pay_253 (by decide) (fun c_75 => ?_) (fun c_75 => ?_)
      · have h := h.1 c_75
        refine mr_aload_n hx hb d_M_pay_259 rfl (lv_at hl 0 rfl) ?_
        refine lv_iload_n hx hb d_M_pay_260 rfl (lv_at hl 1 rfl) ?_
        refine lv_iconst (v := 5) hx hb d_M_pay_261 (by decide) ?_
        refine ms_calli (va_runV (As := [.int v1, .int 5]) (rest := []) ⟨hx, hb, hml, hown, hts⟩ (mc_M_failsNow l D A σ_68 h0 v1 5 _) ⟨(callB_of 2 hts gw_M_failsNow rfl rfl rfl (hts _ wd_4) (hts _ wd_544) (by decide +kernel) ⟨by decide, by decide⟩), (hts _ wd_546), (hts _ wq_14)⟩ ⟨mw_blind, mg_recv hK.1 hH (ci := 1) rfl (cell_1 t_70), fun U hU hW => ⟨rfl, mw_pass hH hK hA hS hU hW, mn_warm hW hn, h⟩⟩ rfl rfl hl.1 rfl (lv_room (Nat.le_of_ble_eq_true rfl)) d_M_pay_262 ⟨by decide, by decide⟩) hS (fun r_76 σ_77 H locs h hH hK hS => ?_)
        refine lv_if_eq (tgt := 271) hx hb d_M_pay_265 (by decide) (fun c_78 => ?_) (fun c_78 => ?_)
        · have h := h.1 c_78
          refine mr_aload_n hx hb d_M_pay_271 rfl (lv_at hl 0 rfl) ?_
          obtain ⟨t_79, h⟩ := h
          refine ms_get (σ := σ_77) (r := some h0) (a := h0) (fs := fl_1 σ_77 h0) (ci := 1) (C := R_M) (T := T_M) (N := 32) hx hb hts in_1 hown hK hH rfl (cell_1 t_79) rfl 12 (by decide) (hts _ wd_429) (fun _ h9 => h9) (v := va_rf (st_R σ_77 52 h0)) rfl d_M_pay_272 ?_
          refine lv_iload_n hx hb d_M_pay_275 rfl (lv_at hl 1 rfl) ?_
          refine lv_dup2_11 hx hb d_M_pay_276 rfl (cat_rf _) ?_
          obtain ⟨a_80, e_81, t_82, h⟩ := h
          obtain ⟨b_83, h⟩ := h
          refine ms_lald (σ := σ_77) (r := (st_R σ_77 52 h0)) (a := a_80) hx hb hK hH e_81 t_82 rfl (cell_302 t_82) b_83 d_M_pay_277 ?_
          refine lv_lload hx hb d_M_pay_278 (lv_at hl 5 rfl) ?_
          refine lv_lsub hx hb d_M_pay_280 ?_
          obtain ⟨b_84, h⟩ := h
          obtain ⟨σ_85, z_86⟩ : ∃ y : ST, y = st_uJ σ_77 a_80 (Int32.toNatClampNeg v1) ((((st_eJ σ_77 a_80 (Int32.toNatClampNeg v1))) - v11)) := ⟨_, rfl⟩
          have h := h σ_85 z_86
          refine ms_last (σ := σ_77) (r := (st_R σ_77 52 h0)) (a := a_80) (x := (((st_eJ σ_77 a_80 (Int32.toNatClampNeg v1))) - v11)) hx hb hK hH hS e_81 t_82 rfl (cell_302 t_82)  b_84 d_M_pay_281 (σ1 := σ_85) (by rw [z_86]; exact uput_302 σ_77 a_80 _ ((((st_eJ σ_77 a_80 (Int32.toNatClampNeg v1))) - v11)) t_82) (by rw [z_86]; rfl) (by rw [z_86]; rfl) (fun H locs hH hK hS => ?_)
          have t_87 : st_tg σ_85 h0 = some 1 := by rw [z_86]; exact t_79
          have t_88 : st_tg σ_85 a_80 = some 302 := by rw [z_86]; exact t_82
          refine mr_aload_n hx hb d_M_pay_282 rfl (lv_at hl 0 rfl) ?_
          refine ms_get (σ := σ_85) (r := some h0) (a := h0) (fs := fl_1 σ_85 h0) (ci := 1) (C := R_M) (T := T_M) (N := 32) hx hb hts in_1 hown hK hH rfl (cell_1 t_87) rfl 31 (by decide) (hts _ wd_448) (fun _ h9 => h9) (v := va_rf (st_R σ_85 71 h0)) rfl d_M_pay_283 ?_
          refine lv_iconst (v := 1) hx hb d_M_pay_286 (by decide) ?_
          refine lv_dup2_11 hx hb d_M_pay_287 rfl (cat_rf _) ?_
          obtain ⟨a_89, e_90, t_91, h⟩ := h
          obtain ⟨b_92, h⟩ := h
          refine ms_lald (σ := σ_85) (r := (st_R σ_85 71 h0)) (a := a_89) hx hb hK hH e_90 t_91 rfl (cell_302 t_91) b_92 d_M_pay_288 ?_
          refine lv_lload hx hb d_M_pay_289 (lv_at hl 5 rfl) ?_
          refine lv_ladd hx hb d_M_pay_291 ?_
          obtain ⟨b_93, h⟩ := h
          obtain ⟨σ_94, z_95⟩ : ∃ y : ST, y = st_uJ σ_85 a_89 (Int32.toNatClampNeg 1) ((((st_eJ σ_85 a_89 (Int32.toNatClampNeg 1))) + v11)) := ⟨_, rfl⟩
          have h := h σ_94 z_95
          refine ms_last (σ := σ_85) (r := (st_R σ_85 71 h0)) (a := a_89) (x := (((st_eJ σ_85 a_89 (Int32.toNatClampNeg 1))) + v11)) hx hb hK hH hS e_90 t_91 rfl (cell_302 t_91)  b_93 d_M_pay_292 (σ1 := σ_94) (by rw [z_95]; exact uput_302 σ_85 a_89 _ ((((st_eJ σ_85 a_89 (Int32.toNatClampNeg 1))) + v11)) t_91) (by rw [z_95]; rfl) (by rw [z_95]; rfl) (fun H locs hH hK hS => ?_)
          have t_96 : st_tg σ_94 h0 = some 1 := by rw [z_95]; exact t_87
          have t_97 : st_tg σ_94 a_80 = some 302 := by rw [z_95]; exact t_88
          have t_98 : st_tg σ_94 a_89 = some 302 := by rw [z_95]; exact t_91
          refine mr_aload_n hx hb d_M_pay_293 rfl (lv_at hl 0 rfl) ?_
          refine ms_get (σ := σ_94) (r := some h0) (a := h0) (fs := fl_1 σ_94 h0) (ci := 1) (C := R_M) (T := T_M) (N := 32) hx hb hts in_1 hown hK hH rfl (cell_1 t_96) rfl 1 (by decide) (hts _ wd_418) (fun _ h9 => h9) (v := va_rf (st_R σ_94 41 h0)) rfl d_M_pay_294 ?_
          refine lv_iload hx hb d_M_pay_297 (lv_at hl 3 rfl) ?_
          refine lv_iconst (v := 1) hx hb d_M_pay_299 (by decide) ?_
          obtain ⟨a_99, e_100, t_101, h⟩ := h
          obtain ⟨b_102, h⟩ := h
          obtain ⟨σ_103, z_104⟩ : ∃ y : ST, y = st_uI σ_94 a_99 (Int32.toNatClampNeg v7) 1 := ⟨_, rfl⟩
          have h := h σ_103 z_104
          refine ms_iast (σ := σ_94) (r := (st_R σ_94 41 h0)) (a := a_99) (x := 1) hx hb hK hH hS e_100 t_101 rfl (cell_301 t_101)  b_102 d_M_pay_300 (σ1 := σ_103) (by rw [z_104]; exact uput_301 σ_94 a_99 _ 1 t_101) (by rw [z_104]; rfl) (by rw [z_104]; rfl) (fun H locs hH hK hS => ?_)
          have t_105 : st_tg σ_103 h0 = some 1 := by rw [z_104]; exact t_96
          have t_106 : st_tg σ_103 a_80 = some 302 := by rw [z_104]; exact t_97
          have t_107 : st_tg σ_103 a_89 = some 302 := by rw [z_104]; exact t_98
          have t_108 : st_tg σ_103 a_99 = some 301 := by rw [z_104]; exact t_101
          refine mr_aload_n hx hb d_M_pay_301 rfl (lv_at hl 0 rfl) ?_
          refine ms_get (σ := σ_103) (r := some h0) (a := h0) (fs := fl_1 σ_103 h0) (ci := 1) (C := R_M) (T := T_M) (N := 32) hx hb hts in_1 hown hK hH rfl (cell_1 t_105) rfl 7 (by decide) (hts _ wd_424) (fun _ h9 => h9) (v := va_rf (st_R σ_103 47 h0)) rfl d_M_pay_302 ?_
          refine lv_iload hx hb d_M_pay_305 (lv_at hl 3 rfl) ?_
          refine lv_iload_n hx hb d_M_pay_307 rfl (lv_at hl 1 rfl) ?_
          obtain ⟨a_109, e_110, t_111, h⟩ := h
          obtain ⟨b_112, h⟩ := h
          obtain ⟨σ_113, z_114⟩ : ∃ y : ST, y = st_uI σ_103 a_109 (Int32.toNatClampNeg v7) v1 := ⟨_, rfl⟩
          have h := h σ_113 z_114
          refine ms_iast (σ := σ_103) (r := (st_R σ_103 47 h0)) (a := a_109) (x := v1) hx hb hK hH hS e_110 t_111 rfl (cell_301 t_111)  b_112 d_M_pay_308 (σ1 := σ_113) (by rw [z_114]; exact uput_301 σ_103 a_109 _ v1 t_111) (by rw [z_114]; rfl) (by rw [z_114]; rfl) (fun H locs hH hK hS => ?_)
          have t_115 : st_tg σ_113 h0 = some 1 := by rw [z_114]; exact t_105
          have t_116 : st_tg σ_113 a_80 = some 302 := by rw [z_114]; exact t_106
          have t_117 : st_tg σ_113 a_89 = some 302 := by rw [z_114]; exact t_107
          have t_118 : st_tg σ_113 a_99 = some 301 := by rw [z_114]; exact t_108
          have t_119 : st_tg σ_113 a_109 = some 301 := by rw [z_114]; exact t_111
          refine mr_aload_n hx hb d_M_pay_309 rfl (lv_at hl 0 rfl) ?_
          refine ms_get (σ := σ_113) (r := some h0) (a := h0) (fs := fl_1 σ_113 h0) (ci := 1) (C := R_M) (T := T_M) (N := 32) hx hb hts in_1 hown hK hH rfl (cell_1 t_115) rfl 8 (by decide) (hts _ wd_425) (fun _ h9 => h9) (v := va_rf (st_R σ_113 48 h0)) rfl d_M_pay_310 ?_
          refine lv_iload hx hb d_M_pay_313 (lv_at hl 3 rfl) ?_
          refine lv_iconst (v := (-1)) hx hb d_M_pay_315 (by decide) ?_
          obtain ⟨a_120, e_121, t_122, h⟩ := h
          obtain ⟨b_123, h⟩ := h
          obtain ⟨σ_124, z_125⟩ : ∃ y : ST, y = st_uI σ_113 a_120 (Int32.toNatClampNeg v7) ((-1)) := ⟨_, rfl⟩
          have h := h σ_124 z_125
          refine ms_iast (σ := σ_113) (r := (st_R σ_113 48 h0)) (a := a_120) (x := (-1)) hx hb hK hH hS e_121 t_122 rfl (cell_301 t_122)  b_123 d_M_pay_316 (σ1 := σ_124) (by rw [z_125]; exact uput_301 σ_113 a_120 _ ((-1)) t_122) (by rw [z_125]; rfl) (by rw [z_125]; rfl) (fun H locs hH hK hS => ?_)
          have t_126 : st_tg σ_124 h0 = some 1 := by rw [z_125]; exact t_115
          have t_127 : st_tg σ_124 a_80 = some 302 := by rw [z_125]; exact t_116
          have t_128 : st_tg σ_124 a_89 = some 302 := by rw [z_125]; exact t_117
          have t_129 : st_tg σ_124 a_99 = some 301 := by rw [z_125]; exact t_118
          have t_130 : st_tg σ_124 a_109 = some 301 := by rw [z_125]; exact t_119
          have t_131 : st_tg σ_124 a_120 = some 301 := by rw [z_125]; exact t_122
          refine mr_aload_n hx hb d_M_pay_317 rfl (lv_at hl 0 rfl) ?_
          refine ms_get (σ := σ_124) (r := some h0) (a := h0) (fs := fl_1 σ_124 h0) (ci := 1) (C := R_M) (T := T_M) (N := 32) hx hb hts in_1 hown hK hH rfl (cell_1 t_126) rfl 18 (by decide) (hts _ wd_435) (fun _ h9 => h9) (v := va_rf (st_R σ_124 58 h0)) rfl d_M_pay_318 ?_
          refine lv_iload_n hx hb d_M_pay_321 rfl (lv_at hl 1 rfl) ?_
          refine mr_aload_n hx hb d_M_pay_322 rfl (lv_at hl 0 rfl) ?_
          refine ms_get (σ := σ_124) (r := some h0) (a := h0) (fs := fl_1 σ_124 h0) (ci := 1) (C := R_M) (T := T_M) (N := 32) hx hb hts in_1 hown hK hH rfl (cell_1 t_126) rfl 16 (by decide) (hts _ wd_433) (fun _ h9 => h9) (v := va_rf (st_R σ_124 56 h0)) rfl d_M_pay_323 ?_
          refine lv_iload_n hx hb d_M_pay_326 rfl (lv_at hl 1 rfl) ?_
          obtain ⟨a_132, e_133, t_134, h⟩ := h
          obtain ⟨b_135, h⟩ := h
          refine ms_lald (σ := σ_124) (r := (st_R σ_124 56 h0)) (a := a_132) hx hb hK hH e_133 t_134 rfl (cell_302 t_134) b_135 d_M_pay_327 ?_
          refine lv_lload hx hb d_M_pay_328 (lv_at hl 4 rfl) ?_
          refine W.lcmp hx hb d_M_pay_330 ?_
          refine lv_if_ne (tgt := 343) hx hb d_M_pay_331 (by decide) (fun c_136 => ?_) (fun c_136 => ?_)
          · have h := h.1 c_136
            refine lv_iconst (v := 0) hx hb d_M_pay_343 (by decide) ?_
            exact b_344 _ _ _ _ _ _ _ _ _ _ _ _ hH hK hS (lv_sub hl [0, 1, 2, 4, 5, 6] rfl) h
          · have h := h.2 c_136
            refine mr_aload_n hx hb d_M_pay_334 rfl (lv_at hl 0 rfl) ?_
            refine ms_get (σ := σ_124) (r := some h0) (a := h0) (fs := fl_1 σ_124 h0) (ci := 1) (C := R_M) (T := T_M) (N := 32) hx hb hts in_1 hown hK hH rfl (cell_1 t_126) rfl 18 (by decide) (hts _ wd_435) (fun _ h9 => h9) (v := va_rf (st_R σ_124 58 h0)) rfl d_M_pay_335 ?_
            refine lv_iload_n hx hb d_M_pay_338 rfl (lv_at hl 1 rfl) ?_
            obtain ⟨a_232, e_233, t_234, h⟩ := h
            obtain ⟨b_235, h⟩ := h
            refine ms_iald (σ := σ_124) (r := (st_R σ_124 58 h0)) (a := a_232) hx hb hK hH e_233 t_234 rfl (cell_301 t_234) b_235 d_M_pay_339 ?_
            refine lv_goto (tgt := 344) hx hb d_M_pay_340 (by decide) ?_
            exact b_344 _ _ _ _ _ _ _ _ _ _ _ _ hH hK hS (lv_sub hl [0, 1, 2, 4, 5, 6] rfl) h
        · have h := h.2 c_78
          refine lv_bipush (v := (-108)) hx hb d_M_pay_268 (by decide) ?_
          exact W.iret (v := (-108)) hx hb hr (fun t ht hW => ⟨⟨(-108), σ_77, rfl, h, mw_pass hH hK hA hS ht hW⟩, hS.F ht⟩) hS.2.2 d_M_pay_270
      · have h := h.2 c_75
        refine lv_bipush (v := (-107)) hx hb d_M_pay_256 (by decide) ?_
        exact W.iret (v := (-107)) hx hb hr (fun t ht hW => ⟨⟨(-107), σ_68, rfl, h, mw_pass hH hK hA hS ht hW⟩, hS.F ht⟩) hS.2.2 d_M_pay_258
    · have h := h.2 c_69
      refine lv_bipush (v := (-108)) hx hb d_M_pay_241 (by decide) ?_
      exact W.iret (v := (-108)) hx hb hr (fun t ht hW => ⟨⟨(-108), σ_68, rfl, h, mw_pass hH hK hA hS ht hW⟩, hS.F ht⟩) hS.2.2 d_M_pay_243
  have b_201 : ∀ (σ : ST) (v1 : Int32) (v4 : Int32) (v7 : Int32) (v9 : Int64) (v11 : Int64) (s0 : Int64) (H : Heap) (locs : List Loc) (ls : Array Slot), mg_H D vwCl A (st_cell σ) H → mk_K D σ s → va_S A s.heap H locs → lv_has ls 17 [(0, va_rf (some h0)), (1, .int v1), (4, .int v4), (7, .int v7), (9, .long v9), (11, .long v11)] → wb_M_pay_201 h0 K σ v1 v4 v7 v9 v11 s0 → W p l e (headSpec ws_M_pay ROOM_M_pay).room s m ([.ref h0, .int p1, .long p2, .int p4, .long p5] : List Value).toArray below meth c H locs 0 0 (MQ below (va_Qi K (mw D A) A) ([.ref h0, .int p1, .long p2, .int p4, .long p5] : List Value).toArray s 0 0 A) (F0 m 201 ls [.long s0]) := by
    intro σ v1 v4 v7 v9 v11 s0 H locs ls hH hK hS hl h
    unfold wb_M_pay_201 at h
    refine lv_lstore (lv' := [(13, .long s0), (0, va_rf (some h0)), (1, .int v1), (4, .int v4), (7, .int v7), (9, .long v9), (11, .long v11)]) hx hb d_M_pay_201 hl (by decide) rfl (fun ls hl => ?_)
    refine mr_aload_n hx hb d_M_pay_203 rfl (lv_at hl 1 rfl) ?_
    obtain ⟨t_60, h⟩ := h
    refine ms_get (σ := σ) (r := some h0) (a := h0) (fs := fl_1 σ h0) (ci := 1) (C := R_M) (T := T_M) (N := 32) hx hb hts in_1 hown hK hH rfl (cell_1 t_60) rfl 13 (by decide) (hts _ wd_430) (fun _ h9 => h9) (v := va_rf (st_R σ 53 h0)) rfl d_M_pay_204 ?_
    refine lv_iload_n hx hb d_M_pay_207 rfl (lv_at hl 2 rfl) ?_
    obtain ⟨a_61, e_62, t_63, h⟩ := h
    obtain ⟨b_64, h⟩ := h
    refine ms_lald (σ := σ) (r := (st_R σ 53 h0)) (a := a_61) hx hb hK hH e_62 t_63 rfl (cell_302 t_63) b_64 d_M_pay_208 ?_
    refine lv_lconst (v := 0) hx hb d_M_pay_209 rfl ?_
    refine W.lcmp hx hb d_M_pay_210 ?_
    refine lv_if_lt (tgt := 232) hx hb d_M_pay_211 (by decide) (fun c_65 => ?_) (fun c_65 => ?_)
    · have h := h.1 c_65
      exact b_232 _ _ _ _ _ _ _ _ _ _ hH hK hS (lv_sub hl [1, 2, 3, 4, 5, 6, 0] rfl) h
    · have h := h.2 c_65
      refine lv_lload hx hb d_M_pay_214 (lv_at hl 0 rfl) ?_
      refine lv_lload hx hb d_M_pay_216 (lv_at hl 6 rfl) ?_
      refine lv_ladd hx hb d_M_pay_218 ?_
      refine mr_aload_n hx hb d_M_pay_219 rfl (lv_at hl 1 rfl) ?_
      refine ms_get (σ := σ) (r := some h0) (a := h0) (fs := fl_1 σ h0) (ci := 1) (C := R_M) (T := T_M) (N := 32) hx hb hts in_1 hown hK hH rfl (cell_1 t_60) rfl 13 (by decide) (hts _ wd_430) (fun _ h9 => h9) (v := va_rf (st_R σ 53 h0)) rfl d_M_pay_220 ?_
      refine lv_iload_n hx hb d_M_pay_223 rfl (lv_at hl 2 rfl) ?_
      obtain ⟨b_236, h⟩ := h
      refine ms_lald (σ := σ) (r := (st_R σ 53 h0)) (a := a_61) hx hb hK hH e_62 t_63 rfl (cell_302 t_63) b_236 d_M_pay_224 ?_
      refine W.lcmp hx hb d_M_pay_225 ?_
      refine lv_if_le (tgt := 232) hx hb d_M_pay_226 (by decide) (fun c_237 => ?_) (fun c_237 => ?_)
      · have h := h.1 c_237
        exact b_232 _ _ _ _ _ _ _ _ _ _ hH hK hS (lv_sub hl [1, 2, 3, 4, 5, 6, 0] rfl) h
      · have h := h.2 c_237
        refine lv_bipush (v := (-106)) hx hb d_M_pay_229 (by decide) ?_
        exact W.iret (v := (-106)) hx hb hr (fun t ht hW => ⟨⟨(-106), σ, rfl, h, mw_pass hH hK hA hS ht hW⟩, hS.F ht⟩) hS.2.2 d_M_pay_231
  have b_112 : ∀ (σ : ST) (v1 : Int32) (v4 : Int32) (v5 : Int64) (v7 : Int32) (H : Heap) (locs : List Loc) (ls : Array Slot), mg_H D vwCl A (st_cell σ) H → mk_K D σ s → va_S A s.heap H locs → lv_has ls 17 [(0, va_rf (some h0)), (1, .int v1), (4, .int v4), (5, .long v5), (7, .int v7)] → wb_M_pay_112 h0 K σ v1 v4 v5 v7 → W p l e (headSpec ws_M_pay ROOM_M_pay).room s m ([.ref h0, .int p1, .long p2, .int p4, .long p5] : List Value).toArray below meth c H locs 0 0 (MQ below (va_Qi K (mw D A) A) ([.ref h0, .int p1, .long p2, .int p4, .long p5] : List Value).toArray s 0 0 A) (F0 m 112 ls []) := by
    intro σ v1 v4 v5 v7 H locs ls hH hK hS hl h
    unfold wb_M_pay_112 at h
    refine mr_aload_n hx hb d_M_pay_112 rfl (lv_at hl 0 rfl) ?_
    refine lv_iload_n hx hb d_M_pay_113 rfl (lv_at hl 1 rfl) ?_
    refine lv_iconst (v := 1) hx hb d_M_pay_114 (by decide) ?_
    obtain ⟨t_32, h⟩ := h
    refine ms_calli (va_runV (As := [.int v1, .int 1]) (rest := []) ⟨hx, hb, hml, hown, hts⟩ (mc_M_failsNow l D A σ h0 v1 1 _) ⟨(callB_of 2 hts gw_M_failsNow rfl rfl rfl (hts _ wd_4) (hts _ wd_544) (by decide +kernel) ⟨by decide, by decide⟩), (hts _ wd_546), (hts _ wq_14)⟩ ⟨mw_blind, mg_recv hK.1 hH (ci := 1) rfl (cell_1 t_32), fun U hU hW => ⟨rfl, mw_pass hH hK hA hS hU hW, mn_warm hW hn, h⟩⟩ rfl rfl hl.1 rfl (lv_room (Nat.le_of_ble_eq_true rfl)) d_M_pay_115 ⟨by decide, by decide⟩) hS (fun r_33 σ_34 H locs h hH hK hS => ?_)
    refine lv_if_eq (tgt := 124) hx hb d_M_pay_118 (by decide) (fun c_35 => ?_) (fun c_35 => ?_)
    · have h := h.1 c_35
      refine mr_aload_n hx hb d_M_pay_124 rfl (lv_at hl 0 rfl) ?_
      refine lv_iload_n hx hb d_M_pay_125 rfl (lv_at hl 1 rfl) ?_
      refine lv_iconst (v := 2) hx hb d_M_pay_126 (by decide) ?_
      obtain ⟨t_36, h⟩ := h
      refine ms_calli (va_runV (As := [.int v1, .int 2]) (rest := []) ⟨hx, hb, hml, hown, hts⟩ (mc_M_failsNow l D A σ_34 h0 v1 2 _) ⟨(callB_of 2 hts gw_M_failsNow rfl rfl rfl (hts _ wd_4) (hts _ wd_544) (by decide +kernel) ⟨by decide, by decide⟩), (hts _ wd_546), (hts _ wq_14)⟩ ⟨mw_blind, mg_recv hK.1 hH (ci := 1) rfl (cell_1 t_36), fun U hU hW => ⟨rfl, mw_pass hH hK hA hS hU hW, mn_warm hW hn, h⟩⟩ rfl rfl hl.1 rfl (lv_room (Nat.le_of_ble_eq_true rfl)) d_M_pay_127 ⟨by decide, by decide⟩) hS (fun r_37 σ_38 H locs h hH hK hS => ?_)
      refine lv_if_eq (tgt := 136) hx hb d_M_pay_130 (by decide) (fun c_39 => ?_) (fun c_39 => ?_)
      · have h := h.1 c_39
        refine lv_iload hx hb d_M_pay_136 (lv_at hl 2 rfl) ?_
        refine mr_aload_n hx hb d_M_pay_138 rfl (lv_at hl 0 rfl) ?_
        obtain ⟨t_40, h⟩ := h
        refine ms_get (σ := σ_38) (r := some h0) (a := h0) (fs := fl_1 σ_38 h0) (ci := 1) (C := R_M) (T := T_M) (N := 32) hx hb hts in_1 hown hK hH rfl (cell_1 t_40) rfl 5 (by decide) (hts _ wd_422) (fun _ h9 => h9) (v := va_rf (st_R σ_38 45 h0)) rfl d_M_pay_139 ?_
        refine lv_iload hx hb d_M_pay_142 (lv_at hl 4 rfl) ?_
        obtain ⟨a_41, e_42, t_43, h⟩ := h
        obtain ⟨b_44, h⟩ := h
        refine ms_iald (σ := σ_38) (r := (st_R σ_38 45 h0)) (a := a_41) hx hb hK hH e_42 t_43 rfl (cell_301 t_43) b_44 d_M_pay_144 ?_
        refine lv_icmp_eq (tgt := 151) hx hb d_M_pay_145 (by decide) (fun c_45 => ?_) (fun c_45 => ?_)
        · have h := h.1 c_45
          refine mr_aload_n hx hb d_M_pay_151 rfl (lv_at hl 0 rfl) ?_
          refine lv_iload_n hx hb d_M_pay_152 rfl (lv_at hl 1 rfl) ?_
          refine lv_iconst (v := 3) hx hb d_M_pay_153 (by decide) ?_
          refine ms_calli (va_runV (As := [.int v1, .int 3]) (rest := []) ⟨hx, hb, hml, hown, hts⟩ (mc_M_failsNow l D A σ_38 h0 v1 3 _) ⟨(callB_of 2 hts gw_M_failsNow rfl rfl rfl (hts _ wd_4) (hts _ wd_544) (by decide +kernel) ⟨by decide, by decide⟩), (hts _ wd_546), (hts _ wq_14)⟩ ⟨mw_blind, mg_recv hK.1 hH (ci := 1) rfl (cell_1 t_40), fun U hU hW => ⟨rfl, mw_pass hH hK hA hS hU hW, mn_warm hW hn, h⟩⟩ rfl rfl hl.1 rfl (lv_room (Nat.le_of_ble_eq_true rfl)) d_M_pay_154 ⟨by decide, by decide⟩) hS (fun r_46 σ_47 H locs h hH hK hS => ?_)
          refine lv_if_eq (tgt := 163) hx hb d_M_pay_157 (by decide) (fun c_48 => ?_) (fun c_48 => ?_)
          · have h := h.1 c_48
            refine lv_lload hx hb d_M_pay_163 (lv_at hl 3 rfl) ?_
            refine lv_ldc2 (v := 86400) hx hb hown (hts _ wd_548) d_M_pay_165 ?_
            refine lv_ldiv hx hb d_M_pay_168 (by decide) ?_
            refine lv_topl (fun x_49 q_50 => ?_)
            have h := h x_49 q_50
            refine lv_lstore (lv' := [(9, .long x_49), (0, va_rf (some h0)), (1, .int v1), (4, .int v4), (5, .long v5), (7, .int v7)]) hx hb d_M_pay_169 hl (by decide) rfl (fun ls hl => ?_)
            refine mr_aload_n hx hb d_M_pay_171 rfl (lv_at hl 1 rfl) ?_
            refine lv_iload hx hb d_M_pay_172 (lv_at hl 5 rfl) ?_
            obtain ⟨t_51, h⟩ := h
            refine ms_calll (va_runV (As := [.int v7]) (rest := []) ⟨hx, hb, hml, hown, hts⟩ (mc_M_sumOf l D A σ_47 h0 v7 _) ⟨(callB_of 1 hts gw_M_sumOf rfl rfl rfl (hts _ wd_4) (hts _ wd_549) (by decide +kernel) ⟨by decide, by decide⟩), (hts _ wd_551), (hts _ wq_15)⟩ ⟨mw_blind, mg_recv hK.1 hH (ci := 1) rfl (cell_1 t_51), fun U hU hW => ⟨rfl, mw_pass hH hK hA hS hU hW, mn_warm hW hn, h⟩⟩ rfl rfl hl.1 rfl (lv_room (Nat.le_of_ble_eq_true rfl)) d_M_pay_174 ⟨by decide, by decide⟩) hS (fun r_52 σ_53 H locs h hH hK hS => ?_)
            refine lv_lstore (lv' := [(11, .long r_52), (9, .long x_49), (0, va_rf (some h0)), (1, .int v1), (4, .int v4), (5, .long v5), (7, .int v7)]) hx hb d_M_pay_177 hl (by decide) rfl (fun ls hl => ?_)
            refine mr_aload_n hx hb d_M_pay_179 rfl (lv_at hl 2 rfl) ?_
            obtain ⟨t_54, h⟩ := h
            refine ms_get (σ := σ_53) (r := some h0) (a := h0) (fs := fl_1 σ_53 h0) (ci := 1) (C := R_M) (T := T_M) (N := 32) hx hb hts in_1 hown hK hH rfl (cell_1 t_54) rfl 16 (by decide) (hts _ wd_433) (fun _ h9 => h9) (v := va_rf (st_R σ_53 56 h0)) rfl d_M_pay_180 ?_
            refine lv_iload_n hx hb d_M_pay_183 rfl (lv_at hl 3 rfl) ?_
            obtain ⟨a_55, e_56, t_57, h⟩ := h
            obtain ⟨b_58, h⟩ := h
            refine ms_lald (σ := σ_53) (r := (st_R σ_53 56 h0)) (a := a_55) hx hb hK hH e_56 t_57 rfl (cell_302 t_57) b_58 d_M_pay_184 ?_
            refine lv_lload hx hb d_M_pay_185 (lv_at hl 1 rfl) ?_
            refine W.lcmp hx hb d_M_pay_187 ?_
            refine lv_if_ne (tgt := 200) hx hb d_M_pay_188 (by decide) (fun c_59 => ?_) (fun c_59 => ?_)
            · have h := h.1 c_59
              refine lv_lconst (v := 0) hx hb d_M_pay_200 rfl ?_
              exact b_201 _ _ _ _ _ _ _ _ _ _ hH hK hS (lv_sub hl [2, 3, 4, 6, 1, 0] rfl) h
            · have h := h.2 c_59
              refine mr_aload_n hx hb d_M_pay_191 rfl (lv_at hl 2 rfl) ?_
              refine ms_get (σ := σ_53) (r := some h0) (a := h0) (fs := fl_1 σ_53 h0) (ci := 1) (C := R_M) (T := T_M) (N := 32) hx hb hts in_1 hown hK hH rfl (cell_1 t_54) rfl 17 (by decide) (hts _ wd_434) (fun _ h9 => h9) (v := va_rf (st_R σ_53 57 h0)) rfl d_M_pay_192 ?_
              refine lv_iload_n hx hb d_M_pay_195 rfl (lv_at hl 3 rfl) ?_
              obtain ⟨a_238, e_239, t_240, h⟩ := h
              obtain ⟨b_241, h⟩ := h
              refine ms_lald (σ := σ_53) (r := (st_R σ_53 57 h0)) (a := a_238) hx hb hK hH e_239 t_240 rfl (cell_302 t_240) b_241 d_M_pay_196 ?_
              refine lv_goto (tgt := 201) hx hb d_M_pay_197 (by decide) ?_
              exact b_201 _ _ _ _ _ _ _ _ _ _ hH hK hS (lv_sub hl [2, 3, 4, 6, 1, 0] rfl) h
          · have h := h.2 c_48
            refine lv_bipush (v := (-108)) hx hb d_M_pay_160 (by decide) ?_
            exact W.iret (v := (-108)) hx hb hr (fun t ht hW => ⟨⟨(-108), σ_47, rfl, h, mw_pass hH hK hA hS ht hW⟩, hS.F ht⟩) hS.2.2 d_M_pay_162
        · have h := h.2 c_45
          refine lv_bipush (v := (-105)) hx hb d_M_pay_148 (by decide) ?_
          exact W.iret (v := (-105)) hx hb hr (fun t ht hW => ⟨⟨(-105), σ_38, rfl, h, mw_pass hH hK hA hS ht hW⟩, hS.F ht⟩) hS.2.2 d_M_pay_150
      · have h := h.2 c_39
        refine lv_bipush (v := (-108)) hx hb d_M_pay_133 (by decide) ?_
        exact W.iret (v := (-108)) hx hb hr (fun t ht hW => ⟨⟨(-108), σ_38, rfl, h, mw_pass hH hK hA hS ht hW⟩, hS.F ht⟩) hS.2.2 d_M_pay_135
    · have h := h.2 c_35
      refine lv_bipush (v := (-108)) hx hb d_M_pay_121 (by decide) ?_
      exact W.iret (v := (-108)) hx hb hr (fun t ht hW => ⟨⟨(-108), σ_34, rfl, h, mw_pass hH hK hA hS ht hW⟩, hS.F ht⟩) hS.2.2 d_M_pay_123
  have b_59 : ∀ (σ : ST) (v1 : Int32) (v4 : Int32) (v5 : Int64) (v7 : Int32) (s0 : Int32) (H : Heap) (locs : List Loc) (ls : Array Slot), mg_H D vwCl A (st_cell σ) H → mk_K D σ s → va_S A s.heap H locs → lv_has ls 17 [(0, va_rf (some h0)), (1, .int v1), (4, .int v4), (5, .long v5), (7, .int v7)] → wb_M_pay_59 h0 K σ v1 v4 v5 v7 s0 → W p l e (headSpec ws_M_pay ROOM_M_pay).room s m ([.ref h0, .int p1, .long p2, .int p4, .long p5] : List Value).toArray below meth c H locs 0 0 (MQ below (va_Qi K (mw D A) A) ([.ref h0, .int p1, .long p2, .int p4, .long p5] : List Value).toArray s 0 0 A) (F0 m 59 ls [.int s0]) := by
    intro σ v1 v4 v5 v7 s0 H locs ls hH hK hS hl h
    unfold wb_M_pay_59 at h
    refine lv_istore (lv' := [(8, .int s0), (0, va_rf (some h0)), (1, .int v1), (4, .int v4), (5, .long v5), (7, .int v7)]) hx hb d_M_pay_59 hl (by decide) rfl (fun ls hl => ?_)
    refine mr_aload_n hx hb d_M_pay_61 rfl (lv_at hl 1 rfl) ?_
    obtain ⟨t_15, h⟩ := h
    refine ms_get (σ := σ) (r := some h0) (a := h0) (fs := fl_1 σ h0) (ci := 1) (C := R_M) (T := T_M) (N := 32) hx hb hts in_1 hown hK hH rfl (cell_1 t_15) rfl 1 (by decide) (hts _ wd_418) (fun _ h9 => h9) (v := va_rf (st_R σ 41 h0)) rfl d_M_pay_62 ?_
    refine lv_iload hx hb d_M_pay_65 (lv_at hl 5 rfl) ?_
    obtain ⟨a_16, e_17, t_18, h⟩ := h
    obtain ⟨b_19, h⟩ := h
    refine ms_iald (σ := σ) (r := (st_R σ 41 h0)) (a := a_16) hx hb hK hH e_17 t_18 rfl (cell_301 t_18) b_19 d_M_pay_67 ?_
    refine lv_if_ne (tgt := 109) hx hb d_M_pay_68 (by decide) (fun c_20 => ?_) (fun c_20 => ?_)
    · have h := h.1 c_20
      refine lv_bipush (v := (-103)) hx hb d_M_pay_109 (by decide) ?_
      exact W.iret (v := (-103)) hx hb hr (fun t ht hW => ⟨⟨(-103), σ, rfl, h, mw_pass hH hK hA hS ht hW⟩, hS.F ht⟩) hS.2.2 d_M_pay_111
    · have h := h.2 c_20
      refine lv_lload hx hb d_M_pay_71 (lv_at hl 4 rfl) ?_
      refine mr_aload_n hx hb d_M_pay_73 rfl (lv_at hl 1 rfl) ?_
      refine ms_get (σ := σ) (r := some h0) (a := h0) (fs := fl_1 σ h0) (ci := 1) (C := R_M) (T := T_M) (N := 32) hx hb hts in_1 hown hK hH rfl (cell_1 t_15) rfl 3 (by decide) (hts _ wd_420) (fun _ h9 => h9) (v := va_rf (st_R σ 43 h0)) rfl d_M_pay_74 ?_
      refine lv_iload hx hb d_M_pay_77 (lv_at hl 5 rfl) ?_
      obtain ⟨a_21, e_22, t_23, h⟩ := h
      obtain ⟨b_24, h⟩ := h
      refine ms_lald (σ := σ) (r := (st_R σ 43 h0)) (a := a_21) hx hb hK hH e_22 t_23 rfl (cell_302 t_23) b_24 d_M_pay_79 ?_
      refine W.lcmp hx hb d_M_pay_80 ?_
      refine lv_if_gt (tgt := 109) hx hb d_M_pay_81 (by decide) (fun c_25 => ?_) (fun c_25 => ?_)
      · have h := h.1 c_25
        refine lv_bipush (v := (-103)) hx hb d_M_pay_109 (by decide) ?_
        exact W.iret (v := (-103)) hx hb hr (fun t ht hW => ⟨⟨(-103), σ, rfl, h, mw_pass hH hK hA hS ht hW⟩, hS.F ht⟩) hS.2.2 d_M_pay_111
      · have h := h.2 c_25
        refine lv_iload hx hb d_M_pay_84 (lv_at hl 0 rfl) ?_
        refine lv_if_ne (tgt := 109) hx hb d_M_pay_86 (by decide) (fun c_26 => ?_) (fun c_26 => ?_)
        · have h := h.1 c_26
          refine lv_bipush (v := (-103)) hx hb d_M_pay_109 (by decide) ?_
          exact W.iret (v := (-103)) hx hb hr (fun t ht hW => ⟨⟨(-103), σ, rfl, h, mw_pass hH hK hA hS ht hW⟩, hS.F ht⟩) hS.2.2 d_M_pay_111
        · have h := h.2 c_26
          refine mr_aload_n hx hb d_M_pay_89 rfl (lv_at hl 1 rfl) ?_
          refine ms_get (σ := σ) (r := some h0) (a := h0) (fs := fl_1 σ h0) (ci := 1) (C := R_M) (T := T_M) (N := 32) hx hb hts in_1 hown hK hH rfl (cell_1 t_15) rfl 14 (by decide) (hts _ wd_431) (fun _ h9 => h9) (v := va_rf (st_R σ 54 h0)) rfl d_M_pay_90 ?_
          refine lv_iload_n hx hb d_M_pay_93 rfl (lv_at hl 2 rfl) ?_
          obtain ⟨a_27, e_28, t_29, h⟩ := h
          obtain ⟨b_30, h⟩ := h
          refine ms_zald (σ := σ) (r := (st_R σ 54 h0)) (a := a_27) hx hb hK hH e_28 t_29 rfl (cell_303 t_29) b_30 d_M_pay_94 ?_
          refine lv_if_eq (tgt := 112) hx hb d_M_pay_95 (by decide) (fun c_31 => ?_) (fun c_31 => ?_)
          · have h := h.1 c_31
            exact b_112 _ _ _ _ _ _ _ _ hH hK hS (lv_sub hl [1, 2, 3, 4, 5] rfl) h
          · have h := h.2 c_31
            refine mr_aload_n hx hb d_M_pay_98 rfl (lv_at hl 1 rfl) ?_
            refine ms_get (σ := σ) (r := some h0) (a := h0) (fs := fl_1 σ h0) (ci := 1) (C := R_M) (T := T_M) (N := 32) hx hb hts in_1 hown hK hH rfl (cell_1 t_15) rfl 8 (by decide) (hts _ wd_425) (fun _ h9 => h9) (v := va_rf (st_R σ 48 h0)) rfl d_M_pay_99 ?_
            refine lv_iload hx hb d_M_pay_102 (lv_at hl 5 rfl) ?_
            obtain ⟨a_242, e_243, t_244, h⟩ := h
            obtain ⟨b_245, h⟩ := h
            refine ms_iald (σ := σ) (r := (st_R σ 48 h0)) (a := a_242) hx hb hK hH e_243 t_244 rfl (cell_301 t_244) b_245 d_M_pay_104 ?_
            refine lv_iload_n hx hb d_M_pay_105 rfl (lv_at hl 2 rfl) ?_
            refine lv_icmp_eq (tgt := 112) hx hb d_M_pay_106 (by decide) (fun c_246 => ?_) (fun c_246 => ?_)
            · have h := h.1 c_246
              exact b_112 _ _ _ _ _ _ _ _ hH hK hS (lv_sub hl [1, 2, 3, 4, 5] rfl) h
            · have h := h.2 c_246
              refine lv_bipush (v := (-103)) hx hb d_M_pay_109 (by decide) ?_
              exact W.iret (v := (-103)) hx hb hr (fun t ht hW => ⟨⟨(-103), σ, rfl, h, mw_pass hH hK hA hS ht hW⟩, hS.F ht⟩) hS.2.2 d_M_pay_111
  have b_58 : ∀ (σ : ST) (v1 : Int32) (v4 : Int32) (v5 : Int64) (v7 : Int32) (H : Heap) (locs : List Loc) (ls : Array Slot), mg_H D vwCl A (st_cell σ) H → mk_K D σ s → va_S A s.heap H locs → lv_has ls 17 [(0, va_rf (some h0)), (1, .int v1), (4, .int v4), (5, .long v5), (7, .int v7)] → wb_M_pay_58 h0 K σ v1 v4 v5 v7 → W p l e (headSpec ws_M_pay ROOM_M_pay).room s m ([.ref h0, .int p1, .long p2, .int p4, .long p5] : List Value).toArray below meth c H locs 0 0 (MQ below (va_Qi K (mw D A) A) ([.ref h0, .int p1, .long p2, .int p4, .long p5] : List Value).toArray s 0 0 A) (F0 m 58 ls []) := by
    intro σ v1 v4 v5 v7 H locs ls hH hK hS hl h
    unfold wb_M_pay_58 at h
    refine lv_iconst (v := 0) hx hb d_M_pay_58 (by decide) ?_
    exact b_59 _ _ _ _ _ _ _ _ _ hH hK hS (lv_sub hl [0, 1, 2, 3, 4] rfl) h
  have hS : va_S A s.heap s.heap [] := va_S.rf
  have hl := lv_entry ([.ref h0, .int p1, .long p2, .int p4, .long p5]) (n := 17) (Nat.le_of_ble_eq_true rfl)
  rw [lg_entry_eq]
  generalize (lg_sl ([.ref h0, .int p1, .long p2, .int p4, .long p5]) ++ List.replicate (17 - (lg_sl ([.ref h0, .int p1, .long p2, .int p4, .long p5])).length) Slot.unset).toArray = ls at hl ⊢
  have hl : lv_has ls 17 [(0, va_rf (some h0)), (1, .int p1), (2, .long p2), (4, .int p4), (5, .long p5)] := hl
  unfold wp_M_pay at h
  refine mr_aload_n hx hb d_M_pay_0 rfl (lv_at hl 0 rfl) ?_
  refine lv_lload_n hx hb d_M_pay_1 rfl (lv_at hl 2 rfl) ?_
  obtain ⟨t_1, h⟩ := h
  refine ms_calli (va_runV (As := [.long p2]) (rest := []) ⟨hx, hb, hml, hown, hts⟩ (mc_M_find l D A σ h0 p2 _) ⟨(callB_of 1 hts gw_M_find rfl rfl rfl (hts _ wd_4) (hts _ wd_540) (by decide +kernel) ⟨by decide, by decide⟩), (hts _ wd_542), (hts _ wq_13)⟩ ⟨mw_blind, mg_recv hK.1 hH (ci := 1) rfl (cell_1 t_1), fun U hU hW => ⟨rfl, mw_pass hH hK hA hS hU hW, mn_warm hW hn, h⟩⟩ rfl rfl hl.1 rfl (lv_room (Nat.le_of_ble_eq_true rfl)) d_M_pay_2 ⟨by decide, by decide⟩) hS (fun r_2 σ_3 H locs h hH hK hS => ?_)
  refine lv_istore (lv' := [(7, .int r_2), (0, va_rf (some h0)), (1, .int p1), (2, .long p2), (4, .int p4), (5, .long p5)]) hx hb d_M_pay_5 hl (by decide) rfl (fun ls hl => ?_)
  refine lv_iload hx hb d_M_pay_7 (lv_at hl 0 rfl) ?_
  refine lv_if_ne (tgt := 15) hx hb d_M_pay_9 (by decide) (fun c_4 => ?_) (fun c_4 => ?_)
  · have h := h.1 c_4
    refine lv_iload_n hx hb d_M_pay_15 rfl (lv_at hl 2 rfl) ?_
    refine ms_calli (va_runS (As := [.int p1]) (rest := []) ⟨hx, hb, hml, hown, hts⟩ (mc_M_isOffice l D A σ_3 p1 _) ⟨(callB_of 1 hts gw_M_isOffice rfl rfl rfl (hts _ wd_4) (hts _ wd_520) (by decide +kernel) ⟨by decide, by decide⟩), (hts _ wd_521)⟩ ⟨mw_blind, fun U hU hW => ⟨rfl, mw_pass hH hK hA hS hU hW, mn_warm hW hn, h⟩⟩ rfl rfl hl.1 rfl (lv_room (Nat.le_of_ble_eq_true rfl)) d_M_pay_16 ⟨by decide, by decide⟩) hS (fun r_5 σ_6 H locs h hH hK hS => ?_)
    refine lv_if_eq (tgt := 29) hx hb d_M_pay_19 (by decide) (fun c_7 => ?_) (fun c_7 => ?_)
    · have h := h.1 c_7
      refine lv_bipush (v := (-102)) hx hb d_M_pay_29 (by decide) ?_
      exact W.iret (v := (-102)) hx hb hr (fun t ht hW => ⟨⟨(-102), σ_6, rfl, h, mw_pass hH hK hA hS ht hW⟩, hS.F ht⟩) hS.2.2 d_M_pay_31
    · have h := h.2 c_7
      refine lv_lload hx hb d_M_pay_22 (lv_at hl 5 rfl) ?_
      refine lv_lconst (v := 0) hx hb d_M_pay_24 rfl ?_
      refine W.lcmp hx hb d_M_pay_25 ?_
      refine lv_if_ge (tgt := 32) hx hb d_M_pay_26 (by decide) (fun c_8 => ?_) (fun c_8 => ?_)
      · have h := h.1 c_8
        refine mr_aload_n hx hb d_M_pay_32 rfl (lv_at hl 1 rfl) ?_
        obtain ⟨t_9, h⟩ := h
        refine ms_get (σ := σ_6) (r := some h0) (a := h0) (fs := fl_1 σ_6 h0) (ci := 1) (C := R_M) (T := T_M) (N := 32) hx hb hts in_1 hown hK hH rfl (cell_1 t_9) rfl 8 (by decide) (hts _ wd_425) (fun _ h9 => h9) (v := va_rf (st_R σ_6 48 h0)) rfl d_M_pay_33 ?_
        refine lv_iload hx hb d_M_pay_36 (lv_at hl 0 rfl) ?_
        obtain ⟨a_10, e_11, t_12, h⟩ := h
        obtain ⟨b_13, h⟩ := h
        refine ms_iald (σ := σ_6) (r := (st_R σ_6 48 h0)) (a := a_10) hx hb hK hH e_11 t_12 rfl (cell_301 t_12) b_13 d_M_pay_38 ?_
        refine lv_iconst (v := (-1)) hx hb d_M_pay_39 (by decide) ?_
        refine lv_icmp_eq (tgt := 58) hx hb d_M_pay_40 (by decide) (fun c_14 => ?_) (fun c_14 => ?_)
        · have h := h.1 c_14
          exact b_58 _ _ _ _ _ _ _ _ hH hK hS (lv_sub hl [1, 2, 4, 5, 0] rfl) h
        · have h := h.2 c_14
          refine mr_aload_n hx hb d_M_pay_43 rfl (lv_at hl 1 rfl) ?_
          refine ms_get (σ := σ_6) (r := some h0) (a := h0) (fs := fl_1 σ_6 h0) (ci := 1) (C := R_M) (T := T_M) (N := 32) hx hb hts in_1 hown hK hH rfl (cell_1 t_9) rfl 8 (by decide) (hts _ wd_425) (fun _ h9 => h9) (v := va_rf (st_R σ_6 48 h0)) rfl d_M_pay_44 ?_
          refine lv_iload hx hb d_M_pay_47 (lv_at hl 0 rfl) ?_
          obtain ⟨b_247, h⟩ := h
          refine ms_iald (σ := σ_6) (r := (st_R σ_6 48 h0)) (a := a_10) hx hb hK hH e_11 t_12 rfl (cell_301 t_12) b_247 d_M_pay_49 ?_
          refine lv_iload_n hx hb d_M_pay_50 rfl (lv_at hl 2 rfl) ?_
          refine lv_icmp_eq (tgt := 58) hx hb d_M_pay_51 (by decide) (fun c_248 => ?_) (fun c_248 => ?_)
          · have h := h.1 c_248
            exact b_58 _ _ _ _ _ _ _ _ hH hK hS (lv_sub hl [1, 2, 4, 5, 0] rfl) h
          · have h := h.2 c_248
            refine lv_iconst (v := 1) hx hb d_M_pay_54 (by decide) ?_
            refine lv_goto (tgt := 59) hx hb d_M_pay_55 (by decide) ?_
            exact b_59 _ _ _ _ _ _ _ _ _ hH hK hS (lv_sub hl [1, 2, 4, 5, 0] rfl) h
      · have h := h.2 c_8
        refine lv_bipush (v := (-102)) hx hb d_M_pay_29 (by decide) ?_
        exact W.iret (v := (-102)) hx hb hr (fun t ht hW => ⟨⟨(-102), σ_6, rfl, h, mw_pass hH hK hA hS ht hW⟩, hS.F ht⟩) hS.2.2 d_M_pay_31
  · have h := h.2 c_4
    refine lv_bipush (v := (-101)) hx hb d_M_pay_12 (by decide) ?_
    exact W.iret (v := (-101)) hx hb hr (fun t ht hW => ⟨⟨(-101), σ_3, rfl, h, mw_pass hH hK hA hS ht hW⟩, hS.F ht⟩) hS.2.2 d_M_pay_14
def wb_M_fails_41 (h0 : Nat) (K : Int32 → ST → Prop) (σ : ST) (v1 : Int32) (v2 : Int32) (s0 : Int32) : Prop :=
  st_tg σ h0 = some 1 ∧ (∃ a_14 : Nat, (st_R σ 55 h0) = some a_14 ∧ st_tg σ a_14 = some 301 ∧ (vp_in v1 (st_ln σ a_14) ∧ (vp_in v1 (st_ln σ a_14) ∧ (∀ σ_19 : ST, σ_19 = st_uI σ a_14 (Int32.toNatClampNeg v1) ((((st_eI σ a_14 (Int32.toNatClampNeg v1))) ||| ((1 <<< (v2 &&& 31))))) → ((((s0 = 0) → K 1 σ_19) ∧
  ((¬ s0 = 0) → K 0 σ_19)))))))
def wp_M_fails (σ : ST) (h0 : Nat) (p1 : Int32) (p2 : Int32) (K : Int32 → ST → Prop) : Prop :=
  wp_M_isOffice σ p1 (fun (r_1 : Int32) σ_2 =>
  (((r_1 = 0) → K ((-102)) σ_2) ∧
  ((¬ r_1 = 0) → wp_M_in σ_2 ((Int32.toInt64 p2)) 1 5 (fun (r_4 : Int32) σ_5 =>
  (((¬ r_4 = 0) → st_tg σ_5 h0 = some 1 ∧ (∃ a_8 : Nat, (st_R σ_5 55 h0) = some a_8 ∧ st_tg σ_5 a_8 = some 301 ∧ (vp_in p1 (st_ln σ_5 a_8) ∧ ((((¬ ((((((st_eI σ_5 a_8 (Int32.toNatClampNeg p1))) >>> (p2 &&& 31))) &&& 1)) = (1 : Int32)) → wb_M_fails_41 h0 K σ_5 p1 p2 0) ∧
  ((((((((st_eI σ_5 a_8 (Int32.toNatClampNeg p1))) >>> (p2 &&& 31))) &&& 1)) = (1 : Int32)) → wb_M_fails_41 h0 K σ_5 p1 p2 1)))))) ∧
  ((r_4 = 0) → K ((-102)) σ_5))))))
abbrev ROOM_M_fails : Room := { frames := 2, cells := 0, slots := 0, locals := 45 }
set_option maxHeartbeats 4000000 in
set_option maxRecDepth 100000 in
theorem mc_M_fails (l : Launch) (D : va_G) (A : Nat → Prop) (σ : ST) (h0 : Nat) (p1 : Int32) (p2 : Int32) (K : Int32 → ST → Prop) : Met l y_M_fails ws_M_fails ROOM_M_fails (va_Pc [.ref h0, .int p1, .int p2] (fun U => mw D A σ U ∧ mn U ∧ wp_M_fails σ h0 p1 p2 K)) (va_Qi K (mw D A) A) 0 0 A := by
  refine Met.ofW (cc := c_M_fails) (maxL := 4) (ret := (some .int)) (by decide) rfl ?_
  intro p e s m args below meth c s₁ B hml hv
  obtain ⟨rfl, ⟨hH, hK, hA⟩, hn, h⟩ := hv
  have hx := B.exec
  have hb := B.bytes
  have hr := B.returns
  have hts := atoms_spec (ws := ws_M_fails) B.pre
  have hown : s.vm.findClass R_M = some m.cls := findClass_of_methodNamed B.named
  have hlocks := B.notSynchronized
  have hts : ∀ w ∈ lw_g, w.before ([.ref h0, .int p1, .int p2] : List Value).toArray s = true := fun w hw => hts w (List.mem_cons_of_mem _ hw)
  have b_41 : ∀ (σ : ST) (v1 : Int32) (v2 : Int32) (s0 : Int32) (H : Heap) (locs : List Loc) (ls : Array Slot), mg_H D vwCl A (st_cell σ) H → mk_K D σ s → va_S A s.heap H locs → lv_has ls 4 [(0, va_rf (some h0)), (1, .int v1), (2, .int v2)] → wb_M_fails_41 h0 K σ v1 v2 s0 → W p l e (headSpec ws_M_fails ROOM_M_fails).room s m ([.ref h0, .int p1, .int p2] : List Value).toArray below meth c H locs 0 0 (MQ below (va_Qi K (mw D A) A) ([.ref h0, .int p1, .int p2] : List Value).toArray s 0 0 A) (F0 m 41 ls [.int s0]) := by
    intro σ v1 v2 s0 H locs ls hH hK hS hl h
    unfold wb_M_fails_41 at h
    refine lv_istore_n (lv' := [(3, .int s0), (0, va_rf (some h0)), (1, .int v1), (2, .int v2)]) hx hb d_M_fails_41 rfl hl (by decide) rfl (fun ls hl => ?_)
    refine mr_aload_n hx hb d_M_fails_42 rfl (lv_at hl 1 rfl) ?_
    obtain ⟨t_13, h⟩ := h
    refine ms_get (σ := σ) (r := some h0) (a := h0) (fs := fl_1 σ h0) (ci := 1) (C := R_M) (T := T_M) (N := 32) hx hb hts in_1 hown hK hH rfl (cell_1 t_13) rfl 15 (by decide) (hts _ wd_432) (fun _ h9 => h9) (v := va_rf (st_R σ 55 h0)) rfl d_M_fails_43 ?_
    refine lv_iload_n hx hb d_M_fails_46 rfl (lv_at hl 2 rfl) ?_
    refine lv_dup2_11 hx hb d_M_fails_47 rfl (cat_rf _) ?_
    obtain ⟨a_14, e_15, t_16, h⟩ := h
    obtain ⟨b_17, h⟩ := h
    refine ms_iald (σ := σ) (r := (st_R σ 55 h0)) (a := a_14) hx hb hK hH e_15 t_16 rfl (cell_301 t_16) b_17 d_M_fails_48 ?_
    refine lv_iconst (v := 1) hx hb d_M_fails_49 (by decide) ?_
    refine lv_iload_n hx hb d_M_fails_50 rfl (lv_at hl 3 rfl) ?_
    refine lv_ishl hx hb d_M_fails_51 ?_
    refine lv_ior hx hb d_M_fails_52 ?_
    obtain ⟨b_18, h⟩ := h
    obtain ⟨σ_19, z_20⟩ : ∃ y : ST, y = st_uI σ a_14 (Int32.toNatClampNeg v1) ((((st_eI σ a_14 (Int32.toNatClampNeg v1))) ||| ((1 <<< (v2 &&& 31))))) := ⟨_, rfl⟩
    have h := h σ_19 z_20
    refine ms_iast (σ := σ) (r := (st_R σ 55 h0)) (a := a_14) (x := (((st_eI σ a_14 (Int32.toNatClampNeg v1))) ||| ((1 <<< (v2 &&& 31))))) hx hb hK hH hS e_15 t_16 rfl (cell_301 t_16)  b_18 d_M_fails_53 (σ1 := σ_19) (by rw [z_20]; exact uput_301 σ a_14 _ ((((st_eI σ a_14 (Int32.toNatClampNeg v1))) ||| ((1 <<< (v2 &&& 31))))) t_16) (by rw [z_20]; rfl) (by rw [z_20]; rfl) (fun H locs hH hK hS => ?_)
    have t_21 : st_tg σ_19 h0 = some 1 := by rw [z_20]; exact t_13
    have t_22 : st_tg σ_19 a_14 = some 301 := by rw [z_20]; exact t_16
    refine lv_iload_n hx hb d_M_fails_54 rfl (lv_at hl 0 rfl) ?_
    refine lv_if_eq (tgt := 62) hx hb d_M_fails_55 (by decide) (fun c_23 => ?_) (fun c_23 => ?_)
    · have h := h.1 c_23
      refine lv_iconst (v := 1) hx hb d_M_fails_62 (by decide) ?_
      exact W.iret (v := 1) hx hb hr (fun t ht hW => ⟨⟨1, σ_19, rfl, h, mw_pass hH hK hA hS ht hW⟩, hS.F ht⟩) hS.2.2 d_M_fails_63
    · have h := h.2 c_23
      refine lv_iconst (v := 0) hx hb d_M_fails_58 (by decide) ?_
      refine lv_goto (tgt := 63) hx hb d_M_fails_59 (by decide) ?_
      exact W.iret (v := 0) hx hb hr (fun t ht hW => ⟨⟨0, σ_19, rfl, h, mw_pass hH hK hA hS ht hW⟩, hS.F ht⟩) hS.2.2 d_M_fails_63
  have hS : va_S A s.heap s.heap [] := va_S.rf
  have hl := lv_entry ([.ref h0, .int p1, .int p2]) (n := 4) (Nat.le_of_ble_eq_true rfl)
  rw [lg_entry_eq]
  generalize (lg_sl ([.ref h0, .int p1, .int p2]) ++ List.replicate (4 - (lg_sl ([.ref h0, .int p1, .int p2])).length) Slot.unset).toArray = ls at hl ⊢
  have hl : lv_has ls 4 [(0, va_rf (some h0)), (1, .int p1), (2, .int p2)] := hl
  unfold wp_M_fails at h
  refine lv_iload_n hx hb d_M_fails_0 rfl (lv_at hl 1 rfl) ?_
  refine ms_calli (va_runS (As := [.int p1]) (rest := []) ⟨hx, hb, hml, hown, hts⟩ (mc_M_isOffice l D A σ p1 _) ⟨(callB_of 1 hts gw_M_isOffice rfl rfl rfl (hts _ wd_4) (hts _ wd_520) (by decide +kernel) ⟨by decide, by decide⟩), (hts _ wd_521)⟩ ⟨mw_blind, fun U hU hW => ⟨rfl, mw_pass hH hK hA hS hU hW, mn_warm hW hn, h⟩⟩ rfl rfl hl.1 rfl (lv_room (Nat.le_of_ble_eq_true rfl)) d_M_fails_1 ⟨by decide, by decide⟩) hS (fun r_1 σ_2 H locs h hH hK hS => ?_)
  refine lv_if_eq (tgt := 19) hx hb d_M_fails_4 (by decide) (fun c_3 => ?_) (fun c_3 => ?_)
  · have h := h.1 c_3
    refine lv_bipush (v := (-102)) hx hb d_M_fails_19 (by decide) ?_
    exact W.iret (v := (-102)) hx hb hr (fun t ht hW => ⟨⟨(-102), σ_2, rfl, h, mw_pass hH hK hA hS ht hW⟩, hS.F ht⟩) hS.2.2 d_M_fails_21
  · have h := h.2 c_3
    refine lv_iload_n hx hb d_M_fails_7 rfl (lv_at hl 2 rfl) ?_
    refine lv_i2l hx hb d_M_fails_8 rfl ?_
    refine lv_lconst (v := 1) hx hb d_M_fails_9 rfl ?_
    refine lv_ldc2 (v := 5) hx hb hown (hts _ wd_557) d_M_fails_10 ?_
    refine ms_calli (va_runS (As := [.long (Int32.toInt64 p2), .long 1, .long 5]) (rest := []) ⟨hx, hb, hml, hown, hts⟩ (mc_M_in l D A σ_2 ((Int32.toInt64 p2)) 1 5 _) ⟨(callB_of 3 hts gw_M_in rfl rfl rfl (hts _ wd_4) (hts _ wd_524) (by decide +kernel) ⟨by decide, by decide⟩), (hts _ wd_525)⟩ ⟨mw_blind, fun U hU hW => ⟨rfl, mw_pass hH hK hA hS hU hW, mn_warm hW hn, h⟩⟩ rfl rfl hl.1 rfl (lv_room (Nat.le_of_ble_eq_true rfl)) d_M_fails_13 ⟨by decide, by decide⟩) hS (fun r_4 σ_5 H locs h hH hK hS => ?_)
    refine lv_if_ne (tgt := 22) hx hb d_M_fails_16 (by decide) (fun c_6 => ?_) (fun c_6 => ?_)
    · have h := h.1 c_6
      refine mr_aload_n hx hb d_M_fails_22 rfl (lv_at hl 0 rfl) ?_
      obtain ⟨t_7, h⟩ := h
      refine ms_get (σ := σ_5) (r := some h0) (a := h0) (fs := fl_1 σ_5 h0) (ci := 1) (C := R_M) (T := T_M) (N := 32) hx hb hts in_1 hown hK hH rfl (cell_1 t_7) rfl 15 (by decide) (hts _ wd_432) (fun _ h9 => h9) (v := va_rf (st_R σ_5 55 h0)) rfl d_M_fails_23 ?_
      refine lv_iload_n hx hb d_M_fails_26 rfl (lv_at hl 1 rfl) ?_
      obtain ⟨a_8, e_9, t_10, h⟩ := h
      obtain ⟨b_11, h⟩ := h
      refine ms_iald (σ := σ_5) (r := (st_R σ_5 55 h0)) (a := a_8) hx hb hK hH e_9 t_10 rfl (cell_301 t_10) b_11 d_M_fails_27 ?_
      refine lv_iload_n hx hb d_M_fails_28 rfl (lv_at hl 2 rfl) ?_
      refine lv_ishr hx hb d_M_fails_29 ?_
      refine lv_iconst (v := 1) hx hb d_M_fails_30 (by decide) ?_
      refine lv_iand hx hb d_M_fails_31 ?_
      refine lv_iconst (v := 1) hx hb d_M_fails_32 (by decide) ?_
      refine lv_icmp_ne (tgt := 40) hx hb d_M_fails_33 (by decide) (fun c_12 => ?_) (fun c_12 => ?_)
      · have h := h.1 c_12
        refine lv_iconst (v := 0) hx hb d_M_fails_40 (by decide) ?_
        exact b_41 _ _ _ _ _ _ _ hH hK hS (lv_sub hl [0, 1, 2] rfl) h
      · have h := h.2 c_12
        refine lv_iconst (v := 1) hx hb d_M_fails_36 (by decide) ?_
        refine lv_goto (tgt := 41) hx hb d_M_fails_37 (by decide) ?_
        exact b_41 _ _ _ _ _ _ _ hH hK hS (lv_sub hl [0, 1, 2] rfl) h
    · have h := h.2 c_6
      refine lv_bipush (v := (-102)) hx hb d_M_fails_19 (by decide) ?_
      exact W.iret (v := (-102)) hx hb hr (fun t ht hW => ⟨⟨(-102), σ_5, rfl, h, mw_pass hH hK hA hS ht hW⟩, hS.F ht⟩) hS.2.2 d_M_fails_21
