def wb_M_pass_22 (h0 : Nat) (K : Int32 → ST → Prop) : Nat → ST → Int32 → Int32 → Int32 → Int32 → Prop
  | 0, _, _, _, _, _ => False
  | n + 1, σ, v1, v2, v3, v4 =>
  st_tg σ h0 = some 1 ∧ ((((((st_I σ 67 h0)) ≤ v4) → ∀ σ_6 : ST, σ_6 = st_sI σ 67 h0 v2 → (K v3 σ_6)) ∧
  ((¬ ((st_I σ 67 h0)) ≤ v4) → ∃ a_9 : Nat, (st_R σ 70 h0) = some a_9 ∧ st_tg σ a_9 = some 301 ∧ (vp_in v4 (st_ln σ a_9) ∧ ((((v1 < ((st_eI σ a_9 (Int32.toNatClampNeg v4)))) → ∃ a_14 : Nat, (st_R σ 68 h0) = some a_14 ∧ st_tg σ a_14 = some 301 ∧ (vp_in v4 (st_ln σ a_14) ∧ (vp_in v2 (st_ln σ a_14) ∧ (∀ σ_19 : ST, σ_19 = st_uI σ a_14 (Int32.toNatClampNeg v2) ((st_eI σ a_14 (Int32.toNatClampNeg v4))) → (∃ a_24 : Nat, (st_R σ_19 69 h0) = some a_24 ∧ st_tg σ_19 a_24 = some 302 ∧ (vp_in v4 (st_ln σ_19 a_24) ∧ (vp_in v2 (st_ln σ_19 a_24) ∧ (∀ σ_29 : ST, σ_29 = st_uJ σ_19 a_24 (Int32.toNatClampNeg v2) ((st_eJ σ_19 a_24 (Int32.toNatClampNeg v4))) → (∃ a_35 : Nat, (st_R σ_29 70 h0) = some a_35 ∧ st_tg σ_29 a_35 = some 301 ∧ (vp_in v4 (st_ln σ_29 a_35) ∧ (vp_in v2 (st_ln σ_29 a_35) ∧ (∀ σ_40 : ST, σ_40 = st_uI σ_29 a_35 (Int32.toNatClampNeg v2) ((st_eI σ_29 a_35 (Int32.toNatClampNeg v4))) → (∀ x_47 : Int32, x_47 = v2 + 1 → (∀ x_49 : Int32, x_49 = v4 + 1 → (wb_M_pass_22 h0 K n σ_40 v1 x_47 v3 x_49))))))))))))))) ∧
  ((¬ v1 < ((st_eI σ a_9 (Int32.toNatClampNeg v4)))) → ∃ a_51 : Nat, (st_R σ 68 h0) = some a_51 ∧ st_tg σ a_51 = some 301 ∧ (vp_in v4 (st_ln σ a_51) ∧ (∃ a_55 : Nat, (st_R σ 52 h0) = some a_55 ∧ st_tg σ a_55 = some 302 ∧ (vp_in ((st_eI σ a_51 (Int32.toNatClampNeg v4))) (st_ln σ a_55) ∧ (∃ a_59 : Nat, (st_R σ 69 h0) = some a_59 ∧ st_tg σ a_59 = some 302 ∧ (vp_in v4 (st_ln σ a_59) ∧ ((((((lg_cmp ((st_eJ σ a_55 (Int32.toNatClampNeg ((st_eI σ a_51 (Int32.toNatClampNeg v4)))))) ((st_eJ σ a_59 (Int32.toNatClampNeg v4))))) < 0) → vp_in v4 (st_ln σ a_51) ∧ (vp_in v2 (st_ln σ a_51) ∧ (∀ σ_66 : ST, σ_66 = st_uI σ a_51 (Int32.toNatClampNeg v2) ((st_eI σ a_51 (Int32.toNatClampNeg v4))) → (∃ a_73 : Nat, (st_R σ_66 69 h0) = some a_73 ∧ st_tg σ_66 a_73 = some 302 ∧ (vp_in v4 (st_ln σ_66 a_73) ∧ (vp_in v2 (st_ln σ_66 a_73) ∧ (∀ σ_78 : ST, σ_78 = st_uJ σ_66 a_73 (Int32.toNatClampNeg v2) ((st_eJ σ_66 a_73 (Int32.toNatClampNeg v4))) → (∃ a_86 : Nat, (st_R σ_78 70 h0) = some a_86 ∧ st_tg σ_78 a_86 = some 301 ∧ (vp_in v4 (st_ln σ_78 a_86) ∧ (vp_in v2 (st_ln σ_78 a_86) ∧ (∀ σ_91 : ST, σ_91 = st_uI σ_78 a_86 (Int32.toNatClampNeg v2) ((st_eI σ_78 a_86 (Int32.toNatClampNeg v4))) → (∀ x_100 : Int32, x_100 = v2 + 1 → (∀ x_102 : Int32, x_102 = v4 + 1 → (wb_M_pass_22 h0 K n σ_91 v1 x_100 v3 x_102)))))))))))))) ∧
  ((¬ ((lg_cmp ((st_eJ σ a_55 (Int32.toNatClampNeg ((st_eI σ a_51 (Int32.toNatClampNeg v4)))))) ((st_eJ σ a_59 (Int32.toNatClampNeg v4))))) < 0) → vp_in v4 (st_ln σ a_51) ∧ (vp_in ((st_eI σ a_51 (Int32.toNatClampNeg v4))) (st_ln σ a_55) ∧ (vp_in v4 (st_ln σ a_59) ∧ (vp_in ((st_eI σ a_51 (Int32.toNatClampNeg v4))) (st_ln σ a_55) ∧ (∀ σ_108 : ST, σ_108 = st_uJ σ a_55 (Int32.toNatClampNeg ((st_eI σ a_51 (Int32.toNatClampNeg v4)))) ((((st_eJ σ a_55 (Int32.toNatClampNeg ((st_eI σ a_51 (Int32.toNatClampNeg v4)))))) - ((st_eJ σ a_59 (Int32.toNatClampNeg v4))))) → (∃ a_115 : Nat, (st_R σ_108 71 h0) = some a_115 ∧ st_tg σ_108 a_115 = some 302 ∧ (vp_in 3 (st_ln σ_108 a_115) ∧ (∃ a_119 : Nat, (st_R σ_108 69 h0) = some a_119 ∧ st_tg σ_108 a_119 = some 302 ∧ (vp_in v4 (st_ln σ_108 a_119) ∧ (vp_in 3 (st_ln σ_108 a_115) ∧ (∀ σ_124 : ST, σ_124 = st_uJ σ_108 a_115 (Int32.toNatClampNeg 3) ((((st_eJ σ_108 a_115 (Int32.toNatClampNeg 3))) + ((st_eJ σ_108 a_119 (Int32.toNatClampNeg v4))))) → (∀ x_133 : Int32, x_133 = v3 + 1 → (∀ x_135 : Int32, x_135 = v4 + 1 → (wb_M_pass_22 h0 K n σ_124 v1 v2 x_133 x_135))))))))))))))))))))))))))))
def wp_M_pass (σ : ST) (h0 : Nat) (p1 : Int32) (K : Int32 → ST → Prop) : Prop :=
  wp_M_in σ ((Int32.toInt64 p1)) 0 9999 (fun (r_1 : Int32) σ_2 =>
  (((¬ r_1 = 0) → ∃ n : Nat, wb_M_pass_22 h0 K n σ_2 p1 0 0 0) ∧
  ((r_1 = 0) → K ((-102)) σ_2)))
abbrev ROOM_M_pass : Room := { frames := 1, cells := 0, slots := 0, locals := 25 }
set_option maxHeartbeats 4000000 in
set_option maxRecDepth 100000 in
theorem mc_M_pass (l : Launch) (D : va_G) (A : Nat → Prop) (σ : ST) (h0 : Nat) (p1 : Int32) (K : Int32 → ST → Prop) : Met l y_M_pass ws_M_pass ROOM_M_pass (va_Pc [.ref h0, .int p1] (fun U => mw D A σ U ∧ mn U ∧ wp_M_pass σ h0 p1 K)) (va_Qi K (mw D A) A) 0 0 A := by
  refine Met.ofW (cc := c_M_pass) (maxL := 5) (ret := (some .int)) (by decide) rfl ?_
  intro p e s m args below meth c s₁ B hml hv
  obtain ⟨rfl, ⟨hH, hK, hA⟩, hn, h⟩ := hv
  have hx := B.exec
  have hb := B.bytes
  have hr := B.returns
  have hts := atoms_spec (ws := ws_M_pass) B.pre
  have hown : s.vm.findClass R_M = some m.cls := findClass_of_methodNamed B.named
  have hlocks := B.notSynchronized
  have hts : ∀ w ∈ lw_g, w.before ([.ref h0, .int p1] : List Value).toArray s = true := fun w hw => hts w (List.mem_cons_of_mem _ hw)
  have b_22 : ∀ (n : Nat), ∀ (σ : ST) (v1 : Int32) (v2 : Int32) (v3 : Int32) (v4 : Int32) (H : Heap) (locs : List Loc) (ls : Array Slot), mg_H D vwCl A (st_cell σ) H → mk_K D σ s → va_S A s.heap H locs → lv_has ls 5 [(0, va_rf (some h0)), (1, .int v1), (2, .int v2), (3, .int v3), (4, .int v4)] → wb_M_pass_22 h0 K n σ v1 v2 v3 v4 → W p l e (headSpec ws_M_pass ROOM_M_pass).room s m ([.ref h0, .int p1] : List Value).toArray below meth c H locs 0 0 (MQ below (va_Qi K (mw D A) A) ([.ref h0, .int p1] : List Value).toArray s 0 0 A) (F0 m 22 ls []) := by
    intro n
    induction n with
    | zero =>
      intro σ v1 v2 v3 v4 H locs ls hH hK hS hl h
      exact h.elim
    | succ n ih =>
      intro σ v1 v2 v3 v4 H locs ls hH hK hS hl h
      unfold wb_M_pass_22 at h
      refine lv_iload hx hb d_M_pass_22 (lv_at hl 4 rfl) ?_
      refine mr_aload_n hx hb d_M_pass_24 rfl (lv_at hl 0 rfl) ?_
      obtain ⟨t_4, h⟩ := h
      refine ms_get (σ := σ) (r := some h0) (a := h0) (fs := fl_1 σ h0) (ci := 1) (C := R_M) (T := T_M) (N := 32) hx hb hts in_1 hown hK hH rfl (cell_1 t_4) rfl 27 (by decide) (hts _ wd_444) (fun _ h9 => h9) (v := .int (st_I σ 67 h0)) rfl d_M_pass_25 ?_
      refine lv_icmp_ge (tgt := 157) hx hb d_M_pass_28 (by decide) (fun c_5 => ?_) (fun c_5 => ?_)
      · have h := h.1 c_5
        refine mr_aload_n hx hb d_M_pass_157 rfl (lv_at hl 0 rfl) ?_
        refine lv_iload_n hx hb d_M_pass_158 rfl (lv_at hl 2 rfl) ?_
        obtain ⟨σ_6, z_7⟩ : ∃ y : ST, y = st_sI σ 67 h0 v2 := ⟨_, rfl⟩
        have h := h σ_6 z_7
        refine ms_put (σ := σ) (r := some h0) (a := h0) (fs := fl_1 σ h0) (ci := 1) (C := R_M) (T := T_M) (N := 32) (v := .int v2) (ty := .int) hx hb hts in_1 ty_M ty_M_ok nm_M hown hK hH hS rfl (cell_1 t_4) rfl 27 (by decide) (hts _ wd_444) (fun _ h9 => h9) rfl (by decide +kernel) rfl rfl (Nat.le_of_ble_eq_true rfl) d_M_pass_159 (σ1 := σ_6) (by rw [z_7]; exact put_1_27 σ h0 v2 t_4) (by rw [z_7]; rfl) (by rw [z_7]; rfl) (fun H locs hH hK hS => ?_)
        have t_8 : st_tg σ_6 h0 = some 1 := by rw [z_7]; exact t_4
        refine lv_iload_n hx hb d_M_pass_162 rfl (lv_at hl 3 rfl) ?_
        exact W.iret (v := v3) hx hb hr (fun t ht hW => ⟨⟨v3, σ_6, rfl, h, mw_pass hH hK hA hS ht hW⟩, hS.F ht⟩) hS.2.2 d_M_pass_163
      · have h := h.2 c_5
        refine mr_aload_n hx hb d_M_pass_31 rfl (lv_at hl 0 rfl) ?_
        refine ms_get (σ := σ) (r := some h0) (a := h0) (fs := fl_1 σ h0) (ci := 1) (C := R_M) (T := T_M) (N := 32) hx hb hts in_1 hown hK hH rfl (cell_1 t_4) rfl 30 (by decide) (hts _ wd_447) (fun _ h9 => h9) (v := va_rf (st_R σ 70 h0)) rfl d_M_pass_32 ?_
        refine lv_iload hx hb d_M_pass_35 (lv_at hl 4 rfl) ?_
        obtain ⟨a_9, e_10, t_11, h⟩ := h
        obtain ⟨b_12, h⟩ := h
        refine ms_iald (σ := σ) (r := (st_R σ 70 h0)) (a := a_9) hx hb hK hH e_10 t_11 rfl (cell_301 t_11) b_12 d_M_pass_37 ?_
        refine lv_iload_n hx hb d_M_pass_38 rfl (lv_at hl 1 rfl) ?_
        refine lv_icmp_gt (tgt := 109) hx hb d_M_pass_39 (by decide) (fun c_13 => ?_) (fun c_13 => ?_)
        · have h := h.1 c_13
          refine mr_aload_n hx hb d_M_pass_109 rfl (lv_at hl 0 rfl) ?_
          refine ms_get (σ := σ) (r := some h0) (a := h0) (fs := fl_1 σ h0) (ci := 1) (C := R_M) (T := T_M) (N := 32) hx hb hts in_1 hown hK hH rfl (cell_1 t_4) rfl 28 (by decide) (hts _ wd_445) (fun _ h9 => h9) (v := va_rf (st_R σ 68 h0)) rfl d_M_pass_110 ?_
          refine lv_iload_n hx hb d_M_pass_113 rfl (lv_at hl 2 rfl) ?_
          refine mr_aload_n hx hb d_M_pass_114 rfl (lv_at hl 0 rfl) ?_
          refine ms_get (σ := σ) (r := some h0) (a := h0) (fs := fl_1 σ h0) (ci := 1) (C := R_M) (T := T_M) (N := 32) hx hb hts in_1 hown hK hH rfl (cell_1 t_4) rfl 28 (by decide) (hts _ wd_445) (fun _ h9 => h9) (v := va_rf (st_R σ 68 h0)) rfl d_M_pass_115 ?_
          refine lv_iload hx hb d_M_pass_118 (lv_at hl 4 rfl) ?_
          obtain ⟨a_14, e_15, t_16, h⟩ := h
          obtain ⟨b_17, h⟩ := h
          refine ms_iald (σ := σ) (r := (st_R σ 68 h0)) (a := a_14) hx hb hK hH e_15 t_16 rfl (cell_301 t_16) b_17 d_M_pass_120 ?_
          obtain ⟨b_18, h⟩ := h
          obtain ⟨σ_19, z_20⟩ : ∃ y : ST, y = st_uI σ a_14 (Int32.toNatClampNeg v2) ((st_eI σ a_14 (Int32.toNatClampNeg v4))) := ⟨_, rfl⟩
          have h := h σ_19 z_20
          refine ms_iast (σ := σ) (r := (st_R σ 68 h0)) (a := a_14) (x := (st_eI σ a_14 (Int32.toNatClampNeg v4))) hx hb hK hH hS e_15 t_16 rfl (cell_301 t_16)  b_18 d_M_pass_121 (σ1 := σ_19) (by rw [z_20]; exact uput_301 σ a_14 _ ((st_eI σ a_14 (Int32.toNatClampNeg v4))) t_16) (by rw [z_20]; rfl) (by rw [z_20]; rfl) (fun H locs hH hK hS => ?_)
          have t_21 : st_tg σ_19 h0 = some 1 := by rw [z_20]; exact t_4
          have t_22 : st_tg σ_19 a_9 = some 301 := by rw [z_20]; exact t_11
          have t_23 : st_tg σ_19 a_14 = some 301 := by rw [z_20]; exact t_16
          refine mr_aload_n hx hb d_M_pass_122 rfl (lv_at hl 0 rfl) ?_
          refine ms_get (σ := σ_19) (r := some h0) (a := h0) (fs := fl_1 σ_19 h0) (ci := 1) (C := R_M) (T := T_M) (N := 32) hx hb hts in_1 hown hK hH rfl (cell_1 t_21) rfl 29 (by decide) (hts _ wd_446) (fun _ h9 => h9) (v := va_rf (st_R σ_19 69 h0)) rfl d_M_pass_123 ?_
          refine lv_iload_n hx hb d_M_pass_126 rfl (lv_at hl 2 rfl) ?_
          refine mr_aload_n hx hb d_M_pass_127 rfl (lv_at hl 0 rfl) ?_
          refine ms_get (σ := σ_19) (r := some h0) (a := h0) (fs := fl_1 σ_19 h0) (ci := 1) (C := R_M) (T := T_M) (N := 32) hx hb hts in_1 hown hK hH rfl (cell_1 t_21) rfl 29 (by decide) (hts _ wd_446) (fun _ h9 => h9) (v := va_rf (st_R σ_19 69 h0)) rfl d_M_pass_128 ?_
          refine lv_iload hx hb d_M_pass_131 (lv_at hl 4 rfl) ?_
          obtain ⟨a_24, e_25, t_26, h⟩ := h
          obtain ⟨b_27, h⟩ := h
          refine ms_lald (σ := σ_19) (r := (st_R σ_19 69 h0)) (a := a_24) hx hb hK hH e_25 t_26 rfl (cell_302 t_26) b_27 d_M_pass_133 ?_
          obtain ⟨b_28, h⟩ := h
          obtain ⟨σ_29, z_30⟩ : ∃ y : ST, y = st_uJ σ_19 a_24 (Int32.toNatClampNeg v2) ((st_eJ σ_19 a_24 (Int32.toNatClampNeg v4))) := ⟨_, rfl⟩
          have h := h σ_29 z_30
          refine ms_last (σ := σ_19) (r := (st_R σ_19 69 h0)) (a := a_24) (x := (st_eJ σ_19 a_24 (Int32.toNatClampNeg v4))) hx hb hK hH hS e_25 t_26 rfl (cell_302 t_26)  b_28 d_M_pass_134 (σ1 := σ_29) (by rw [z_30]; exact uput_302 σ_19 a_24 _ ((st_eJ σ_19 a_24 (Int32.toNatClampNeg v4))) t_26) (by rw [z_30]; rfl) (by rw [z_30]; rfl) (fun H locs hH hK hS => ?_)
          have t_31 : st_tg σ_29 h0 = some 1 := by rw [z_30]; exact t_21
          have t_32 : st_tg σ_29 a_9 = some 301 := by rw [z_30]; exact t_22
          have t_33 : st_tg σ_29 a_14 = some 301 := by rw [z_30]; exact t_23
          have t_34 : st_tg σ_29 a_24 = some 302 := by rw [z_30]; exact t_26
          refine mr_aload_n hx hb d_M_pass_135 rfl (lv_at hl 0 rfl) ?_
          refine ms_get (σ := σ_29) (r := some h0) (a := h0) (fs := fl_1 σ_29 h0) (ci := 1) (C := R_M) (T := T_M) (N := 32) hx hb hts in_1 hown hK hH rfl (cell_1 t_31) rfl 30 (by decide) (hts _ wd_447) (fun _ h9 => h9) (v := va_rf (st_R σ_29 70 h0)) rfl d_M_pass_136 ?_
          refine lv_iload_n hx hb d_M_pass_139 rfl (lv_at hl 2 rfl) ?_
          refine mr_aload_n hx hb d_M_pass_140 rfl (lv_at hl 0 rfl) ?_
          refine ms_get (σ := σ_29) (r := some h0) (a := h0) (fs := fl_1 σ_29 h0) (ci := 1) (C := R_M) (T := T_M) (N := 32) hx hb hts in_1 hown hK hH rfl (cell_1 t_31) rfl 30 (by decide) (hts _ wd_447) (fun _ h9 => h9) (v := va_rf (st_R σ_29 70 h0)) rfl d_M_pass_141 ?_
          refine lv_iload hx hb d_M_pass_144 (lv_at hl 4 rfl) ?_
          obtain ⟨a_35, e_36, t_37, h⟩ := h
          obtain ⟨b_38, h⟩ := h
          refine ms_iald (σ := σ_29) (r := (st_R σ_29 70 h0)) (a := a_35) hx hb hK hH e_36 t_37 rfl (cell_301 t_37) b_38 d_M_pass_146 ?_
          obtain ⟨b_39, h⟩ := h
          obtain ⟨σ_40, z_41⟩ : ∃ y : ST, y = st_uI σ_29 a_35 (Int32.toNatClampNeg v2) ((st_eI σ_29 a_35 (Int32.toNatClampNeg v4))) := ⟨_, rfl⟩
          have h := h σ_40 z_41
          refine ms_iast (σ := σ_29) (r := (st_R σ_29 70 h0)) (a := a_35) (x := (st_eI σ_29 a_35 (Int32.toNatClampNeg v4))) hx hb hK hH hS e_36 t_37 rfl (cell_301 t_37)  b_39 d_M_pass_147 (σ1 := σ_40) (by rw [z_41]; exact uput_301 σ_29 a_35 _ ((st_eI σ_29 a_35 (Int32.toNatClampNeg v4))) t_37) (by rw [z_41]; rfl) (by rw [z_41]; rfl) (fun H locs hH hK hS => ?_)
          have t_42 : st_tg σ_40 h0 = some 1 := by rw [z_41]; exact t_31
          have t_43 : st_tg σ_40 a_9 = some 301 := by rw [z_41]; exact t_32
          have t_44 : st_tg σ_40 a_14 = some 301 := by rw [z_41]; exact t_33
          have t_45 : st_tg σ_40 a_24 = some 302 := by rw [z_41]; exact t_34
          have t_46 : st_tg σ_40 a_35 = some 301 := by rw [z_41]; exact t_37
          obtain ⟨x_47, q_48⟩ : ∃ y : Int32, y = v2 + 1 := ⟨_, rfl⟩
          have h := h x_47 q_48
          refine lv_iinc (v := x_47) (lv' := [(2, .int x_47), (0, va_rf (some h0)), (1, .int v1), (3, .int v3), (4, .int v4)]) hx hb d_M_pass_148 hl (k := 2) rfl (by rw [q_48]; rfl) (by decide) rfl (fun ls hl => ?_)
          obtain ⟨x_49, q_50⟩ : ∃ y : Int32, y = v4 + 1 := ⟨_, rfl⟩
          have h := h x_49 q_50
          refine lv_iinc (v := x_49) (lv' := [(4, .int x_49), (2, .int x_47), (0, va_rf (some h0)), (1, .int v1), (3, .int v3)]) hx hb d_M_pass_151 hl (k := 4) rfl (by rw [q_50]; rfl) (by decide) rfl (fun ls hl => ?_)
          refine lv_goto (tgt := 22) hx hb d_M_pass_154 (by decide) ?_
          exact ih _ _ _ _ _ _ _ _ hH hK hS (lv_sub hl [2, 3, 1, 4, 0] rfl) h
        · have h := h.2 c_13
          refine mr_aload_n hx hb d_M_pass_42 rfl (lv_at hl 0 rfl) ?_
          refine ms_get (σ := σ) (r := some h0) (a := h0) (fs := fl_1 σ h0) (ci := 1) (C := R_M) (T := T_M) (N := 32) hx hb hts in_1 hown hK hH rfl (cell_1 t_4) rfl 12 (by decide) (hts _ wd_429) (fun _ h9 => h9) (v := va_rf (st_R σ 52 h0)) rfl d_M_pass_43 ?_
          refine mr_aload_n hx hb d_M_pass_46 rfl (lv_at hl 0 rfl) ?_
          refine ms_get (σ := σ) (r := some h0) (a := h0) (fs := fl_1 σ h0) (ci := 1) (C := R_M) (T := T_M) (N := 32) hx hb hts in_1 hown hK hH rfl (cell_1 t_4) rfl 28 (by decide) (hts _ wd_445) (fun _ h9 => h9) (v := va_rf (st_R σ 68 h0)) rfl d_M_pass_47 ?_
          refine lv_iload hx hb d_M_pass_50 (lv_at hl 4 rfl) ?_
          obtain ⟨a_51, e_52, t_53, h⟩ := h
          obtain ⟨b_54, h⟩ := h
          refine ms_iald (σ := σ) (r := (st_R σ 68 h0)) (a := a_51) hx hb hK hH e_52 t_53 rfl (cell_301 t_53) b_54 d_M_pass_52 ?_
          obtain ⟨a_55, e_56, t_57, h⟩ := h
          obtain ⟨b_58, h⟩ := h
          refine ms_lald (σ := σ) (r := (st_R σ 52 h0)) (a := a_55) hx hb hK hH e_56 t_57 rfl (cell_302 t_57) b_58 d_M_pass_53 ?_
          refine mr_aload_n hx hb d_M_pass_54 rfl (lv_at hl 0 rfl) ?_
          refine ms_get (σ := σ) (r := some h0) (a := h0) (fs := fl_1 σ h0) (ci := 1) (C := R_M) (T := T_M) (N := 32) hx hb hts in_1 hown hK hH rfl (cell_1 t_4) rfl 29 (by decide) (hts _ wd_446) (fun _ h9 => h9) (v := va_rf (st_R σ 69 h0)) rfl d_M_pass_55 ?_
          refine lv_iload hx hb d_M_pass_58 (lv_at hl 4 rfl) ?_
          obtain ⟨a_59, e_60, t_61, h⟩ := h
          obtain ⟨b_62, h⟩ := h
          refine ms_lald (σ := σ) (r := (st_R σ 69 h0)) (a := a_59) hx hb hK hH e_60 t_61 rfl (cell_302 t_61) b_62 d_M_pass_60 ?_
          refine W.lcmp hx hb d_M_pass_61 ?_
          refine lv_if_lt (tgt := 109) hx hb d_M_pass_62 (by decide) (fun c_63 => ?_) (fun c_63 => ?_)
          · have h := h.1 c_63
            refine mr_aload_n hx hb d_M_pass_109 rfl (lv_at hl 0 rfl) ?_
            refine ms_get (σ := σ) (r := some h0) (a := h0) (fs := fl_1 σ h0) (ci := 1) (C := R_M) (T := T_M) (N := 32) hx hb hts in_1 hown hK hH rfl (cell_1 t_4) rfl 28 (by decide) (hts _ wd_445) (fun _ h9 => h9) (v := va_rf (st_R σ 68 h0)) rfl d_M_pass_110 ?_
            refine lv_iload_n hx hb d_M_pass_113 rfl (lv_at hl 2 rfl) ?_
            refine mr_aload_n hx hb d_M_pass_114 rfl (lv_at hl 0 rfl) ?_
            refine ms_get (σ := σ) (r := some h0) (a := h0) (fs := fl_1 σ h0) (ci := 1) (C := R_M) (T := T_M) (N := 32) hx hb hts in_1 hown hK hH rfl (cell_1 t_4) rfl 28 (by decide) (hts _ wd_445) (fun _ h9 => h9) (v := va_rf (st_R σ 68 h0)) rfl d_M_pass_115 ?_
            refine lv_iload hx hb d_M_pass_118 (lv_at hl 4 rfl) ?_
            obtain ⟨b_64, h⟩ := h
            refine ms_iald (σ := σ) (r := (st_R σ 68 h0)) (a := a_51) hx hb hK hH e_52 t_53 rfl (cell_301 t_53) b_64 d_M_pass_120 ?_
            obtain ⟨b_65, h⟩ := h
            obtain ⟨σ_66, z_67⟩ : ∃ y : ST, y = st_uI σ a_51 (Int32.toNatClampNeg v2) ((st_eI σ a_51 (Int32.toNatClampNeg v4))) := ⟨_, rfl⟩
            have h := h σ_66 z_67
            refine ms_iast (σ := σ) (r := (st_R σ 68 h0)) (a := a_51) (x := (st_eI σ a_51 (Int32.toNatClampNeg v4))) hx hb hK hH hS e_52 t_53 rfl (cell_301 t_53)  b_65 d_M_pass_121 (σ1 := σ_66) (by rw [z_67]; exact uput_301 σ a_51 _ ((st_eI σ a_51 (Int32.toNatClampNeg v4))) t_53) (by rw [z_67]; rfl) (by rw [z_67]; rfl) (fun H locs hH hK hS => ?_)
            have t_68 : st_tg σ_66 h0 = some 1 := by rw [z_67]; exact t_4
            have t_69 : st_tg σ_66 a_9 = some 301 := by rw [z_67]; exact t_11
            have t_70 : st_tg σ_66 a_51 = some 301 := by rw [z_67]; exact t_53
            have t_71 : st_tg σ_66 a_55 = some 302 := by rw [z_67]; exact t_57
            have t_72 : st_tg σ_66 a_59 = some 302 := by rw [z_67]; exact t_61
            refine mr_aload_n hx hb d_M_pass_122 rfl (lv_at hl 0 rfl) ?_
            refine ms_get (σ := σ_66) (r := some h0) (a := h0) (fs := fl_1 σ_66 h0) (ci := 1) (C := R_M) (T := T_M) (N := 32) hx hb hts in_1 hown hK hH rfl (cell_1 t_68) rfl 29 (by decide) (hts _ wd_446) (fun _ h9 => h9) (v := va_rf (st_R σ_66 69 h0)) rfl d_M_pass_123 ?_
            refine lv_iload_n hx hb d_M_pass_126 rfl (lv_at hl 2 rfl) ?_
            refine mr_aload_n hx hb d_M_pass_127 rfl (lv_at hl 0 rfl) ?_
            refine ms_get (σ := σ_66) (r := some h0) (a := h0) (fs := fl_1 σ_66 h0) (ci := 1) (C := R_M) (T := T_M) (N := 32) hx hb hts in_1 hown hK hH rfl (cell_1 t_68) rfl 29 (by decide) (hts _ wd_446) (fun _ h9 => h9) (v := va_rf (st_R σ_66 69 h0)) rfl d_M_pass_128 ?_
            refine lv_iload hx hb d_M_pass_131 (lv_at hl 4 rfl) ?_
            obtain ⟨a_73, e_74, t_75, h⟩ := h
            obtain ⟨b_76, h⟩ := h
            refine ms_lald (σ := σ_66) (r := (st_R σ_66 69 h0)) (a := a_73) hx hb hK hH e_74 t_75 rfl (cell_302 t_75) b_76 d_M_pass_133 ?_
            obtain ⟨b_77, h⟩ := h
            obtain ⟨σ_78, z_79⟩ : ∃ y : ST, y = st_uJ σ_66 a_73 (Int32.toNatClampNeg v2) ((st_eJ σ_66 a_73 (Int32.toNatClampNeg v4))) := ⟨_, rfl⟩
            have h := h σ_78 z_79
            refine ms_last (σ := σ_66) (r := (st_R σ_66 69 h0)) (a := a_73) (x := (st_eJ σ_66 a_73 (Int32.toNatClampNeg v4))) hx hb hK hH hS e_74 t_75 rfl (cell_302 t_75)  b_77 d_M_pass_134 (σ1 := σ_78) (by rw [z_79]; exact uput_302 σ_66 a_73 _ ((st_eJ σ_66 a_73 (Int32.toNatClampNeg v4))) t_75) (by rw [z_79]; rfl) (by rw [z_79]; rfl) (fun H locs hH hK hS => ?_)
            have t_80 : st_tg σ_78 h0 = some 1 := by rw [z_79]; exact t_68
            have t_81 : st_tg σ_78 a_9 = some 301 := by rw [z_79]; exact t_69
            have t_82 : st_tg σ_78 a_51 = some 301 := by rw [z_79]; exact t_70
            have t_83 : st_tg σ_78 a_55 = some 302 := by rw [z_79]; exact t_71
            have t_84 : st_tg σ_78 a_59 = some 302 := by rw [z_79]; exact t_72
            have t_85 : st_tg σ_78 a_73 = some 302 := by rw [z_79]; exact t_75
            refine mr_aload_n hx hb d_M_pass_135 rfl (lv_at hl 0 rfl) ?_
            refine ms_get (σ := σ_78) (r := some h0) (a := h0) (fs := fl_1 σ_78 h0) (ci := 1) (C := R_M) (T := T_M) (N := 32) hx hb hts in_1 hown hK hH rfl (cell_1 t_80) rfl 30 (by decide) (hts _ wd_447) (fun _ h9 => h9) (v := va_rf (st_R σ_78 70 h0)) rfl d_M_pass_136 ?_
            refine lv_iload_n hx hb d_M_pass_139 rfl (lv_at hl 2 rfl) ?_
            refine mr_aload_n hx hb d_M_pass_140 rfl (lv_at hl 0 rfl) ?_
            refine ms_get (σ := σ_78) (r := some h0) (a := h0) (fs := fl_1 σ_78 h0) (ci := 1) (C := R_M) (T := T_M) (N := 32) hx hb hts in_1 hown hK hH rfl (cell_1 t_80) rfl 30 (by decide) (hts _ wd_447) (fun _ h9 => h9) (v := va_rf (st_R σ_78 70 h0)) rfl d_M_pass_141 ?_
            refine lv_iload hx hb d_M_pass_144 (lv_at hl 4 rfl) ?_
            obtain ⟨a_86, e_87, t_88, h⟩ := h
            obtain ⟨b_89, h⟩ := h
            refine ms_iald (σ := σ_78) (r := (st_R σ_78 70 h0)) (a := a_86) hx hb hK hH e_87 t_88 rfl (cell_301 t_88) b_89 d_M_pass_146 ?_
            obtain ⟨b_90, h⟩ := h
            obtain ⟨σ_91, z_92⟩ : ∃ y : ST, y = st_uI σ_78 a_86 (Int32.toNatClampNeg v2) ((st_eI σ_78 a_86 (Int32.toNatClampNeg v4))) := ⟨_, rfl⟩
            have h := h σ_91 z_92
            refine ms_iast (σ := σ_78) (r := (st_R σ_78 70 h0)) (a := a_86) (x := (st_eI σ_78 a_86 (Int32.toNatClampNeg v4))) hx hb hK hH hS e_87 t_88 rfl (cell_301 t_88)  b_90 d_M_pass_147 (σ1 := σ_91) (by rw [z_92]; exact uput_301 σ_78 a_86 _ ((st_eI σ_78 a_86 (Int32.toNatClampNeg v4))) t_88) (by rw [z_92]; rfl) (by rw [z_92]; rfl) (fun H locs hH hK hS => ?_)
            have t_93 : st_tg σ_91 h0 = some 1 := by rw [z_92]; exact t_80
            have t_94 : st_tg σ_91 a_9 = some 301 := by rw [z_92]; exact t_81
            have t_95 : st_tg σ_91 a_51 = some 301 := by rw [z_92]; exact t_82
            have t_96 : st_tg σ_91 a_55 = some 302 := by rw [z_92]; exact t_83
            have t_97 : st_tg σ_91 a_59 = some 302 := by rw [z_92]; exact t_84
            have t_98 : st_tg σ_91 a_73 = some 302 := by rw [z_92]; exact t_85
            have t_99 : st_tg σ_91 a_86 = some 301 := by rw [z_92]; exact t_88
            obtain ⟨x_100, q_101⟩ : ∃ y : Int32, y = v2 + 1 := ⟨_, rfl⟩
            have h := h x_100 q_101
            refine lv_iinc (v := x_100) (lv' := [(2, .int x_100), (0, va_rf (some h0)), (1, .int v1), (3, .int v3), (4, .int v4)]) hx hb d_M_pass_148 hl (k := 2) rfl (by rw [q_101]; rfl) (by decide) rfl (fun ls hl => ?_)
            obtain ⟨x_102, q_103⟩ : ∃ y : Int32, y = v4 + 1 := ⟨_, rfl⟩
            have h := h x_102 q_103
            refine lv_iinc (v := x_102) (lv' := [(4, .int x_102), (2, .int x_100), (0, va_rf (some h0)), (1, .int v1), (3, .int v3)]) hx hb d_M_pass_151 hl (k := 4) rfl (by rw [q_103]; rfl) (by decide) rfl (fun ls hl => ?_)
            refine lv_goto (tgt := 22) hx hb d_M_pass_154 (by decide) ?_
            exact ih _ _ _ _ _ _ _ _ hH hK hS (lv_sub hl [2, 3, 1, 4, 0] rfl) h
          · have h := h.2 c_63
            refine mr_aload_n hx hb d_M_pass_65 rfl (lv_at hl 0 rfl) ?_
            refine ms_get (σ := σ) (r := some h0) (a := h0) (fs := fl_1 σ h0) (ci := 1) (C := R_M) (T := T_M) (N := 32) hx hb hts in_1 hown hK hH rfl (cell_1 t_4) rfl 12 (by decide) (hts _ wd_429) (fun _ h9 => h9) (v := va_rf (st_R σ 52 h0)) rfl d_M_pass_66 ?_
            refine mr_aload_n hx hb d_M_pass_69 rfl (lv_at hl 0 rfl) ?_
            refine ms_get (σ := σ) (r := some h0) (a := h0) (fs := fl_1 σ h0) (ci := 1) (C := R_M) (T := T_M) (N := 32) hx hb hts in_1 hown hK hH rfl (cell_1 t_4) rfl 28 (by decide) (hts _ wd_445) (fun _ h9 => h9) (v := va_rf (st_R σ 68 h0)) rfl d_M_pass_70 ?_
            refine lv_iload hx hb d_M_pass_73 (lv_at hl 4 rfl) ?_
            obtain ⟨b_104, h⟩ := h
            refine ms_iald (σ := σ) (r := (st_R σ 68 h0)) (a := a_51) hx hb hK hH e_52 t_53 rfl (cell_301 t_53) b_104 d_M_pass_75 ?_
            refine lv_dup2_11 hx hb d_M_pass_76 rfl (cat_rf _) ?_
            obtain ⟨b_105, h⟩ := h
            refine ms_lald (σ := σ) (r := (st_R σ 52 h0)) (a := a_55) hx hb hK hH e_56 t_57 rfl (cell_302 t_57) b_105 d_M_pass_77 ?_
            refine mr_aload_n hx hb d_M_pass_78 rfl (lv_at hl 0 rfl) ?_
            refine ms_get (σ := σ) (r := some h0) (a := h0) (fs := fl_1 σ h0) (ci := 1) (C := R_M) (T := T_M) (N := 32) hx hb hts in_1 hown hK hH rfl (cell_1 t_4) rfl 29 (by decide) (hts _ wd_446) (fun _ h9 => h9) (v := va_rf (st_R σ 69 h0)) rfl d_M_pass_79 ?_
            refine lv_iload hx hb d_M_pass_82 (lv_at hl 4 rfl) ?_
            obtain ⟨b_106, h⟩ := h
            refine ms_lald (σ := σ) (r := (st_R σ 69 h0)) (a := a_59) hx hb hK hH e_60 t_61 rfl (cell_302 t_61) b_106 d_M_pass_84 ?_
            refine lv_lsub hx hb d_M_pass_85 ?_
            obtain ⟨b_107, h⟩ := h
            obtain ⟨σ_108, z_109⟩ : ∃ y : ST, y = st_uJ σ a_55 (Int32.toNatClampNeg ((st_eI σ a_51 (Int32.toNatClampNeg v4)))) ((((st_eJ σ a_55 (Int32.toNatClampNeg ((st_eI σ a_51 (Int32.toNatClampNeg v4)))))) - ((st_eJ σ a_59 (Int32.toNatClampNeg v4))))) := ⟨_, rfl⟩
            have h := h σ_108 z_109
            refine ms_last (σ := σ) (r := (st_R σ 52 h0)) (a := a_55) (x := (((st_eJ σ a_55 (Int32.toNatClampNeg ((st_eI σ a_51 (Int32.toNatClampNeg v4)))))) - ((st_eJ σ a_59 (Int32.toNatClampNeg v4))))) hx hb hK hH hS e_56 t_57 rfl (cell_302 t_57)  b_107 d_M_pass_86 (σ1 := σ_108) (by rw [z_109]; exact uput_302 σ a_55 _ ((((st_eJ σ a_55 (Int32.toNatClampNeg ((st_eI σ a_51 (Int32.toNatClampNeg v4)))))) - ((st_eJ σ a_59 (Int32.toNatClampNeg v4))))) t_57) (by rw [z_109]; rfl) (by rw [z_109]; rfl) (fun H locs hH hK hS => ?_)
            have t_110 : st_tg σ_108 h0 = some 1 := by rw [z_109]; exact t_4
            have t_111 : st_tg σ_108 a_9 = some 301 := by rw [z_109]; exact t_11
            have t_112 : st_tg σ_108 a_51 = some 301 := by rw [z_109]; exact t_53
            have t_113 : st_tg σ_108 a_55 = some 302 := by rw [z_109]; exact t_57
            have t_114 : st_tg σ_108 a_59 = some 302 := by rw [z_109]; exact t_61
            refine mr_aload_n hx hb d_M_pass_87 rfl (lv_at hl 0 rfl) ?_
            refine ms_get (σ := σ_108) (r := some h0) (a := h0) (fs := fl_1 σ_108 h0) (ci := 1) (C := R_M) (T := T_M) (N := 32) hx hb hts in_1 hown hK hH rfl (cell_1 t_110) rfl 31 (by decide) (hts _ wd_448) (fun _ h9 => h9) (v := va_rf (st_R σ_108 71 h0)) rfl d_M_pass_88 ?_
            refine lv_iconst (v := 3) hx hb d_M_pass_91 (by decide) ?_
            refine lv_dup2_11 hx hb d_M_pass_92 rfl (cat_rf _) ?_
            obtain ⟨a_115, e_116, t_117, h⟩ := h
            obtain ⟨b_118, h⟩ := h
            refine ms_lald (σ := σ_108) (r := (st_R σ_108 71 h0)) (a := a_115) hx hb hK hH e_116 t_117 rfl (cell_302 t_117) b_118 d_M_pass_93 ?_
            refine mr_aload_n hx hb d_M_pass_94 rfl (lv_at hl 0 rfl) ?_
            refine ms_get (σ := σ_108) (r := some h0) (a := h0) (fs := fl_1 σ_108 h0) (ci := 1) (C := R_M) (T := T_M) (N := 32) hx hb hts in_1 hown hK hH rfl (cell_1 t_110) rfl 29 (by decide) (hts _ wd_446) (fun _ h9 => h9) (v := va_rf (st_R σ_108 69 h0)) rfl d_M_pass_95 ?_
            refine lv_iload hx hb d_M_pass_98 (lv_at hl 4 rfl) ?_
            obtain ⟨a_119, e_120, t_121, h⟩ := h
            obtain ⟨b_122, h⟩ := h
            refine ms_lald (σ := σ_108) (r := (st_R σ_108 69 h0)) (a := a_119) hx hb hK hH e_120 t_121 rfl (cell_302 t_121) b_122 d_M_pass_100 ?_
            refine lv_ladd hx hb d_M_pass_101 ?_
            obtain ⟨b_123, h⟩ := h
            obtain ⟨σ_124, z_125⟩ : ∃ y : ST, y = st_uJ σ_108 a_115 (Int32.toNatClampNeg 3) ((((st_eJ σ_108 a_115 (Int32.toNatClampNeg 3))) + ((st_eJ σ_108 a_119 (Int32.toNatClampNeg v4))))) := ⟨_, rfl⟩
            have h := h σ_124 z_125
            refine ms_last (σ := σ_108) (r := (st_R σ_108 71 h0)) (a := a_115) (x := (((st_eJ σ_108 a_115 (Int32.toNatClampNeg 3))) + ((st_eJ σ_108 a_119 (Int32.toNatClampNeg v4))))) hx hb hK hH hS e_116 t_117 rfl (cell_302 t_117)  b_123 d_M_pass_102 (σ1 := σ_124) (by rw [z_125]; exact uput_302 σ_108 a_115 _ ((((st_eJ σ_108 a_115 (Int32.toNatClampNeg 3))) + ((st_eJ σ_108 a_119 (Int32.toNatClampNeg v4))))) t_117) (by rw [z_125]; rfl) (by rw [z_125]; rfl) (fun H locs hH hK hS => ?_)
            have t_126 : st_tg σ_124 h0 = some 1 := by rw [z_125]; exact t_110
            have t_127 : st_tg σ_124 a_9 = some 301 := by rw [z_125]; exact t_111
            have t_128 : st_tg σ_124 a_51 = some 301 := by rw [z_125]; exact t_112
            have t_129 : st_tg σ_124 a_55 = some 302 := by rw [z_125]; exact t_113
            have t_130 : st_tg σ_124 a_59 = some 302 := by rw [z_125]; exact t_114
            have t_131 : st_tg σ_124 a_115 = some 302 := by rw [z_125]; exact t_117
            have t_132 : st_tg σ_124 a_119 = some 302 := by rw [z_125]; exact t_121
            obtain ⟨x_133, q_134⟩ : ∃ y : Int32, y = v3 + 1 := ⟨_, rfl⟩
            have h := h x_133 q_134
            refine lv_iinc (v := x_133) (lv' := [(3, .int x_133), (0, va_rf (some h0)), (1, .int v1), (2, .int v2), (4, .int v4)]) hx hb d_M_pass_103 hl (k := 3) rfl (by rw [q_134]; rfl) (by decide) rfl (fun ls hl => ?_)
            refine lv_goto (tgt := 151) hx hb d_M_pass_106 (by decide) ?_
            obtain ⟨x_135, q_136⟩ : ∃ y : Int32, y = v4 + 1 := ⟨_, rfl⟩
            have h := h x_135 q_136
            refine lv_iinc (v := x_135) (lv' := [(4, .int x_135), (3, .int x_133), (0, va_rf (some h0)), (1, .int v1), (2, .int v2)]) hx hb d_M_pass_151 hl (k := 4) rfl (by rw [q_136]; rfl) (by decide) rfl (fun ls hl => ?_)
            refine lv_goto (tgt := 22) hx hb d_M_pass_154 (by decide) ?_
            exact ih _ _ _ _ _ _ _ _ hH hK hS (lv_sub hl [2, 3, 4, 1, 0] rfl) h
  have hS : va_S A s.heap s.heap [] := va_S.rf
  have hl := lv_entry ([.ref h0, .int p1]) (n := 5) (Nat.le_of_ble_eq_true rfl)
  rw [lg_entry_eq]
  generalize (lg_sl ([.ref h0, .int p1]) ++ List.replicate (5 - (lg_sl ([.ref h0, .int p1])).length) Slot.unset).toArray = ls at hl ⊢
  have hl : lv_has ls 5 [(0, va_rf (some h0)), (1, .int p1)] := hl
  unfold wp_M_pass at h
  refine lv_iload_n hx hb d_M_pass_0 rfl (lv_at hl 1 rfl) ?_
  refine lv_i2l hx hb d_M_pass_1 rfl ?_
  refine lv_lconst (v := 0) hx hb d_M_pass_2 rfl ?_
  refine lv_ldc2 (v := 9999) hx hb hown (hts _ wd_612) d_M_pass_3 ?_
  refine ms_calli (va_runS (As := [.long (Int32.toInt64 p1), .long 0, .long 9999]) (rest := []) ⟨hx, hb, hml, hown, hts⟩ (mc_M_in l D A σ ((Int32.toInt64 p1)) 0 9999 _) ⟨(callB_of 3 hts gw_M_in rfl rfl rfl (hts _ wd_4) (hts _ wd_524) (by decide +kernel) ⟨by decide, by decide⟩), (hts _ wd_525)⟩ ⟨mw_blind, fun U hU hW => ⟨rfl, mw_pass hH hK hA hS hU hW, mn_warm hW hn, h⟩⟩ rfl rfl hl.1 rfl (lv_room (Nat.le_of_ble_eq_true rfl)) d_M_pass_6 ⟨by decide, by decide⟩) hS (fun r_1 σ_2 H locs h hH hK hS => ?_)
  refine lv_if_ne (tgt := 15) hx hb d_M_pass_9 (by decide) (fun c_3 => ?_) (fun c_3 => ?_)
  · have h := h.1 c_3
    refine lv_iconst (v := 0) hx hb d_M_pass_15 (by decide) ?_
    refine lv_istore_n (lv' := [(2, .int 0), (0, va_rf (some h0)), (1, .int p1)]) hx hb d_M_pass_16 rfl hl (by decide) rfl (fun ls hl => ?_)
    refine lv_iconst (v := 0) hx hb d_M_pass_17 (by decide) ?_
    refine lv_istore_n (lv' := [(3, .int 0), (2, .int 0), (0, va_rf (some h0)), (1, .int p1)]) hx hb d_M_pass_18 rfl hl (by decide) rfl (fun ls hl => ?_)
    refine lv_iconst (v := 0) hx hb d_M_pass_19 (by decide) ?_
    refine lv_istore (lv' := [(4, .int 0), (3, .int 0), (2, .int 0), (0, va_rf (some h0)), (1, .int p1)]) hx hb d_M_pass_20 hl (by decide) rfl (fun ls hl => ?_)
    obtain ⟨n, h⟩ := h
    exact b_22 n _ _ _ _ _ _ _ _ hH hK hS (lv_sub hl [3, 4, 2, 1, 0] rfl) h
  · have h := h.2 c_3
    refine lv_bipush (v := (-102)) hx hb d_M_pass_12 (by decide) ?_
    exact W.iret (v := (-102)) hx hb hr (fun t ht hW => ⟨⟨(-102), σ_2, rfl, h, mw_pass hH hK hA hS ht hW⟩, hS.F ht⟩) hS.2.2 d_M_pass_14
def wp_M_about (σ : ST) (h0 : Nat) (p1 : Int64) (p3 : Int32) (K : Int64 → ST → Prop) : Prop :=
  st_tg σ h0 = some 1 ∧ (wp_M_find σ h0 p1 (fun (r_2 : Int32) σ_3 =>
  (((¬ r_2 = 0) → (((p3 = 0) → st_tg σ_3 h0 = some 1 ∧ (∃ a_7 : Nat, (st_R σ_3 41 h0) = some a_7 ∧ st_tg σ_3 a_7 = some 301 ∧ (vp_in r_2 (st_ln σ_3 a_7) ∧ (K ((Int32.toInt64 ((st_eI σ_3 a_7 (Int32.toNatClampNeg r_2))))) σ_3)))) ∧
  ((¬ p3 = 0) → ((p3 = 1) → st_tg σ_3 h0 = some 1 ∧ (∃ a_13 : Nat, (st_R σ_3 42 h0) = some a_13 ∧ st_tg σ_3 a_13 = some 302 ∧ (vp_in r_2 (st_ln σ_3 a_13) ∧ (K ((st_eJ σ_3 a_13 (Int32.toNatClampNeg r_2))) σ_3)))) ∧
  ((¬ p3 = 1) → ((p3 = 2) → st_tg σ_3 h0 = some 1 ∧ (∃ a_19 : Nat, (st_R σ_3 46 h0) = some a_19 ∧ st_tg σ_3 a_19 = some 301 ∧ (vp_in r_2 (st_ln σ_3 a_19) ∧ (K ((Int32.toInt64 ((st_eI σ_3 a_19 (Int32.toNatClampNeg r_2))))) σ_3)))) ∧
  ((¬ p3 = 2) → ((p3 = 3) → st_tg σ_3 h0 = some 1 ∧ (∃ a_25 : Nat, (st_R σ_3 47 h0) = some a_25 ∧ st_tg σ_3 a_25 = some 301 ∧ (vp_in r_2 (st_ln σ_3 a_25) ∧ (K ((Int32.toInt64 ((st_eI σ_3 a_25 (Int32.toNatClampNeg r_2))))) σ_3)))) ∧
  ((¬ p3 = 3) → ((p3 = 4) → st_tg σ_3 h0 = some 1 ∧ (∃ a_31 : Nat, (st_R σ_3 48 h0) = some a_31 ∧ st_tg σ_3 a_31 = some 301 ∧ (vp_in r_2 (st_ln σ_3 a_31) ∧ (K ((Int32.toInt64 ((st_eI σ_3 a_31 (Int32.toNatClampNeg r_2))))) σ_3)))) ∧
  ((¬ p3 = 4) → ((p3 = 5) → st_tg σ_3 h0 = some 1 ∧ (wp_M_sumOf σ_3 h0 r_2 (fun (r_37 : Int64) σ_38 =>
  K r_37 σ_38))) ∧
  ((¬ p3 = 5) → K ((-102)) σ_3)))))))) ∧
  ((r_2 = 0) → K ((-101)) σ_3))))
abbrev ROOM_M_about : Room := { frames := 2, cells := 0, slots := 0, locals := 46 }
set_option maxHeartbeats 4000000 in
set_option maxRecDepth 100000 in
theorem mc_M_about (l : Launch) (D : va_G) (A : Nat → Prop) (σ : ST) (h0 : Nat) (p1 : Int64) (p3 : Int32) (K : Int64 → ST → Prop) : Met l y_M_about ws_M_about ROOM_M_about (va_Pc [.ref h0, .long p1, .int p3] (fun U => mw D A σ U ∧ mn U ∧ wp_M_about σ h0 p1 p3 K)) (va_Ql K (mw D A) A) 0 0 A := by
  refine Met.ofW (cc := c_M_about) (maxL := 5) (ret := (some .long)) (by decide) rfl ?_
  intro p e s m args below meth c s₁ B hml hv
  obtain ⟨rfl, ⟨hH, hK, hA⟩, hn, h⟩ := hv
  have hx := B.exec
  have hb := B.bytes
  have hr := B.returns
  have hts := atoms_spec (ws := ws_M_about) B.pre
  have hown : s.vm.findClass R_M = some m.cls := findClass_of_methodNamed B.named
  have hlocks := B.notSynchronized
  have hts : ∀ w ∈ lw_g, w.before ([.ref h0, .long p1, .int p3] : List Value).toArray s = true := fun w hw => hts w (List.mem_cons_of_mem _ hw)
  have hS : va_S A s.heap s.heap [] := va_S.rf
  have hl := lv_entry ([.ref h0, .long p1, .int p3]) (n := 5) (Nat.le_of_ble_eq_true rfl)
  rw [lg_entry_eq]
  generalize (lg_sl ([.ref h0, .long p1, .int p3]) ++ List.replicate (5 - (lg_sl ([.ref h0, .long p1, .int p3])).length) Slot.unset).toArray = ls at hl ⊢
  have hl : lv_has ls 5 [(0, va_rf (some h0)), (1, .long p1), (3, .int p3)] := hl
  unfold wp_M_about at h
  refine mr_aload_n hx hb d_M_about_0 rfl (lv_at hl 0 rfl) ?_
  refine lv_lload_n hx hb d_M_about_1 rfl (lv_at hl 1 rfl) ?_
  obtain ⟨t_1, h⟩ := h
  refine ms_calli (va_runV (As := [.long p1]) (rest := []) ⟨hx, hb, hml, hown, hts⟩ (mc_M_find l D A σ h0 p1 _) ⟨(callB_of 1 hts gw_M_find rfl rfl rfl (hts _ wd_4) (hts _ wd_540) (by decide +kernel) ⟨by decide, by decide⟩), (hts _ wd_542), (hts _ wq_13)⟩ ⟨mw_blind, mg_recv hK.1 hH (ci := 1) rfl (cell_1 t_1), fun U hU hW => ⟨rfl, mw_pass hH hK hA hS hU hW, mn_warm hW hn, h⟩⟩ rfl rfl hl.1 rfl (lv_room (Nat.le_of_ble_eq_true rfl)) d_M_about_2 ⟨by decide, by decide⟩) hS (fun r_2 σ_3 H locs h hH hK hS => ?_)
  refine lv_istore (lv' := [(4, .int r_2), (0, va_rf (some h0)), (1, .long p1), (3, .int p3)]) hx hb d_M_about_5 hl (by decide) rfl (fun ls hl => ?_)
  refine lv_iload hx hb d_M_about_7 (lv_at hl 0 rfl) ?_
  refine lv_if_ne (tgt := 16) hx hb d_M_about_9 (by decide) (fun c_4 => ?_) (fun c_4 => ?_)
  · have h := h.1 c_4
    refine lv_iload_n hx hb d_M_about_16 rfl (lv_at hl 3 rfl) ?_
    by_cases c_5 : p3 = 0
    · have h := h.1 c_5
      refine lv_tableIn (off := 39) (tgt := 56) hx hb d_M_about_17 (by rw [c_5]; decide) (by rw [c_5]; decide) (by rw [c_5]; decide) (by decide) ?_
      refine mr_aload_n hx hb d_M_about_56 rfl (lv_at hl 1 rfl) ?_
      obtain ⟨t_6, h⟩ := h
      refine ms_get (σ := σ_3) (r := some h0) (a := h0) (fs := fl_1 σ_3 h0) (ci := 1) (C := R_M) (T := T_M) (N := 32) hx hb hts in_1 hown hK hH rfl (cell_1 t_6) rfl 1 (by decide) (hts _ wd_418) (fun _ h9 => h9) (v := va_rf (st_R σ_3 41 h0)) rfl d_M_about_57 ?_
      refine lv_iload hx hb d_M_about_60 (lv_at hl 0 rfl) ?_
      obtain ⟨a_7, e_8, t_9, h⟩ := h
      obtain ⟨b_10, h⟩ := h
      refine ms_iald (σ := σ_3) (r := (st_R σ_3 41 h0)) (a := a_7) hx hb hK hH e_8 t_9 rfl (cell_301 t_9) b_10 d_M_about_62 ?_
      refine lv_i2l hx hb d_M_about_63 rfl ?_
      exact W.lret (v := (Int32.toInt64 ((st_eI σ_3 a_7 (Int32.toNatClampNeg r_2))))) hx hb hr (fun t ht hW => ⟨⟨(Int32.toInt64 ((st_eI σ_3 a_7 (Int32.toNatClampNeg r_2)))), σ_3, rfl, h, mw_pass hH hK hA hS ht hW⟩, hS.F ht⟩) hS.2.2 d_M_about_64
    · have h := h.2 c_5
      by_cases c_11 : p3 = 1
      · have h := h.1 c_11
        refine lv_tableIn (off := 48) (tgt := 65) hx hb d_M_about_17 (by rw [c_11]; decide) (by rw [c_11]; decide) (by rw [c_11]; decide) (by decide) ?_
        refine mr_aload_n hx hb d_M_about_65 rfl (lv_at hl 1 rfl) ?_
        obtain ⟨t_12, h⟩ := h
        refine ms_get (σ := σ_3) (r := some h0) (a := h0) (fs := fl_1 σ_3 h0) (ci := 1) (C := R_M) (T := T_M) (N := 32) hx hb hts in_1 hown hK hH rfl (cell_1 t_12) rfl 2 (by decide) (hts _ wd_419) (fun _ h9 => h9) (v := va_rf (st_R σ_3 42 h0)) rfl d_M_about_66 ?_
        refine lv_iload hx hb d_M_about_69 (lv_at hl 0 rfl) ?_
        obtain ⟨a_13, e_14, t_15, h⟩ := h
        obtain ⟨b_16, h⟩ := h
        refine ms_lald (σ := σ_3) (r := (st_R σ_3 42 h0)) (a := a_13) hx hb hK hH e_14 t_15 rfl (cell_302 t_15) b_16 d_M_about_71 ?_
        exact W.lret (v := (st_eJ σ_3 a_13 (Int32.toNatClampNeg r_2))) hx hb hr (fun t ht hW => ⟨⟨(st_eJ σ_3 a_13 (Int32.toNatClampNeg r_2)), σ_3, rfl, h, mw_pass hH hK hA hS ht hW⟩, hS.F ht⟩) hS.2.2 d_M_about_72
      · have h := h.2 c_11
        by_cases c_17 : p3 = 2
        · have h := h.1 c_17
          refine lv_tableIn (off := 56) (tgt := 73) hx hb d_M_about_17 (by rw [c_17]; decide) (by rw [c_17]; decide) (by rw [c_17]; decide) (by decide) ?_
          refine mr_aload_n hx hb d_M_about_73 rfl (lv_at hl 1 rfl) ?_
          obtain ⟨t_18, h⟩ := h
          refine ms_get (σ := σ_3) (r := some h0) (a := h0) (fs := fl_1 σ_3 h0) (ci := 1) (C := R_M) (T := T_M) (N := 32) hx hb hts in_1 hown hK hH rfl (cell_1 t_18) rfl 6 (by decide) (hts _ wd_423) (fun _ h9 => h9) (v := va_rf (st_R σ_3 46 h0)) rfl d_M_about_74 ?_
          refine lv_iload hx hb d_M_about_77 (lv_at hl 0 rfl) ?_
          obtain ⟨a_19, e_20, t_21, h⟩ := h
          obtain ⟨b_22, h⟩ := h
          refine ms_iald (σ := σ_3) (r := (st_R σ_3 46 h0)) (a := a_19) hx hb hK hH e_20 t_21 rfl (cell_301 t_21) b_22 d_M_about_79 ?_
          refine lv_i2l hx hb d_M_about_80 rfl ?_
          exact W.lret (v := (Int32.toInt64 ((st_eI σ_3 a_19 (Int32.toNatClampNeg r_2))))) hx hb hr (fun t ht hW => ⟨⟨(Int32.toInt64 ((st_eI σ_3 a_19 (Int32.toNatClampNeg r_2)))), σ_3, rfl, h, mw_pass hH hK hA hS ht hW⟩, hS.F ht⟩) hS.2.2 d_M_about_81
        · have h := h.2 c_17
          by_cases c_23 : p3 = 3
          · have h := h.1 c_23
            refine lv_tableIn (off := 65) (tgt := 82) hx hb d_M_about_17 (by rw [c_23]; decide) (by rw [c_23]; decide) (by rw [c_23]; decide) (by decide) ?_
            refine mr_aload_n hx hb d_M_about_82 rfl (lv_at hl 1 rfl) ?_
            obtain ⟨t_24, h⟩ := h
            refine ms_get (σ := σ_3) (r := some h0) (a := h0) (fs := fl_1 σ_3 h0) (ci := 1) (C := R_M) (T := T_M) (N := 32) hx hb hts in_1 hown hK hH rfl (cell_1 t_24) rfl 7 (by decide) (hts _ wd_424) (fun _ h9 => h9) (v := va_rf (st_R σ_3 47 h0)) rfl d_M_about_83 ?_
            refine lv_iload hx hb d_M_about_86 (lv_at hl 0 rfl) ?_
            obtain ⟨a_25, e_26, t_27, h⟩ := h
            obtain ⟨b_28, h⟩ := h
            refine ms_iald (σ := σ_3) (r := (st_R σ_3 47 h0)) (a := a_25) hx hb hK hH e_26 t_27 rfl (cell_301 t_27) b_28 d_M_about_88 ?_
            refine lv_i2l hx hb d_M_about_89 rfl ?_
            exact W.lret (v := (Int32.toInt64 ((st_eI σ_3 a_25 (Int32.toNatClampNeg r_2))))) hx hb hr (fun t ht hW => ⟨⟨(Int32.toInt64 ((st_eI σ_3 a_25 (Int32.toNatClampNeg r_2)))), σ_3, rfl, h, mw_pass hH hK hA hS ht hW⟩, hS.F ht⟩) hS.2.2 d_M_about_90
          · have h := h.2 c_23
            by_cases c_29 : p3 = 4
            · have h := h.1 c_29
              refine lv_tableIn (off := 74) (tgt := 91) hx hb d_M_about_17 (by rw [c_29]; decide) (by rw [c_29]; decide) (by rw [c_29]; decide) (by decide) ?_
              refine mr_aload_n hx hb d_M_about_91 rfl (lv_at hl 1 rfl) ?_
              obtain ⟨t_30, h⟩ := h
              refine ms_get (σ := σ_3) (r := some h0) (a := h0) (fs := fl_1 σ_3 h0) (ci := 1) (C := R_M) (T := T_M) (N := 32) hx hb hts in_1 hown hK hH rfl (cell_1 t_30) rfl 8 (by decide) (hts _ wd_425) (fun _ h9 => h9) (v := va_rf (st_R σ_3 48 h0)) rfl d_M_about_92 ?_
              refine lv_iload hx hb d_M_about_95 (lv_at hl 0 rfl) ?_
              obtain ⟨a_31, e_32, t_33, h⟩ := h
              obtain ⟨b_34, h⟩ := h
              refine ms_iald (σ := σ_3) (r := (st_R σ_3 48 h0)) (a := a_31) hx hb hK hH e_32 t_33 rfl (cell_301 t_33) b_34 d_M_about_97 ?_
              refine lv_i2l hx hb d_M_about_98 rfl ?_
              exact W.lret (v := (Int32.toInt64 ((st_eI σ_3 a_31 (Int32.toNatClampNeg r_2))))) hx hb hr (fun t ht hW => ⟨⟨(Int32.toInt64 ((st_eI σ_3 a_31 (Int32.toNatClampNeg r_2)))), σ_3, rfl, h, mw_pass hH hK hA hS ht hW⟩, hS.F ht⟩) hS.2.2 d_M_about_99
            · have h := h.2 c_29
              by_cases c_35 : p3 = 5
              · have h := h.1 c_35
                refine lv_tableIn (off := 83) (tgt := 100) hx hb d_M_about_17 (by rw [c_35]; decide) (by rw [c_35]; decide) (by rw [c_35]; decide) (by decide) ?_
                refine mr_aload_n hx hb d_M_about_100 rfl (lv_at hl 1 rfl) ?_
                refine lv_iload hx hb d_M_about_101 (lv_at hl 0 rfl) ?_
                obtain ⟨t_36, h⟩ := h
                refine ms_calll (va_runV (As := [.int r_2]) (rest := []) ⟨hx, hb, hml, hown, hts⟩ (mc_M_sumOf l D A σ_3 h0 r_2 _) ⟨(callB_of 1 hts gw_M_sumOf rfl rfl rfl (hts _ wd_4) (hts _ wd_549) (by decide +kernel) ⟨by decide, by decide⟩), (hts _ wd_551), (hts _ wq_15)⟩ ⟨mw_blind, mg_recv hK.1 hH (ci := 1) rfl (cell_1 t_36), fun U hU hW => ⟨rfl, mw_pass hH hK hA hS hU hW, mn_warm hW hn, h⟩⟩ rfl rfl hl.1 rfl (lv_room (Nat.le_of_ble_eq_true rfl)) d_M_about_103 ⟨by decide, by decide⟩) hS (fun r_37 σ_38 H locs h hH hK hS => ?_)
                exact W.lret (v := r_37) hx hb hr (fun t ht hW => ⟨⟨r_37, σ_38, rfl, h, mw_pass hH hK hA hS ht hW⟩, hS.F ht⟩) hS.2.2 d_M_about_106
              · have h := h.2 c_35
                have c_5n := lv_neT (k := 0) (a := 0) c_5 rfl
                have c_11n := lv_neT (k := 1) (a := 1) c_11 rfl
                have c_17n := lv_neT (k := 2) (a := 2) c_17 rfl
                have c_23n := lv_neT (k := 3) (a := 3) c_23 rfl
                have c_29n := lv_neT (k := 4) (a := 4) c_29 rfl
                have c_35n := lv_neT (k := 5) (a := 5) c_35 rfl
                refine lv_tableOut (tgt := 107) hx hb d_M_about_17 (by omega) (by decide) ?_
                refine lv_ldc2 (v := (-102)) hx hb hown (hts _ wd_621) d_M_about_107 ?_
                exact W.lret (v := (-102)) hx hb hr (fun t ht hW => ⟨⟨(-102), σ_3, rfl, h, mw_pass hH hK hA hS ht hW⟩, hS.F ht⟩) hS.2.2 d_M_about_110
  · have h := h.2 c_4
    refine lv_ldc2 (v := (-101)) hx hb hown (hts _ wd_579) d_M_about_12 ?_
    exact W.lret (v := (-101)) hx hb hr (fun t ht hW => ⟨⟨(-101), σ_3, rfl, h, mw_pass hH hK hA hS ht hW⟩, hS.F ht⟩) hS.2.2 d_M_about_15
def wp_M_till (σ : ST) (h0 : Nat) (p1 : Int32) (K : Int64 → ST → Prop) : Prop :=
  wp_M_isOffice σ p1 (fun (r_1 : Int32) σ_2 =>
  (((r_1 = 0) → K ((-102)) σ_2) ∧
  ((¬ r_1 = 0) → st_tg σ_2 h0 = some 1 ∧ (∃ a_5 : Nat, (st_R σ_2 52 h0) = some a_5 ∧ st_tg σ_2 a_5 = some 302 ∧ (vp_in p1 (st_ln σ_2 a_5) ∧ (K ((st_eJ σ_2 a_5 (Int32.toNatClampNeg p1))) σ_2))))))
abbrev ROOM_M_till : Room := { frames := 2, cells := 0, slots := 0, locals := 45 }
set_option maxHeartbeats 4000000 in
set_option maxRecDepth 100000 in
theorem mc_M_till (l : Launch) (D : va_G) (A : Nat → Prop) (σ : ST) (h0 : Nat) (p1 : Int32) (K : Int64 → ST → Prop) : Met l y_M_till ws_M_till ROOM_M_till (va_Pc [.ref h0, .int p1] (fun U => mw D A σ U ∧ mn U ∧ wp_M_till σ h0 p1 K)) (va_Ql K (mw D A) A) 0 0 A := by
  refine Met.ofW (cc := c_M_till) (maxL := 2) (ret := (some .long)) (by decide) rfl ?_
  intro p e s m args below meth c s₁ B hml hv
  obtain ⟨rfl, ⟨hH, hK, hA⟩, hn, h⟩ := hv
  have hx := B.exec
  have hb := B.bytes
  have hr := B.returns
  have hts := atoms_spec (ws := ws_M_till) B.pre
  have hown : s.vm.findClass R_M = some m.cls := findClass_of_methodNamed B.named
  have hlocks := B.notSynchronized
  have hts : ∀ w ∈ lw_g, w.before ([.ref h0, .int p1] : List Value).toArray s = true := fun w hw => hts w (List.mem_cons_of_mem _ hw)
  have hS : va_S A s.heap s.heap [] := va_S.rf
  have hl := lv_entry ([.ref h0, .int p1]) (n := 2) (Nat.le_of_ble_eq_true rfl)
  rw [lg_entry_eq]
  generalize (lg_sl ([.ref h0, .int p1]) ++ List.replicate (2 - (lg_sl ([.ref h0, .int p1])).length) Slot.unset).toArray = ls at hl ⊢
  have hl : lv_has ls 2 [(0, va_rf (some h0)), (1, .int p1)] := hl
  unfold wp_M_till at h
  refine lv_iload_n hx hb d_M_till_0 rfl (lv_at hl 1 rfl) ?_
  refine ms_calli (va_runS (As := [.int p1]) (rest := []) ⟨hx, hb, hml, hown, hts⟩ (mc_M_isOffice l D A σ p1 _) ⟨(callB_of 1 hts gw_M_isOffice rfl rfl rfl (hts _ wd_4) (hts _ wd_520) (by decide +kernel) ⟨by decide, by decide⟩), (hts _ wd_521)⟩ ⟨mw_blind, fun U hU hW => ⟨rfl, mw_pass hH hK hA hS hU hW, mn_warm hW hn, h⟩⟩ rfl rfl hl.1 rfl (lv_room (Nat.le_of_ble_eq_true rfl)) d_M_till_1 ⟨by decide, by decide⟩) hS (fun r_1 σ_2 H locs h hH hK hS => ?_)
  refine lv_if_eq (tgt := 16) hx hb d_M_till_4 (by decide) (fun c_3 => ?_) (fun c_3 => ?_)
  · have h := h.1 c_3
    refine lv_ldc2 (v := (-102)) hx hb hown (hts _ wd_621) d_M_till_16 ?_
    exact W.lret (v := (-102)) hx hb hr (fun t ht hW => ⟨⟨(-102), σ_2, rfl, h, mw_pass hH hK hA hS ht hW⟩, hS.F ht⟩) hS.2.2 d_M_till_19
  · have h := h.2 c_3
    refine mr_aload_n hx hb d_M_till_7 rfl (lv_at hl 0 rfl) ?_
    obtain ⟨t_4, h⟩ := h
    refine ms_get (σ := σ_2) (r := some h0) (a := h0) (fs := fl_1 σ_2 h0) (ci := 1) (C := R_M) (T := T_M) (N := 32) hx hb hts in_1 hown hK hH rfl (cell_1 t_4) rfl 12 (by decide) (hts _ wd_429) (fun _ h9 => h9) (v := va_rf (st_R σ_2 52 h0)) rfl d_M_till_8 ?_
    refine lv_iload_n hx hb d_M_till_11 rfl (lv_at hl 1 rfl) ?_
    obtain ⟨a_5, e_6, t_7, h⟩ := h
    obtain ⟨b_8, h⟩ := h
    refine ms_lald (σ := σ_2) (r := (st_R σ_2 52 h0)) (a := a_5) hx hb hK hH e_6 t_7 rfl (cell_302 t_7) b_8 d_M_till_12 ?_
    refine lv_goto (tgt := 19) hx hb d_M_till_13 (by decide) ?_
    exact W.lret (v := (st_eJ σ_2 a_5 (Int32.toNatClampNeg p1))) hx hb hr (fun t ht hW => ⟨⟨(st_eJ σ_2 a_5 (Int32.toNatClampNeg p1)), σ_2, rfl, h, mw_pass hH hK hA hS ht hW⟩, hS.F ht⟩) hS.2.2 d_M_till_19
def wp_M_all (σ : ST) (h0 : Nat) (p1 : Int32) (K : Int64 → ST → Prop) : Prop :=
  wp_M_in σ ((Int32.toInt64 p1)) 0 8 (fun (r_1 : Int32) σ_2 =>
  (((r_1 = 0) → K ((-102)) σ_2) ∧
  ((¬ r_1 = 0) → st_tg σ_2 h0 = some 1 ∧ (∃ a_5 : Nat, (st_R σ_2 71 h0) = some a_5 ∧ st_tg σ_2 a_5 = some 302 ∧ (vp_in p1 (st_ln σ_2 a_5) ∧ (K ((st_eJ σ_2 a_5 (Int32.toNatClampNeg p1))) σ_2))))))
abbrev ROOM_M_all : Room := { frames := 1, cells := 0, slots := 0, locals := 25 }
set_option maxHeartbeats 4000000 in
set_option maxRecDepth 100000 in
theorem mc_M_all (l : Launch) (D : va_G) (A : Nat → Prop) (σ : ST) (h0 : Nat) (p1 : Int32) (K : Int64 → ST → Prop) : Met l y_M_all ws_M_all ROOM_M_all (va_Pc [.ref h0, .int p1] (fun U => mw D A σ U ∧ mn U ∧ wp_M_all σ h0 p1 K)) (va_Ql K (mw D A) A) 0 0 A := by
  refine Met.ofW (cc := c_M_all) (maxL := 2) (ret := (some .long)) (by decide) rfl ?_
  intro p e s m args below meth c s₁ B hml hv
  obtain ⟨rfl, ⟨hH, hK, hA⟩, hn, h⟩ := hv
  have hx := B.exec
  have hb := B.bytes
  have hr := B.returns
  have hts := atoms_spec (ws := ws_M_all) B.pre
  have hown : s.vm.findClass R_M = some m.cls := findClass_of_methodNamed B.named
  have hlocks := B.notSynchronized
  have hts : ∀ w ∈ lw_g, w.before ([.ref h0, .int p1] : List Value).toArray s = true := fun w hw => hts w (List.mem_cons_of_mem _ hw)
  have hS : va_S A s.heap s.heap [] := va_S.rf
  have hl := lv_entry ([.ref h0, .int p1]) (n := 2) (Nat.le_of_ble_eq_true rfl)
  rw [lg_entry_eq]
  generalize (lg_sl ([.ref h0, .int p1]) ++ List.replicate (2 - (lg_sl ([.ref h0, .int p1])).length) Slot.unset).toArray = ls at hl ⊢
  have hl : lv_has ls 2 [(0, va_rf (some h0)), (1, .int p1)] := hl
  unfold wp_M_all at h
  refine lv_iload_n hx hb d_M_all_0 rfl (lv_at hl 1 rfl) ?_
  refine lv_i2l hx hb d_M_all_1 rfl ?_
  refine lv_lconst (v := 0) hx hb d_M_all_2 rfl ?_
  refine lv_ldc2 (v := 8) hx hb hown (hts _ wd_630) d_M_all_3 ?_
  refine ms_calli (va_runS (As := [.long (Int32.toInt64 p1), .long 0, .long 8]) (rest := []) ⟨hx, hb, hml, hown, hts⟩ (mc_M_in l D A σ ((Int32.toInt64 p1)) 0 8 _) ⟨(callB_of 3 hts gw_M_in rfl rfl rfl (hts _ wd_4) (hts _ wd_524) (by decide +kernel) ⟨by decide, by decide⟩), (hts _ wd_525)⟩ ⟨mw_blind, fun U hU hW => ⟨rfl, mw_pass hH hK hA hS hU hW, mn_warm hW hn, h⟩⟩ rfl rfl hl.1 rfl (lv_room (Nat.le_of_ble_eq_true rfl)) d_M_all_6 ⟨by decide, by decide⟩) hS (fun r_1 σ_2 H locs h hH hK hS => ?_)
  refine lv_if_eq (tgt := 21) hx hb d_M_all_9 (by decide) (fun c_3 => ?_) (fun c_3 => ?_)
  · have h := h.1 c_3
    refine lv_ldc2 (v := (-102)) hx hb hown (hts _ wd_621) d_M_all_21 ?_
    exact W.lret (v := (-102)) hx hb hr (fun t ht hW => ⟨⟨(-102), σ_2, rfl, h, mw_pass hH hK hA hS ht hW⟩, hS.F ht⟩) hS.2.2 d_M_all_24
  · have h := h.2 c_3
    refine mr_aload_n hx hb d_M_all_12 rfl (lv_at hl 0 rfl) ?_
    obtain ⟨t_4, h⟩ := h
    refine ms_get (σ := σ_2) (r := some h0) (a := h0) (fs := fl_1 σ_2 h0) (ci := 1) (C := R_M) (T := T_M) (N := 32) hx hb hts in_1 hown hK hH rfl (cell_1 t_4) rfl 31 (by decide) (hts _ wd_448) (fun _ h9 => h9) (v := va_rf (st_R σ_2 71 h0)) rfl d_M_all_13 ?_
    refine lv_iload_n hx hb d_M_all_16 rfl (lv_at hl 1 rfl) ?_
    obtain ⟨a_5, e_6, t_7, h⟩ := h
    obtain ⟨b_8, h⟩ := h
    refine ms_lald (σ := σ_2) (r := (st_R σ_2 71 h0)) (a := a_5) hx hb hK hH e_6 t_7 rfl (cell_302 t_7) b_8 d_M_all_17 ?_
    refine lv_goto (tgt := 24) hx hb d_M_all_18 (by decide) ?_
    exact W.lret (v := (st_eJ σ_2 a_5 (Int32.toNatClampNeg p1))) hx hb hr (fun t ht hW => ⟨⟨(st_eJ σ_2 a_5 (Int32.toNatClampNeg p1)), σ_2, rfl, h, mw_pass hH hK hA hS ht hW⟩, hS.F ht⟩) hS.2.2 d_M_all_24
