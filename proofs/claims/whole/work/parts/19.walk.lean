def wp_M_ask (σ : ST) (h0 : Nat) (p1 : Int32) (p2 : Int64) (p4 : Int32) (p5 : Int64) (K : Int32 → ST → Prop) : Prop :=
  wp_M_isOffice σ p1 (fun (r_1 : Int32) σ_2 =>
  (((r_1 = 0) → K ((-102)) σ_2) ∧
  ((¬ r_1 = 0) → (((0 ≤ ((lg_cmp p5 0))) → st_tg σ_2 h0 = some 1 ∧ ((((¬ ((((st_I σ_2 60 h0)) - ((st_I σ_2 61 h0)))) = (20 : Int32)) → ∃ a_7 : Nat, (st_R σ_2 62 h0) = some a_7 ∧ st_tg σ_2 a_7 = some 301 ∧ (vp_in ((((st_I σ_2 60 h0)) - ((st_I σ_2 60 h0)) / 128 * 128)) (st_ln σ_2 a_7) ∧ (∀ σ_11 : ST, σ_11 = st_uI σ_2 a_7 (Int32.toNatClampNeg ((((st_I σ_2 60 h0)) - ((st_I σ_2 60 h0)) / 128 * 128))) p1 → (∃ a_15 : Nat, (st_R σ_11 63 h0) = some a_15 ∧ st_tg σ_11 a_15 = some 302 ∧ (vp_in ((((st_I σ_11 60 h0)) - ((st_I σ_11 60 h0)) / 128 * 128)) (st_ln σ_11 a_15) ∧ (∀ σ_19 : ST, σ_19 = st_uJ σ_11 a_15 (Int32.toNatClampNeg ((((st_I σ_11 60 h0)) - ((st_I σ_11 60 h0)) / 128 * 128))) p2 → (∃ a_24 : Nat, (st_R σ_19 64 h0) = some a_24 ∧ st_tg σ_19 a_24 = some 301 ∧ (vp_in ((((st_I σ_19 60 h0)) - ((st_I σ_19 60 h0)) / 128 * 128)) (st_ln σ_19 a_24) ∧ (∀ σ_28 : ST, σ_28 = st_uI σ_19 a_24 (Int32.toNatClampNeg ((((st_I σ_19 60 h0)) - ((st_I σ_19 60 h0)) / 128 * 128))) p4 → (∃ a_34 : Nat, (st_R σ_28 65 h0) = some a_34 ∧ st_tg σ_28 a_34 = some 302 ∧ (vp_in ((((st_I σ_28 60 h0)) - ((st_I σ_28 60 h0)) / 128 * 128)) (st_ln σ_28 a_34) ∧ (∀ σ_38 : ST, σ_38 = st_uJ σ_28 a_34 (Int32.toNatClampNeg ((((st_I σ_28 60 h0)) - ((st_I σ_28 60 h0)) / 128 * 128))) p5 → (∀ σ_45 : ST, σ_45 = st_sI σ_38 60 h0 ((((st_I σ_38 60 h0)) + 1)) → (K ((((st_I σ_45 60 h0)) - 1)) σ_45)))))))))))))) ∧
  ((((((st_I σ_2 60 h0)) - ((st_I σ_2 61 h0)))) = (20 : Int32)) → K ((-104)) σ_2)))) ∧
  ((¬ 0 ≤ ((lg_cmp p5 0))) → K ((-102)) σ_2)))))
abbrev ROOM_M_ask : Room := { frames := 2, cells := 0, slots := 0, locals := 45 }
set_option maxHeartbeats 4000000 in
set_option maxRecDepth 100000 in
theorem mc_M_ask (l : Launch) (D : va_G) (A : Nat → Prop) (σ : ST) (h0 : Nat) (p1 : Int32) (p2 : Int64) (p4 : Int32) (p5 : Int64) (K : Int32 → ST → Prop) : Met l y_M_ask ws_M_ask ROOM_M_ask (va_Pc [.ref h0, .int p1, .long p2, .int p4, .long p5] (fun U => mw D A σ U ∧ mn U ∧ wp_M_ask σ h0 p1 p2 p4 p5 K)) (va_Qi K (mw D A) A) 0 0 A := by
  refine Met.ofW (cc := c_M_ask) (maxL := 7) (ret := (some .int)) (by decide) rfl ?_
  intro p e s m args below meth c s₁ B hml hv
  obtain ⟨rfl, ⟨hH, hK, hA⟩, hn, h⟩ := hv
  have hx := B.exec
  have hb := B.bytes
  have hr := B.returns
  have hts := atoms_spec (ws := ws_M_ask) B.pre
  have hown : s.vm.findClass R_M = some m.cls := findClass_of_methodNamed B.named
  have hlocks := B.notSynchronized
  have hts : ∀ w ∈ lw_g, w.before ([.ref h0, .int p1, .long p2, .int p4, .long p5] : List Value).toArray s = true := fun w hw => hts w (List.mem_cons_of_mem _ hw)
  have hS : va_S A s.heap s.heap [] := va_S.rf
  have hl := lv_entry ([.ref h0, .int p1, .long p2, .int p4, .long p5]) (n := 7) (Nat.le_of_ble_eq_true rfl)
  rw [lg_entry_eq]
  generalize (lg_sl ([.ref h0, .int p1, .long p2, .int p4, .long p5]) ++ List.replicate (7 - (lg_sl ([.ref h0, .int p1, .long p2, .int p4, .long p5])).length) Slot.unset).toArray = ls at hl ⊢
  have hl : lv_has ls 7 [(0, va_rf (some h0)), (1, .int p1), (2, .long p2), (4, .int p4), (5, .long p5)] := hl
  unfold wp_M_ask at h
  refine lv_iload_n hx hb d_M_ask_0 rfl (lv_at hl 1 rfl) ?_
  refine ms_calli (va_runS (As := [.int p1]) (rest := []) ⟨hx, hb, hml, hown, hts⟩ (mc_M_isOffice l D A σ p1 _) ⟨(callB_of 1 hts gw_M_isOffice rfl rfl rfl (hts _ wd_4) (hts _ wd_520) (by decide +kernel) ⟨by decide, by decide⟩), (hts _ wd_521)⟩ ⟨mw_blind, fun U hU hW => ⟨rfl, mw_pass hH hK hA hS hU hW, mn_warm hW hn, h⟩⟩ rfl rfl hl.1 rfl (lv_room (Nat.le_of_ble_eq_true rfl)) d_M_ask_1 ⟨by decide, by decide⟩) hS (fun r_1 σ_2 H locs h hH hK hS => ?_)
  refine lv_if_eq (tgt := 14) hx hb d_M_ask_4 (by decide) (fun c_3 => ?_) (fun c_3 => ?_)
  · have h := h.1 c_3
    refine lv_bipush (v := (-102)) hx hb d_M_ask_14 (by decide) ?_
    exact W.iret (v := (-102)) hx hb hr (fun t ht hW => ⟨⟨(-102), σ_2, rfl, h, mw_pass hH hK hA hS ht hW⟩, hS.F ht⟩) hS.2.2 d_M_ask_16
  · have h := h.2 c_3
    refine lv_lload hx hb d_M_ask_7 (lv_at hl 4 rfl) ?_
    refine lv_lconst (v := 0) hx hb d_M_ask_9 rfl ?_
    refine W.lcmp hx hb d_M_ask_10 ?_
    refine lv_if_ge (tgt := 17) hx hb d_M_ask_11 (by decide) (fun c_4 => ?_) (fun c_4 => ?_)
    · have h := h.1 c_4
      refine mr_aload_n hx hb d_M_ask_17 rfl (lv_at hl 0 rfl) ?_
      obtain ⟨t_5, h⟩ := h
      refine ms_get (σ := σ_2) (r := some h0) (a := h0) (fs := fl_1 σ_2 h0) (ci := 1) (C := R_M) (T := T_M) (N := 32) hx hb hts in_1 hown hK hH rfl (cell_1 t_5) rfl 20 (by decide) (hts _ wd_437) (fun _ h9 => h9) (v := .int (st_I σ_2 60 h0)) rfl d_M_ask_18 ?_
      refine mr_aload_n hx hb d_M_ask_21 rfl (lv_at hl 0 rfl) ?_
      refine ms_get (σ := σ_2) (r := some h0) (a := h0) (fs := fl_1 σ_2 h0) (ci := 1) (C := R_M) (T := T_M) (N := 32) hx hb hts in_1 hown hK hH rfl (cell_1 t_5) rfl 21 (by decide) (hts _ wd_438) (fun _ h9 => h9) (v := .int (st_I σ_2 61 h0)) rfl d_M_ask_22 ?_
      refine lv_isub hx hb d_M_ask_25 ?_
      refine lv_bipush (v := 20) hx hb d_M_ask_26 (by decide) ?_
      refine lv_icmp_ne (tgt := 34) hx hb d_M_ask_28 (by decide) (fun c_6 => ?_) (fun c_6 => ?_)
      · have h := h.1 c_6
        refine mr_aload_n hx hb d_M_ask_34 rfl (lv_at hl 0 rfl) ?_
        refine ms_get (σ := σ_2) (r := some h0) (a := h0) (fs := fl_1 σ_2 h0) (ci := 1) (C := R_M) (T := T_M) (N := 32) hx hb hts in_1 hown hK hH rfl (cell_1 t_5) rfl 22 (by decide) (hts _ wd_439) (fun _ h9 => h9) (v := va_rf (st_R σ_2 62 h0)) rfl d_M_ask_35 ?_
        refine mr_aload_n hx hb d_M_ask_38 rfl (lv_at hl 0 rfl) ?_
        refine ms_get (σ := σ_2) (r := some h0) (a := h0) (fs := fl_1 σ_2 h0) (ci := 1) (C := R_M) (T := T_M) (N := 32) hx hb hts in_1 hown hK hH rfl (cell_1 t_5) rfl 20 (by decide) (hts _ wd_437) (fun _ h9 => h9) (v := .int (st_I σ_2 60 h0)) rfl d_M_ask_39 ?_
        refine lv_sipush (v := 128) hx hb d_M_ask_42 (by decide) ?_
        refine lv_irem hx hb d_M_ask_45 (by decide) ?_
        refine lv_iload_n hx hb d_M_ask_46 rfl (lv_at hl 1 rfl) ?_
        obtain ⟨a_7, e_8, t_9, h⟩ := h
        obtain ⟨b_10, h⟩ := h
        obtain ⟨σ_11, z_12⟩ : ∃ y : ST, y = st_uI σ_2 a_7 (Int32.toNatClampNeg ((((st_I σ_2 60 h0)) - ((st_I σ_2 60 h0)) / 128 * 128))) p1 := ⟨_, rfl⟩
        have h := h σ_11 z_12
        refine ms_iast (σ := σ_2) (r := (st_R σ_2 62 h0)) (a := a_7) (x := p1) hx hb hK hH hS e_8 t_9 rfl (cell_301 t_9)  b_10 d_M_ask_47 (σ1 := σ_11) (by rw [z_12]; exact uput_301 σ_2 a_7 _ p1 t_9) (by rw [z_12]; rfl) (by rw [z_12]; rfl) (fun H locs hH hK hS => ?_)
        have t_13 : st_tg σ_11 h0 = some 1 := by rw [z_12]; exact t_5
        have t_14 : st_tg σ_11 a_7 = some 301 := by rw [z_12]; exact t_9
        refine mr_aload_n hx hb d_M_ask_48 rfl (lv_at hl 0 rfl) ?_
        refine ms_get (σ := σ_11) (r := some h0) (a := h0) (fs := fl_1 σ_11 h0) (ci := 1) (C := R_M) (T := T_M) (N := 32) hx hb hts in_1 hown hK hH rfl (cell_1 t_13) rfl 23 (by decide) (hts _ wd_440) (fun _ h9 => h9) (v := va_rf (st_R σ_11 63 h0)) rfl d_M_ask_49 ?_
        refine mr_aload_n hx hb d_M_ask_52 rfl (lv_at hl 0 rfl) ?_
        refine ms_get (σ := σ_11) (r := some h0) (a := h0) (fs := fl_1 σ_11 h0) (ci := 1) (C := R_M) (T := T_M) (N := 32) hx hb hts in_1 hown hK hH rfl (cell_1 t_13) rfl 20 (by decide) (hts _ wd_437) (fun _ h9 => h9) (v := .int (st_I σ_11 60 h0)) rfl d_M_ask_53 ?_
        refine lv_sipush (v := 128) hx hb d_M_ask_56 (by decide) ?_
        refine lv_irem hx hb d_M_ask_59 (by decide) ?_
        refine lv_lload_n hx hb d_M_ask_60 rfl (lv_at hl 2 rfl) ?_
        obtain ⟨a_15, e_16, t_17, h⟩ := h
        obtain ⟨b_18, h⟩ := h
        obtain ⟨σ_19, z_20⟩ : ∃ y : ST, y = st_uJ σ_11 a_15 (Int32.toNatClampNeg ((((st_I σ_11 60 h0)) - ((st_I σ_11 60 h0)) / 128 * 128))) p2 := ⟨_, rfl⟩
        have h := h σ_19 z_20
        refine ms_last (σ := σ_11) (r := (st_R σ_11 63 h0)) (a := a_15) (x := p2) hx hb hK hH hS e_16 t_17 rfl (cell_302 t_17)  b_18 d_M_ask_61 (σ1 := σ_19) (by rw [z_20]; exact uput_302 σ_11 a_15 _ p2 t_17) (by rw [z_20]; rfl) (by rw [z_20]; rfl) (fun H locs hH hK hS => ?_)
        have t_21 : st_tg σ_19 h0 = some 1 := by rw [z_20]; exact t_13
        have t_22 : st_tg σ_19 a_7 = some 301 := by rw [z_20]; exact t_14
        have t_23 : st_tg σ_19 a_15 = some 302 := by rw [z_20]; exact t_17
        refine mr_aload_n hx hb d_M_ask_62 rfl (lv_at hl 0 rfl) ?_
        refine ms_get (σ := σ_19) (r := some h0) (a := h0) (fs := fl_1 σ_19 h0) (ci := 1) (C := R_M) (T := T_M) (N := 32) hx hb hts in_1 hown hK hH rfl (cell_1 t_21) rfl 24 (by decide) (hts _ wd_441) (fun _ h9 => h9) (v := va_rf (st_R σ_19 64 h0)) rfl d_M_ask_63 ?_
        refine mr_aload_n hx hb d_M_ask_66 rfl (lv_at hl 0 rfl) ?_
        refine ms_get (σ := σ_19) (r := some h0) (a := h0) (fs := fl_1 σ_19 h0) (ci := 1) (C := R_M) (T := T_M) (N := 32) hx hb hts in_1 hown hK hH rfl (cell_1 t_21) rfl 20 (by decide) (hts _ wd_437) (fun _ h9 => h9) (v := .int (st_I σ_19 60 h0)) rfl d_M_ask_67 ?_
        refine lv_sipush (v := 128) hx hb d_M_ask_70 (by decide) ?_
        refine lv_irem hx hb d_M_ask_73 (by decide) ?_
        refine lv_iload hx hb d_M_ask_74 (lv_at hl 3 rfl) ?_
        obtain ⟨a_24, e_25, t_26, h⟩ := h
        obtain ⟨b_27, h⟩ := h
        obtain ⟨σ_28, z_29⟩ : ∃ y : ST, y = st_uI σ_19 a_24 (Int32.toNatClampNeg ((((st_I σ_19 60 h0)) - ((st_I σ_19 60 h0)) / 128 * 128))) p4 := ⟨_, rfl⟩
        have h := h σ_28 z_29
        refine ms_iast (σ := σ_19) (r := (st_R σ_19 64 h0)) (a := a_24) (x := p4) hx hb hK hH hS e_25 t_26 rfl (cell_301 t_26)  b_27 d_M_ask_76 (σ1 := σ_28) (by rw [z_29]; exact uput_301 σ_19 a_24 _ p4 t_26) (by rw [z_29]; rfl) (by rw [z_29]; rfl) (fun H locs hH hK hS => ?_)
        have t_30 : st_tg σ_28 h0 = some 1 := by rw [z_29]; exact t_21
        have t_31 : st_tg σ_28 a_7 = some 301 := by rw [z_29]; exact t_22
        have t_32 : st_tg σ_28 a_15 = some 302 := by rw [z_29]; exact t_23
        have t_33 : st_tg σ_28 a_24 = some 301 := by rw [z_29]; exact t_26
        refine mr_aload_n hx hb d_M_ask_77 rfl (lv_at hl 0 rfl) ?_
        refine ms_get (σ := σ_28) (r := some h0) (a := h0) (fs := fl_1 σ_28 h0) (ci := 1) (C := R_M) (T := T_M) (N := 32) hx hb hts in_1 hown hK hH rfl (cell_1 t_30) rfl 25 (by decide) (hts _ wd_442) (fun _ h9 => h9) (v := va_rf (st_R σ_28 65 h0)) rfl d_M_ask_78 ?_
        refine mr_aload_n hx hb d_M_ask_81 rfl (lv_at hl 0 rfl) ?_
        refine ms_get (σ := σ_28) (r := some h0) (a := h0) (fs := fl_1 σ_28 h0) (ci := 1) (C := R_M) (T := T_M) (N := 32) hx hb hts in_1 hown hK hH rfl (cell_1 t_30) rfl 20 (by decide) (hts _ wd_437) (fun _ h9 => h9) (v := .int (st_I σ_28 60 h0)) rfl d_M_ask_82 ?_
        refine lv_sipush (v := 128) hx hb d_M_ask_85 (by decide) ?_
        refine lv_irem hx hb d_M_ask_88 (by decide) ?_
        refine lv_lload hx hb d_M_ask_89 (lv_at hl 4 rfl) ?_
        obtain ⟨a_34, e_35, t_36, h⟩ := h
        obtain ⟨b_37, h⟩ := h
        obtain ⟨σ_38, z_39⟩ : ∃ y : ST, y = st_uJ σ_28 a_34 (Int32.toNatClampNeg ((((st_I σ_28 60 h0)) - ((st_I σ_28 60 h0)) / 128 * 128))) p5 := ⟨_, rfl⟩
        have h := h σ_38 z_39
        refine ms_last (σ := σ_28) (r := (st_R σ_28 65 h0)) (a := a_34) (x := p5) hx hb hK hH hS e_35 t_36 rfl (cell_302 t_36)  b_37 d_M_ask_91 (σ1 := σ_38) (by rw [z_39]; exact uput_302 σ_28 a_34 _ p5 t_36) (by rw [z_39]; rfl) (by rw [z_39]; rfl) (fun H locs hH hK hS => ?_)
        have t_40 : st_tg σ_38 h0 = some 1 := by rw [z_39]; exact t_30
        have t_41 : st_tg σ_38 a_7 = some 301 := by rw [z_39]; exact t_31
        have t_42 : st_tg σ_38 a_15 = some 302 := by rw [z_39]; exact t_32
        have t_43 : st_tg σ_38 a_24 = some 301 := by rw [z_39]; exact t_33
        have t_44 : st_tg σ_38 a_34 = some 302 := by rw [z_39]; exact t_36
        refine mr_aload_n hx hb d_M_ask_92 rfl (lv_at hl 0 rfl) ?_
        refine lv_dup hx hb d_M_ask_93 (cat_rf _) ?_
        refine ms_get (σ := σ_38) (r := some h0) (a := h0) (fs := fl_1 σ_38 h0) (ci := 1) (C := R_M) (T := T_M) (N := 32) hx hb hts in_1 hown hK hH rfl (cell_1 t_40) rfl 20 (by decide) (hts _ wd_437) (fun _ h9 => h9) (v := .int (st_I σ_38 60 h0)) rfl d_M_ask_94 ?_
        refine lv_iconst (v := 1) hx hb d_M_ask_97 (by decide) ?_
        refine lv_iadd hx hb d_M_ask_98 ?_
        obtain ⟨σ_45, z_46⟩ : ∃ y : ST, y = st_sI σ_38 60 h0 ((((st_I σ_38 60 h0)) + 1)) := ⟨_, rfl⟩
        have h := h σ_45 z_46
        refine ms_put (σ := σ_38) (r := some h0) (a := h0) (fs := fl_1 σ_38 h0) (ci := 1) (C := R_M) (T := T_M) (N := 32) (v := .int (((st_I σ_38 60 h0)) + 1)) (ty := .int) hx hb hts in_1 ty_M ty_M_ok nm_M hown hK hH hS rfl (cell_1 t_40) rfl 20 (by decide) (hts _ wd_437) (fun _ h9 => h9) rfl (by decide +kernel) rfl rfl (Nat.le_of_ble_eq_true rfl) d_M_ask_99 (σ1 := σ_45) (by rw [z_46]; exact put_1_20 σ_38 h0 ((((st_I σ_38 60 h0)) + 1)) t_40) (by rw [z_46]; rfl) (by rw [z_46]; rfl) (fun H locs hH hK hS => ?_)
        have t_47 : st_tg σ_45 h0 = some 1 := by rw [z_46]; exact t_40
        have t_48 : st_tg σ_45 a_7 = some 301 := by rw [z_46]; exact t_41
        have t_49 : st_tg σ_45 a_15 = some 302 := by rw [z_46]; exact t_42
        have t_50 : st_tg σ_45 a_24 = some 301 := by rw [z_46]; exact t_43
        have t_51 : st_tg σ_45 a_34 = some 302 := by rw [z_46]; exact t_44
        refine mr_aload_n hx hb d_M_ask_102 rfl (lv_at hl 0 rfl) ?_
        refine ms_get (σ := σ_45) (r := some h0) (a := h0) (fs := fl_1 σ_45 h0) (ci := 1) (C := R_M) (T := T_M) (N := 32) hx hb hts in_1 hown hK hH rfl (cell_1 t_47) rfl 20 (by decide) (hts _ wd_437) (fun _ h9 => h9) (v := .int (st_I σ_45 60 h0)) rfl d_M_ask_103 ?_
        refine lv_iconst (v := 1) hx hb d_M_ask_106 (by decide) ?_
        refine lv_isub hx hb d_M_ask_107 ?_
        exact W.iret (v := (((st_I σ_45 60 h0)) - 1)) hx hb hr (fun t ht hW => ⟨⟨(((st_I σ_45 60 h0)) - 1), σ_45, rfl, h, mw_pass hH hK hA hS ht hW⟩, hS.F ht⟩) hS.2.2 d_M_ask_108
      · have h := h.2 c_6
        refine lv_bipush (v := (-104)) hx hb d_M_ask_31 (by decide) ?_
        exact W.iret (v := (-104)) hx hb hr (fun t ht hW => ⟨⟨(-104), σ_2, rfl, h, mw_pass hH hK hA hS ht hW⟩, hS.F ht⟩) hS.2.2 d_M_ask_33
    · have h := h.2 c_4
      refine lv_bipush (v := (-102)) hx hb d_M_ask_14 (by decide) ?_
      exact W.iret (v := (-102)) hx hb hr (fun t ht hW => ⟨⟨(-102), σ_2, rfl, h, mw_pass hH hK hA hS ht hW⟩, hS.F ht⟩) hS.2.2 d_M_ask_16
def wb_M_serve_9 (h0 : Nat) (K : Int32 → ST → Prop) : Nat → ST → Int32 → Int32 → Prop
  | 0, _, _, _ => False
  | n + 1, σ, v1, v2 =>
  (((v1 ≤ v2) → K v2 σ) ∧
  ((¬ v1 ≤ v2) → st_tg σ h0 = some 1 ∧ ((((((st_I σ 60 h0)) ≤ ((st_I σ 61 h0))) → K v2 σ) ∧
  ((¬ ((st_I σ 60 h0)) ≤ ((st_I σ 61 h0))) → ∀ x_5 : Int32, x_5 = (((st_I σ 61 h0)) - ((st_I σ 61 h0)) / 128 * 128) → (∃ a_7 : Nat, (st_R σ 62 h0) = some a_7 ∧ st_tg σ a_7 = some 301 ∧ (vp_in x_5 (st_ln σ a_7) ∧ (∃ a_11 : Nat, (st_R σ 63 h0) = some a_11 ∧ st_tg σ a_11 = some 302 ∧ (vp_in x_5 (st_ln σ a_11) ∧ (∃ a_15 : Nat, (st_R σ 64 h0) = some a_15 ∧ st_tg σ a_15 = some 301 ∧ (vp_in x_5 (st_ln σ a_15) ∧ (∃ a_19 : Nat, (st_R σ 65 h0) = some a_19 ∧ st_tg σ a_19 = some 302 ∧ (vp_in x_5 (st_ln σ a_19) ∧ (wp_M_pay σ h0 ((st_eI σ a_7 (Int32.toNatClampNeg x_5))) ((st_eJ σ a_11 (Int32.toNatClampNeg x_5))) ((st_eI σ a_15 (Int32.toNatClampNeg x_5))) ((st_eJ σ a_19 (Int32.toNatClampNeg x_5))) (fun (r_23 : Int32) σ_24 =>
  ∃ a_25 : Nat, (st_R σ 66 h0) = some a_25 ∧ st_tg σ_24 a_25 = some 301 ∧ (vp_in x_5 (st_ln σ_24 a_25) ∧ (∀ σ_29 : ST, σ_29 = st_uI σ_24 a_25 (Int32.toNatClampNeg x_5) r_23 → (st_tg σ_29 h0 = some 1 ∧ (∀ σ_33 : ST, σ_33 = st_sI σ_29 61 h0 ((((st_I σ_29 61 h0)) + 1)) → (∀ x_37 : Int32, x_37 = v2 + 1 → (wb_M_serve_9 h0 K n σ_33 v1 x_37)))))))))))))))))))))
def wp_M_serve (σ : ST) (h0 : Nat) (p1 : Int32) (K : Int32 → ST → Prop) : Prop :=
  (((0 ≤ p1) → ∃ n : Nat, wb_M_serve_9 h0 K n σ p1 0) ∧
  ((¬ 0 ≤ p1) → K ((-102)) σ))
abbrev ROOM_M_serve : Room := { frames := 3, cells := 0, slots := 0, locals := 82 }
set_option maxHeartbeats 4000000 in
set_option maxRecDepth 100000 in
theorem mc_M_serve (l : Launch) (D : va_G) (A : Nat → Prop) (σ : ST) (h0 : Nat) (p1 : Int32) (K : Int32 → ST → Prop) : Met l y_M_serve ws_M_serve ROOM_M_serve (va_Pc [.ref h0, .int p1] (fun U => mw D A σ U ∧ mn U ∧ wp_M_serve σ h0 p1 K)) (va_Qi K (mw D A) A) 0 0 A := by
  refine Met.ofW (cc := c_M_serve) (maxL := 4) (ret := (some .int)) (by decide) rfl ?_
  intro p e s m args below meth c s₁ B hml hv
  obtain ⟨rfl, ⟨hH, hK, hA⟩, hn, h⟩ := hv
  have hx := B.exec
  have hb := B.bytes
  have hr := B.returns
  have hts := atoms_spec (ws := ws_M_serve) B.pre
  have hown : s.vm.findClass R_M = some m.cls := findClass_of_methodNamed B.named
  have hlocks := B.notSynchronized
  have hts : ∀ w ∈ lw_g, w.before ([.ref h0, .int p1] : List Value).toArray s = true := fun w hw => hts w (List.mem_cons_of_mem _ hw)
  have b_9 : ∀ (n : Nat), ∀ (σ : ST) (v1 : Int32) (v2 : Int32) (H : Heap) (locs : List Loc) (ls : Array Slot), mg_H D vwCl A (st_cell σ) H → mk_K D σ s → va_S A s.heap H locs → lv_has ls 4 [(0, va_rf (some h0)), (1, .int v1), (2, .int v2)] → wb_M_serve_9 h0 K n σ v1 v2 → W p l e (headSpec ws_M_serve ROOM_M_serve).room s m ([.ref h0, .int p1] : List Value).toArray below meth c H locs 0 0 (MQ below (va_Qi K (mw D A) A) ([.ref h0, .int p1] : List Value).toArray s 0 0 A) (F0 m 9 ls []) := by
    intro n
    induction n with
    | zero =>
      intro σ v1 v2 H locs ls hH hK hS hl h
      exact h.elim
    | succ n ih =>
      intro σ v1 v2 H locs ls hH hK hS hl h
      unfold wb_M_serve_9 at h
      refine lv_iload_n hx hb d_M_serve_9 rfl (lv_at hl 2 rfl) ?_
      refine lv_iload_n hx hb d_M_serve_10 rfl (lv_at hl 1 rfl) ?_
      refine lv_icmp_ge (tgt := 84) hx hb d_M_serve_11 (by decide) (fun c_2 => ?_) (fun c_2 => ?_)
      · have h := h.1 c_2
        refine lv_iload_n hx hb d_M_serve_84 rfl (lv_at hl 2 rfl) ?_
        exact W.iret (v := v2) hx hb hr (fun t ht hW => ⟨⟨v2, σ, rfl, h, mw_pass hH hK hA hS ht hW⟩, hS.F ht⟩) hS.2.2 d_M_serve_85
      · have h := h.2 c_2
        refine mr_aload_n hx hb d_M_serve_14 rfl (lv_at hl 0 rfl) ?_
        obtain ⟨t_3, h⟩ := h
        refine ms_get (σ := σ) (r := some h0) (a := h0) (fs := fl_1 σ h0) (ci := 1) (C := R_M) (T := T_M) (N := 32) hx hb hts in_1 hown hK hH rfl (cell_1 t_3) rfl 21 (by decide) (hts _ wd_438) (fun _ h9 => h9) (v := .int (st_I σ 61 h0)) rfl d_M_serve_15 ?_
        refine mr_aload_n hx hb d_M_serve_18 rfl (lv_at hl 0 rfl) ?_
        refine ms_get (σ := σ) (r := some h0) (a := h0) (fs := fl_1 σ h0) (ci := 1) (C := R_M) (T := T_M) (N := 32) hx hb hts in_1 hown hK hH rfl (cell_1 t_3) rfl 20 (by decide) (hts _ wd_437) (fun _ h9 => h9) (v := .int (st_I σ 60 h0)) rfl d_M_serve_19 ?_
        refine lv_icmp_ge (tgt := 84) hx hb d_M_serve_22 (by decide) (fun c_4 => ?_) (fun c_4 => ?_)
        · have h := h.1 c_4
          refine lv_iload_n hx hb d_M_serve_84 rfl (lv_at hl 2 rfl) ?_
          exact W.iret (v := v2) hx hb hr (fun t ht hW => ⟨⟨v2, σ, rfl, h, mw_pass hH hK hA hS ht hW⟩, hS.F ht⟩) hS.2.2 d_M_serve_85
        · have h := h.2 c_4
          refine mr_aload_n hx hb d_M_serve_25 rfl (lv_at hl 0 rfl) ?_
          refine ms_get (σ := σ) (r := some h0) (a := h0) (fs := fl_1 σ h0) (ci := 1) (C := R_M) (T := T_M) (N := 32) hx hb hts in_1 hown hK hH rfl (cell_1 t_3) rfl 21 (by decide) (hts _ wd_438) (fun _ h9 => h9) (v := .int (st_I σ 61 h0)) rfl d_M_serve_26 ?_
          refine lv_sipush (v := 128) hx hb d_M_serve_29 (by decide) ?_
          refine lv_irem hx hb d_M_serve_32 (by decide) ?_
          refine lv_topi (fun x_5 q_6 => ?_)
          have h := h x_5 q_6
          refine lv_istore_n (lv' := [(3, .int x_5), (0, va_rf (some h0)), (1, .int v1), (2, .int v2)]) hx hb d_M_serve_33 rfl hl (by decide) rfl (fun ls hl => ?_)
          refine mr_aload_n hx hb d_M_serve_34 rfl (lv_at hl 1 rfl) ?_
          refine ms_get (σ := σ) (r := some h0) (a := h0) (fs := fl_1 σ h0) (ci := 1) (C := R_M) (T := T_M) (N := 32) hx hb hts in_1 hown hK hH rfl (cell_1 t_3) rfl 26 (by decide) (hts _ wd_443) (fun _ h9 => h9) (v := va_rf (st_R σ 66 h0)) rfl d_M_serve_35 ?_
          refine lv_iload_n hx hb d_M_serve_38 rfl (lv_at hl 0 rfl) ?_
          refine mr_aload_n hx hb d_M_serve_39 rfl (lv_at hl 1 rfl) ?_
          refine mr_aload_n hx hb d_M_serve_40 rfl (lv_at hl 1 rfl) ?_
          refine ms_get (σ := σ) (r := some h0) (a := h0) (fs := fl_1 σ h0) (ci := 1) (C := R_M) (T := T_M) (N := 32) hx hb hts in_1 hown hK hH rfl (cell_1 t_3) rfl 22 (by decide) (hts _ wd_439) (fun _ h9 => h9) (v := va_rf (st_R σ 62 h0)) rfl d_M_serve_41 ?_
          refine lv_iload_n hx hb d_M_serve_44 rfl (lv_at hl 0 rfl) ?_
          obtain ⟨a_7, e_8, t_9, h⟩ := h
          obtain ⟨b_10, h⟩ := h
          refine ms_iald (σ := σ) (r := (st_R σ 62 h0)) (a := a_7) hx hb hK hH e_8 t_9 rfl (cell_301 t_9) b_10 d_M_serve_45 ?_
          refine mr_aload_n hx hb d_M_serve_46 rfl (lv_at hl 1 rfl) ?_
          refine ms_get (σ := σ) (r := some h0) (a := h0) (fs := fl_1 σ h0) (ci := 1) (C := R_M) (T := T_M) (N := 32) hx hb hts in_1 hown hK hH rfl (cell_1 t_3) rfl 23 (by decide) (hts _ wd_440) (fun _ h9 => h9) (v := va_rf (st_R σ 63 h0)) rfl d_M_serve_47 ?_
          refine lv_iload_n hx hb d_M_serve_50 rfl (lv_at hl 0 rfl) ?_
          obtain ⟨a_11, e_12, t_13, h⟩ := h
          obtain ⟨b_14, h⟩ := h
          refine ms_lald (σ := σ) (r := (st_R σ 63 h0)) (a := a_11) hx hb hK hH e_12 t_13 rfl (cell_302 t_13) b_14 d_M_serve_51 ?_
          refine mr_aload_n hx hb d_M_serve_52 rfl (lv_at hl 1 rfl) ?_
          refine ms_get (σ := σ) (r := some h0) (a := h0) (fs := fl_1 σ h0) (ci := 1) (C := R_M) (T := T_M) (N := 32) hx hb hts in_1 hown hK hH rfl (cell_1 t_3) rfl 24 (by decide) (hts _ wd_441) (fun _ h9 => h9) (v := va_rf (st_R σ 64 h0)) rfl d_M_serve_53 ?_
          refine lv_iload_n hx hb d_M_serve_56 rfl (lv_at hl 0 rfl) ?_
          obtain ⟨a_15, e_16, t_17, h⟩ := h
          obtain ⟨b_18, h⟩ := h
          refine ms_iald (σ := σ) (r := (st_R σ 64 h0)) (a := a_15) hx hb hK hH e_16 t_17 rfl (cell_301 t_17) b_18 d_M_serve_57 ?_
          refine mr_aload_n hx hb d_M_serve_58 rfl (lv_at hl 1 rfl) ?_
          refine ms_get (σ := σ) (r := some h0) (a := h0) (fs := fl_1 σ h0) (ci := 1) (C := R_M) (T := T_M) (N := 32) hx hb hts in_1 hown hK hH rfl (cell_1 t_3) rfl 25 (by decide) (hts _ wd_442) (fun _ h9 => h9) (v := va_rf (st_R σ 65 h0)) rfl d_M_serve_59 ?_
          refine lv_iload_n hx hb d_M_serve_62 rfl (lv_at hl 0 rfl) ?_
          obtain ⟨a_19, e_20, t_21, h⟩ := h
          obtain ⟨b_22, h⟩ := h
          refine ms_lald (σ := σ) (r := (st_R σ 65 h0)) (a := a_19) hx hb hK hH e_20 t_21 rfl (cell_302 t_21) b_22 d_M_serve_63 ?_
          refine ms_calli (va_runV (As := [.int (st_eI σ a_7 (Int32.toNatClampNeg x_5)), .long (st_eJ σ a_11 (Int32.toNatClampNeg x_5)), .int (st_eI σ a_15 (Int32.toNatClampNeg x_5)), .long (st_eJ σ a_19 (Int32.toNatClampNeg x_5))]) (rest := [.int x_5, va_rf (st_R σ 66 h0)]) ⟨hx, hb, hml, hown, hts⟩ (mc_M_pay l D A σ h0 ((st_eI σ a_7 (Int32.toNatClampNeg x_5))) ((st_eJ σ a_11 (Int32.toNatClampNeg x_5))) ((st_eI σ a_15 (Int32.toNatClampNeg x_5))) ((st_eJ σ a_19 (Int32.toNatClampNeg x_5))) _) ⟨(callB_of 4 hts gw_M_pay rfl rfl rfl (hts _ wd_4) (hts _ wd_566) (by decide +kernel) ⟨by decide, by decide⟩), (hts _ wd_537), (hts _ wd_538)⟩ ⟨mw_blind, mg_recv hK.1 hH (ci := 1) rfl (cell_1 t_3), fun U hU hW => ⟨rfl, mw_pass hH hK hA hS hU hW, mn_warm hW hn, h⟩⟩ rfl rfl hl.1 rfl (lv_room (by simp [cat_rf, cat_i, cat_l, cat_r])) d_M_serve_64 ⟨by decide, by decide⟩) hS (fun r_23 σ_24 H locs h hH hK hS => ?_)
          obtain ⟨a_25, e_26, t_27, h⟩ := h
          obtain ⟨b_28, h⟩ := h
          obtain ⟨σ_29, z_30⟩ : ∃ y : ST, y = st_uI σ_24 a_25 (Int32.toNatClampNeg x_5) r_23 := ⟨_, rfl⟩
          have h := h σ_29 z_30
          refine ms_iast (σ := σ_24) (r := (st_R σ 66 h0)) (a := a_25) (x := r_23) hx hb hK hH hS e_26 t_27 rfl (cell_301 t_27)  b_28 d_M_serve_67 (σ1 := σ_29) (by rw [z_30]; exact uput_301 σ_24 a_25 _ r_23 t_27) (by rw [z_30]; rfl) (by rw [z_30]; rfl) (fun H locs hH hK hS => ?_)
          have t_31 : st_tg σ_29 a_25 = some 301 := by rw [z_30]; exact t_27
          refine mr_aload_n hx hb d_M_serve_68 rfl (lv_at hl 1 rfl) ?_
          refine lv_dup hx hb d_M_serve_69 (cat_rf _) ?_
          obtain ⟨t_32, h⟩ := h
          refine ms_get (σ := σ_29) (r := some h0) (a := h0) (fs := fl_1 σ_29 h0) (ci := 1) (C := R_M) (T := T_M) (N := 32) hx hb hts in_1 hown hK hH rfl (cell_1 t_32) rfl 21 (by decide) (hts _ wd_438) (fun _ h9 => h9) (v := .int (st_I σ_29 61 h0)) rfl d_M_serve_70 ?_
          refine lv_iconst (v := 1) hx hb d_M_serve_73 (by decide) ?_
          refine lv_iadd hx hb d_M_serve_74 ?_
          obtain ⟨σ_33, z_34⟩ : ∃ y : ST, y = st_sI σ_29 61 h0 ((((st_I σ_29 61 h0)) + 1)) := ⟨_, rfl⟩
          have h := h σ_33 z_34
          refine ms_put (σ := σ_29) (r := some h0) (a := h0) (fs := fl_1 σ_29 h0) (ci := 1) (C := R_M) (T := T_M) (N := 32) (v := .int (((st_I σ_29 61 h0)) + 1)) (ty := .int) hx hb hts in_1 ty_M ty_M_ok nm_M hown hK hH hS rfl (cell_1 t_32) rfl 21 (by decide) (hts _ wd_438) (fun _ h9 => h9) rfl (by decide +kernel) rfl rfl (Nat.le_of_ble_eq_true rfl) d_M_serve_75 (σ1 := σ_33) (by rw [z_34]; exact put_1_21 σ_29 h0 ((((st_I σ_29 61 h0)) + 1)) t_32) (by rw [z_34]; rfl) (by rw [z_34]; rfl) (fun H locs hH hK hS => ?_)
          have t_35 : st_tg σ_33 a_25 = some 301 := by rw [z_34]; exact t_31
          have t_36 : st_tg σ_33 h0 = some 1 := by rw [z_34]; exact t_32
          obtain ⟨x_37, q_38⟩ : ∃ y : Int32, y = v2 + 1 := ⟨_, rfl⟩
          have h := h x_37 q_38
          refine lv_iinc (v := x_37) (lv' := [(2, .int x_37), (3, .int x_5), (0, va_rf (some h0)), (1, .int v1)]) hx hb d_M_serve_78 hl (k := 3) rfl (by rw [q_38]; rfl) (by decide) rfl (fun ls hl => ?_)
          refine lv_goto (tgt := 9) hx hb d_M_serve_81 (by decide) ?_
          exact ih _ _ _ _ _ _ hH hK hS (lv_sub hl [2, 3, 0] rfl) h
  have hS : va_S A s.heap s.heap [] := va_S.rf
  have hl := lv_entry ([.ref h0, .int p1]) (n := 4) (Nat.le_of_ble_eq_true rfl)
  rw [lg_entry_eq]
  generalize (lg_sl ([.ref h0, .int p1]) ++ List.replicate (4 - (lg_sl ([.ref h0, .int p1])).length) Slot.unset).toArray = ls at hl ⊢
  have hl : lv_has ls 4 [(0, va_rf (some h0)), (1, .int p1)] := hl
  unfold wp_M_serve at h
  refine lv_iload_n hx hb d_M_serve_0 rfl (lv_at hl 1 rfl) ?_
  refine lv_if_ge (tgt := 7) hx hb d_M_serve_1 (by decide) (fun c_1 => ?_) (fun c_1 => ?_)
  · have h := h.1 c_1
    refine lv_iconst (v := 0) hx hb d_M_serve_7 (by decide) ?_
    refine lv_istore_n (lv' := [(2, .int 0), (0, va_rf (some h0)), (1, .int p1)]) hx hb d_M_serve_8 rfl hl (by decide) rfl (fun ls hl => ?_)
    obtain ⟨n, h⟩ := h
    exact b_9 n _ _ _ _ _ _ hH hK hS (lv_sub hl [1, 2, 0] rfl) h
  · have h := h.2 c_1
    refine lv_bipush (v := (-102)) hx hb d_M_serve_4 (by decide) ?_
    exact W.iret (v := (-102)) hx hb hr (fun t ht hW => ⟨⟨(-102), σ, rfl, h, mw_pass hH hK hA hS ht hW⟩, hS.F ht⟩) hS.2.2 d_M_serve_6
def wp_M_answer (σ : ST) (h0 : Nat) (p1 : Int32) (K : Int32 → ST → Prop) : Prop :=
  (((p1 < 0) → K ((-1)) σ) ∧
  ((¬ p1 < 0) → st_tg σ h0 = some 1 ∧ ((((((st_I σ 61 h0)) ≤ p1) → K ((-1)) σ) ∧
  ((¬ ((st_I σ 61 h0)) ≤ p1) → (((p1 < ((((st_I σ 60 h0)) - 100))) → K ((-1)) σ) ∧
  ((¬ p1 < ((((st_I σ 60 h0)) - 100))) → ∃ a_5 : Nat, (st_R σ 66 h0) = some a_5 ∧ st_tg σ a_5 = some 301 ∧ (vp_in ((p1 - p1 / 128 * 128)) (st_ln σ a_5) ∧ (K ((st_eI σ a_5 (Int32.toNatClampNeg ((p1 - p1 / 128 * 128))))) σ)))))))))
abbrev ROOM_M_answer : Room := { frames := 0, cells := 0, slots := 0, locals := 0 }
set_option maxHeartbeats 4000000 in
set_option maxRecDepth 100000 in
theorem mc_M_answer (l : Launch) (D : va_G) (A : Nat → Prop) (σ : ST) (h0 : Nat) (p1 : Int32) (K : Int32 → ST → Prop) : Met l y_M_answer ws_M_answer ROOM_M_answer (va_Pc [.ref h0, .int p1] (fun U => mw D A σ U ∧ mn U ∧ wp_M_answer σ h0 p1 K)) (va_Qi K (mw D A) A) 0 0 A := by
  refine Met.ofW (cc := c_M_answer) (maxL := 2) (ret := (some .int)) (by decide) rfl ?_
  intro p e s m args below meth c s₁ B hml hv
  obtain ⟨rfl, ⟨hH, hK, hA⟩, hn, h⟩ := hv
  have hx := B.exec
  have hb := B.bytes
  have hr := B.returns
  have hts := atoms_spec (ws := ws_M_answer) B.pre
  have hown : s.vm.findClass R_M = some m.cls := findClass_of_methodNamed B.named
  have hlocks := B.notSynchronized
  have hts : ∀ w ∈ lw_g, w.before ([.ref h0, .int p1] : List Value).toArray s = true := fun w hw => hts w (List.mem_cons_of_mem _ hw)
  have hS : va_S A s.heap s.heap [] := va_S.rf
  have hl := lv_entry ([.ref h0, .int p1]) (n := 2) (Nat.le_of_ble_eq_true rfl)
  rw [lg_entry_eq]
  generalize (lg_sl ([.ref h0, .int p1]) ++ List.replicate (2 - (lg_sl ([.ref h0, .int p1])).length) Slot.unset).toArray = ls at hl ⊢
  have hl : lv_has ls 2 [(0, va_rf (some h0)), (1, .int p1)] := hl
  unfold wp_M_answer at h
  refine lv_iload_n hx hb d_M_answer_0 rfl (lv_at hl 1 rfl) ?_
  refine lv_if_lt (tgt := 36) hx hb d_M_answer_1 (by decide) (fun c_1 => ?_) (fun c_1 => ?_)
  · have h := h.1 c_1
    refine lv_iconst (v := (-1)) hx hb d_M_answer_36 (by decide) ?_
    exact W.iret (v := (-1)) hx hb hr (fun t ht hW => ⟨⟨(-1), σ, rfl, h, mw_pass hH hK hA hS ht hW⟩, hS.F ht⟩) hS.2.2 d_M_answer_37
  · have h := h.2 c_1
    refine lv_iload_n hx hb d_M_answer_4 rfl (lv_at hl 1 rfl) ?_
    refine mr_aload_n hx hb d_M_answer_5 rfl (lv_at hl 0 rfl) ?_
    obtain ⟨t_2, h⟩ := h
    refine ms_get (σ := σ) (r := some h0) (a := h0) (fs := fl_1 σ h0) (ci := 1) (C := R_M) (T := T_M) (N := 32) hx hb hts in_1 hown hK hH rfl (cell_1 t_2) rfl 21 (by decide) (hts _ wd_438) (fun _ h9 => h9) (v := .int (st_I σ 61 h0)) rfl d_M_answer_6 ?_
    refine lv_icmp_ge (tgt := 36) hx hb d_M_answer_9 (by decide) (fun c_3 => ?_) (fun c_3 => ?_)
    · have h := h.1 c_3
      refine lv_iconst (v := (-1)) hx hb d_M_answer_36 (by decide) ?_
      exact W.iret (v := (-1)) hx hb hr (fun t ht hW => ⟨⟨(-1), σ, rfl, h, mw_pass hH hK hA hS ht hW⟩, hS.F ht⟩) hS.2.2 d_M_answer_37
    · have h := h.2 c_3
      refine lv_iload_n hx hb d_M_answer_12 rfl (lv_at hl 1 rfl) ?_
      refine mr_aload_n hx hb d_M_answer_13 rfl (lv_at hl 0 rfl) ?_
      refine ms_get (σ := σ) (r := some h0) (a := h0) (fs := fl_1 σ h0) (ci := 1) (C := R_M) (T := T_M) (N := 32) hx hb hts in_1 hown hK hH rfl (cell_1 t_2) rfl 20 (by decide) (hts _ wd_437) (fun _ h9 => h9) (v := .int (st_I σ 60 h0)) rfl d_M_answer_14 ?_
      refine lv_bipush (v := 100) hx hb d_M_answer_17 (by decide) ?_
      refine lv_isub hx hb d_M_answer_19 ?_
      refine lv_icmp_lt (tgt := 36) hx hb d_M_answer_20 (by decide) (fun c_4 => ?_) (fun c_4 => ?_)
      · have h := h.1 c_4
        refine lv_iconst (v := (-1)) hx hb d_M_answer_36 (by decide) ?_
        exact W.iret (v := (-1)) hx hb hr (fun t ht hW => ⟨⟨(-1), σ, rfl, h, mw_pass hH hK hA hS ht hW⟩, hS.F ht⟩) hS.2.2 d_M_answer_37
      · have h := h.2 c_4
        refine mr_aload_n hx hb d_M_answer_23 rfl (lv_at hl 0 rfl) ?_
        refine ms_get (σ := σ) (r := some h0) (a := h0) (fs := fl_1 σ h0) (ci := 1) (C := R_M) (T := T_M) (N := 32) hx hb hts in_1 hown hK hH rfl (cell_1 t_2) rfl 26 (by decide) (hts _ wd_443) (fun _ h9 => h9) (v := va_rf (st_R σ 66 h0)) rfl d_M_answer_24 ?_
        refine lv_iload_n hx hb d_M_answer_27 rfl (lv_at hl 1 rfl) ?_
        refine lv_sipush (v := 128) hx hb d_M_answer_28 (by decide) ?_
        refine lv_irem hx hb d_M_answer_31 (by decide) ?_
        obtain ⟨a_5, e_6, t_7, h⟩ := h
        obtain ⟨b_8, h⟩ := h
        refine ms_iald (σ := σ) (r := (st_R σ 66 h0)) (a := a_5) hx hb hK hH e_6 t_7 rfl (cell_301 t_7) b_8 d_M_answer_32 ?_
        refine lv_goto (tgt := 37) hx hb d_M_answer_33 (by decide) ?_
        exact W.iret (v := (st_eI σ a_5 (Int32.toNatClampNeg ((p1 - p1 / 128 * 128))))) hx hb hr (fun t ht hW => ⟨⟨(st_eI σ a_5 (Int32.toNatClampNeg ((p1 - p1 / 128 * 128)))), σ, rfl, h, mw_pass hH hK hA hS ht hW⟩, hS.F ht⟩) hS.2.2 d_M_answer_37
def wp_M_bar (σ : ST) (h0 : Nat) (p1 : Int64) (p3 : Int64) (K : Int32 → ST → Prop) : Prop :=
  st_tg σ h0 = some 1 ∧ (wp_M_find σ h0 p1 (fun (r_2 : Int32) σ_3 =>
  (((¬ r_2 = 0) → (((0 ≤ ((lg_cmp p3 0))) → st_tg σ_3 h0 = some 1 ∧ (∃ a_7 : Nat, (st_R σ_3 41 h0) = some a_7 ∧ st_tg σ_3 a_7 = some 301 ∧ (vp_in r_2 (st_ln σ_3 a_7) ∧ ((((((st_eI σ_3 a_7 (Int32.toNatClampNeg r_2))) = 0) → vp_in r_2 (st_ln σ_3 a_7) ∧ (∀ σ_13 : ST, σ_13 = st_uI σ_3 a_7 (Int32.toNatClampNeg r_2) 2 → (∃ a_17 : Nat, (st_R σ_13 49 h0) = some a_17 ∧ st_tg σ_13 a_17 = some 302 ∧ (vp_in r_2 (st_ln σ_13 a_17) ∧ (∀ σ_21 : ST, σ_21 = st_uJ σ_13 a_17 (Int32.toNatClampNeg r_2) p3 → (∃ a_26 : Nat, (st_R σ_21 50 h0) = some a_26 ∧ st_tg σ_21 a_26 = some 303 ∧ (vp_in r_2 (st_ln σ_21 a_26) ∧ (∀ σ_30 : ST, σ_30 = st_uI σ_21 a_26 (Int32.toNatClampNeg r_2) 1 → (∃ a_36 : Nat, (st_R σ_30 48 h0) = some a_36 ∧ st_tg σ_30 a_36 = some 301 ∧ (vp_in r_2 (st_ln σ_30 a_36) ∧ (∀ σ_40 : ST, σ_40 = st_uI σ_30 a_36 (Int32.toNatClampNeg r_2) ((-1)) → (K 1 σ_40)))))))))))) ∧
  ((¬ ((st_eI σ_3 a_7 (Int32.toNatClampNeg r_2))) = 0) → K ((-103)) σ_3)))))) ∧
  ((¬ 0 ≤ ((lg_cmp p3 0))) → K ((-102)) σ_3))) ∧
  ((r_2 = 0) → K ((-101)) σ_3))))
abbrev ROOM_M_bar : Room := { frames := 2, cells := 0, slots := 0, locals := 46 }
set_option maxHeartbeats 4000000 in
set_option maxRecDepth 100000 in
theorem mc_M_bar (l : Launch) (D : va_G) (A : Nat → Prop) (σ : ST) (h0 : Nat) (p1 : Int64) (p3 : Int64) (K : Int32 → ST → Prop) : Met l y_M_bar ws_M_bar ROOM_M_bar (va_Pc [.ref h0, .long p1, .long p3] (fun U => mw D A σ U ∧ mn U ∧ wp_M_bar σ h0 p1 p3 K)) (va_Qi K (mw D A) A) 0 0 A := by
  refine Met.ofW (cc := c_M_bar) (maxL := 6) (ret := (some .int)) (by decide) rfl ?_
  intro p e s m args below meth c s₁ B hml hv
  obtain ⟨rfl, ⟨hH, hK, hA⟩, hn, h⟩ := hv
  have hx := B.exec
  have hb := B.bytes
  have hr := B.returns
  have hts := atoms_spec (ws := ws_M_bar) B.pre
  have hown : s.vm.findClass R_M = some m.cls := findClass_of_methodNamed B.named
  have hlocks := B.notSynchronized
  have hts : ∀ w ∈ lw_g, w.before ([.ref h0, .long p1, .long p3] : List Value).toArray s = true := fun w hw => hts w (List.mem_cons_of_mem _ hw)
  have hS : va_S A s.heap s.heap [] := va_S.rf
  have hl := lv_entry ([.ref h0, .long p1, .long p3]) (n := 6) (Nat.le_of_ble_eq_true rfl)
  rw [lg_entry_eq]
  generalize (lg_sl ([.ref h0, .long p1, .long p3]) ++ List.replicate (6 - (lg_sl ([.ref h0, .long p1, .long p3])).length) Slot.unset).toArray = ls at hl ⊢
  have hl : lv_has ls 6 [(0, va_rf (some h0)), (1, .long p1), (3, .long p3)] := hl
  unfold wp_M_bar at h
  refine mr_aload_n hx hb d_M_bar_0 rfl (lv_at hl 0 rfl) ?_
  refine lv_lload_n hx hb d_M_bar_1 rfl (lv_at hl 1 rfl) ?_
  obtain ⟨t_1, h⟩ := h
  refine ms_calli (va_runV (As := [.long p1]) (rest := []) ⟨hx, hb, hml, hown, hts⟩ (mc_M_find l D A σ h0 p1 _) ⟨(callB_of 1 hts gw_M_find rfl rfl rfl (hts _ wd_4) (hts _ wd_540) (by decide +kernel) ⟨by decide, by decide⟩), (hts _ wd_542), (hts _ wq_13)⟩ ⟨mw_blind, mg_recv hK.1 hH (ci := 1) rfl (cell_1 t_1), fun U hU hW => ⟨rfl, mw_pass hH hK hA hS hU hW, mn_warm hW hn, h⟩⟩ rfl rfl hl.1 rfl (lv_room (Nat.le_of_ble_eq_true rfl)) d_M_bar_2 ⟨by decide, by decide⟩) hS (fun r_2 σ_3 H locs h hH hK hS => ?_)
  refine lv_istore (lv' := [(5, .int r_2), (0, va_rf (some h0)), (1, .long p1), (3, .long p3)]) hx hb d_M_bar_5 hl (by decide) rfl (fun ls hl => ?_)
  refine lv_iload hx hb d_M_bar_7 (lv_at hl 0 rfl) ?_
  refine lv_if_ne (tgt := 15) hx hb d_M_bar_9 (by decide) (fun c_4 => ?_) (fun c_4 => ?_)
  · have h := h.1 c_4
    refine lv_lload_n hx hb d_M_bar_15 rfl (lv_at hl 3 rfl) ?_
    refine lv_lconst (v := 0) hx hb d_M_bar_16 rfl ?_
    refine W.lcmp hx hb d_M_bar_17 ?_
    refine lv_if_ge (tgt := 24) hx hb d_M_bar_18 (by decide) (fun c_5 => ?_) (fun c_5 => ?_)
    · have h := h.1 c_5
      refine mr_aload_n hx hb d_M_bar_24 rfl (lv_at hl 1 rfl) ?_
      obtain ⟨t_6, h⟩ := h
      refine ms_get (σ := σ_3) (r := some h0) (a := h0) (fs := fl_1 σ_3 h0) (ci := 1) (C := R_M) (T := T_M) (N := 32) hx hb hts in_1 hown hK hH rfl (cell_1 t_6) rfl 1 (by decide) (hts _ wd_418) (fun _ h9 => h9) (v := va_rf (st_R σ_3 41 h0)) rfl d_M_bar_25 ?_
      refine lv_iload hx hb d_M_bar_28 (lv_at hl 0 rfl) ?_
      obtain ⟨a_7, e_8, t_9, h⟩ := h
      obtain ⟨b_10, h⟩ := h
      refine ms_iald (σ := σ_3) (r := (st_R σ_3 41 h0)) (a := a_7) hx hb hK hH e_8 t_9 rfl (cell_301 t_9) b_10 d_M_bar_30 ?_
      refine lv_if_eq (tgt := 37) hx hb d_M_bar_31 (by decide) (fun c_11 => ?_) (fun c_11 => ?_)
      · have h := h.1 c_11
        refine mr_aload_n hx hb d_M_bar_37 rfl (lv_at hl 1 rfl) ?_
        refine ms_get (σ := σ_3) (r := some h0) (a := h0) (fs := fl_1 σ_3 h0) (ci := 1) (C := R_M) (T := T_M) (N := 32) hx hb hts in_1 hown hK hH rfl (cell_1 t_6) rfl 1 (by decide) (hts _ wd_418) (fun _ h9 => h9) (v := va_rf (st_R σ_3 41 h0)) rfl d_M_bar_38 ?_
        refine lv_iload hx hb d_M_bar_41 (lv_at hl 0 rfl) ?_
        refine lv_iconst (v := 2) hx hb d_M_bar_43 (by decide) ?_
        obtain ⟨b_12, h⟩ := h
        obtain ⟨σ_13, z_14⟩ : ∃ y : ST, y = st_uI σ_3 a_7 (Int32.toNatClampNeg r_2) 2 := ⟨_, rfl⟩
        have h := h σ_13 z_14
        refine ms_iast (σ := σ_3) (r := (st_R σ_3 41 h0)) (a := a_7) (x := 2) hx hb hK hH hS e_8 t_9 rfl (cell_301 t_9)  b_12 d_M_bar_44 (σ1 := σ_13) (by rw [z_14]; exact uput_301 σ_3 a_7 _ 2 t_9) (by rw [z_14]; rfl) (by rw [z_14]; rfl) (fun H locs hH hK hS => ?_)
        have t_15 : st_tg σ_13 h0 = some 1 := by rw [z_14]; exact t_6
        have t_16 : st_tg σ_13 a_7 = some 301 := by rw [z_14]; exact t_9
        refine mr_aload_n hx hb d_M_bar_45 rfl (lv_at hl 1 rfl) ?_
        refine ms_get (σ := σ_13) (r := some h0) (a := h0) (fs := fl_1 σ_13 h0) (ci := 1) (C := R_M) (T := T_M) (N := 32) hx hb hts in_1 hown hK hH rfl (cell_1 t_15) rfl 9 (by decide) (hts _ wd_426) (fun _ h9 => h9) (v := va_rf (st_R σ_13 49 h0)) rfl d_M_bar_46 ?_
        refine lv_iload hx hb d_M_bar_49 (lv_at hl 0 rfl) ?_
        refine lv_lload_n hx hb d_M_bar_51 rfl (lv_at hl 3 rfl) ?_
        obtain ⟨a_17, e_18, t_19, h⟩ := h
        obtain ⟨b_20, h⟩ := h
        obtain ⟨σ_21, z_22⟩ : ∃ y : ST, y = st_uJ σ_13 a_17 (Int32.toNatClampNeg r_2) p3 := ⟨_, rfl⟩
        have h := h σ_21 z_22
        refine ms_last (σ := σ_13) (r := (st_R σ_13 49 h0)) (a := a_17) (x := p3) hx hb hK hH hS e_18 t_19 rfl (cell_302 t_19)  b_20 d_M_bar_52 (σ1 := σ_21) (by rw [z_22]; exact uput_302 σ_13 a_17 _ p3 t_19) (by rw [z_22]; rfl) (by rw [z_22]; rfl) (fun H locs hH hK hS => ?_)
        have t_23 : st_tg σ_21 h0 = some 1 := by rw [z_22]; exact t_15
        have t_24 : st_tg σ_21 a_7 = some 301 := by rw [z_22]; exact t_16
        have t_25 : st_tg σ_21 a_17 = some 302 := by rw [z_22]; exact t_19
        refine mr_aload_n hx hb d_M_bar_53 rfl (lv_at hl 1 rfl) ?_
        refine ms_get (σ := σ_21) (r := some h0) (a := h0) (fs := fl_1 σ_21 h0) (ci := 1) (C := R_M) (T := T_M) (N := 32) hx hb hts in_1 hown hK hH rfl (cell_1 t_23) rfl 10 (by decide) (hts _ wd_427) (fun _ h9 => h9) (v := va_rf (st_R σ_21 50 h0)) rfl d_M_bar_54 ?_
        refine lv_iload hx hb d_M_bar_57 (lv_at hl 0 rfl) ?_
        refine lv_iconst (v := 1) hx hb d_M_bar_59 (by decide) ?_
        obtain ⟨a_26, e_27, t_28, h⟩ := h
        obtain ⟨b_29, h⟩ := h
        obtain ⟨σ_30, z_31⟩ : ∃ y : ST, y = st_uI σ_21 a_26 (Int32.toNatClampNeg r_2) 1 := ⟨_, rfl⟩
        have h := h σ_30 z_31
        refine ms_zast (σ := σ_21) (r := (st_R σ_21 50 h0)) (a := a_26) (x := 1) hx hb hK hH hS e_27 t_28 rfl (cell_303 t_28) (Or.inr rfl) b_29 d_M_bar_60 (σ1 := σ_30) (by rw [z_31]; exact uput_303 σ_21 a_26 _ 1 t_28) (by rw [z_31]; rfl) (by rw [z_31]; rfl) (fun H locs hH hK hS => ?_)
        have t_32 : st_tg σ_30 h0 = some 1 := by rw [z_31]; exact t_23
        have t_33 : st_tg σ_30 a_7 = some 301 := by rw [z_31]; exact t_24
        have t_34 : st_tg σ_30 a_17 = some 302 := by rw [z_31]; exact t_25
        have t_35 : st_tg σ_30 a_26 = some 303 := by rw [z_31]; exact t_28
        refine mr_aload_n hx hb d_M_bar_61 rfl (lv_at hl 1 rfl) ?_
        refine ms_get (σ := σ_30) (r := some h0) (a := h0) (fs := fl_1 σ_30 h0) (ci := 1) (C := R_M) (T := T_M) (N := 32) hx hb hts in_1 hown hK hH rfl (cell_1 t_32) rfl 8 (by decide) (hts _ wd_425) (fun _ h9 => h9) (v := va_rf (st_R σ_30 48 h0)) rfl d_M_bar_62 ?_
        refine lv_iload hx hb d_M_bar_65 (lv_at hl 0 rfl) ?_
        refine lv_iconst (v := (-1)) hx hb d_M_bar_67 (by decide) ?_
        obtain ⟨a_36, e_37, t_38, h⟩ := h
        obtain ⟨b_39, h⟩ := h
        obtain ⟨σ_40, z_41⟩ : ∃ y : ST, y = st_uI σ_30 a_36 (Int32.toNatClampNeg r_2) ((-1)) := ⟨_, rfl⟩
        have h := h σ_40 z_41
        refine ms_iast (σ := σ_30) (r := (st_R σ_30 48 h0)) (a := a_36) (x := (-1)) hx hb hK hH hS e_37 t_38 rfl (cell_301 t_38)  b_39 d_M_bar_68 (σ1 := σ_40) (by rw [z_41]; exact uput_301 σ_30 a_36 _ ((-1)) t_38) (by rw [z_41]; rfl) (by rw [z_41]; rfl) (fun H locs hH hK hS => ?_)
        have t_42 : st_tg σ_40 h0 = some 1 := by rw [z_41]; exact t_32
        have t_43 : st_tg σ_40 a_7 = some 301 := by rw [z_41]; exact t_33
        have t_44 : st_tg σ_40 a_17 = some 302 := by rw [z_41]; exact t_34
        have t_45 : st_tg σ_40 a_26 = some 303 := by rw [z_41]; exact t_35
        have t_46 : st_tg σ_40 a_36 = some 301 := by rw [z_41]; exact t_38
        refine lv_iconst (v := 1) hx hb d_M_bar_69 (by decide) ?_
        exact W.iret (v := 1) hx hb hr (fun t ht hW => ⟨⟨1, σ_40, rfl, h, mw_pass hH hK hA hS ht hW⟩, hS.F ht⟩) hS.2.2 d_M_bar_70
      · have h := h.2 c_11
        refine lv_bipush (v := (-103)) hx hb d_M_bar_34 (by decide) ?_
        exact W.iret (v := (-103)) hx hb hr (fun t ht hW => ⟨⟨(-103), σ_3, rfl, h, mw_pass hH hK hA hS ht hW⟩, hS.F ht⟩) hS.2.2 d_M_bar_36
    · have h := h.2 c_5
      refine lv_bipush (v := (-102)) hx hb d_M_bar_21 (by decide) ?_
      exact W.iret (v := (-102)) hx hb hr (fun t ht hW => ⟨⟨(-102), σ_3, rfl, h, mw_pass hH hK hA hS ht hW⟩, hS.F ht⟩) hS.2.2 d_M_bar_23
  · have h := h.2 c_4
    refine lv_bipush (v := (-101)) hx hb d_M_bar_12 (by decide) ?_
    exact W.iret (v := (-101)) hx hb hr (fun t ht hW => ⟨⟨(-101), σ_3, rfl, h, mw_pass hH hK hA hS ht hW⟩, hS.F ht⟩) hS.2.2 d_M_bar_14
def wp_M_since (σ : ST) (h0 : Nat) (p1 : Int64) (K : Int64 → ST → Prop) : Prop :=
  st_tg σ h0 = some 1 ∧ (wp_M_find σ h0 p1 (fun (r_2 : Int32) σ_3 =>
  (((¬ r_2 = 0) → st_tg σ_3 h0 = some 1 ∧ (∃ a_6 : Nat, (st_R σ_3 50 h0) = some a_6 ∧ st_tg σ_3 a_6 = some 303 ∧ (vp_in r_2 (st_ln σ_3 a_6) ∧ ((((((st_eI σ_3 a_6 (Int32.toNatClampNeg r_2))) = 0) → K ((-1)) σ_3) ∧
  ((¬ ((st_eI σ_3 a_6 (Int32.toNatClampNeg r_2))) = 0) → ∃ a_11 : Nat, (st_R σ_3 49 h0) = some a_11 ∧ st_tg σ_3 a_11 = some 302 ∧ (vp_in r_2 (st_ln σ_3 a_11) ∧ (K ((st_eJ σ_3 a_11 (Int32.toNatClampNeg r_2))) σ_3)))))))) ∧
  ((r_2 = 0) → K ((-101)) σ_3))))
abbrev ROOM_M_since : Room := { frames := 2, cells := 0, slots := 0, locals := 46 }
set_option maxHeartbeats 4000000 in
set_option maxRecDepth 100000 in
theorem mc_M_since (l : Launch) (D : va_G) (A : Nat → Prop) (σ : ST) (h0 : Nat) (p1 : Int64) (K : Int64 → ST → Prop) : Met l y_M_since ws_M_since ROOM_M_since (va_Pc [.ref h0, .long p1] (fun U => mw D A σ U ∧ mn U ∧ wp_M_since σ h0 p1 K)) (va_Ql K (mw D A) A) 0 0 A := by
  refine Met.ofW (cc := c_M_since) (maxL := 4) (ret := (some .long)) (by decide) rfl ?_
  intro p e s m args below meth c s₁ B hml hv
  obtain ⟨rfl, ⟨hH, hK, hA⟩, hn, h⟩ := hv
  have hx := B.exec
  have hb := B.bytes
  have hr := B.returns
  have hts := atoms_spec (ws := ws_M_since) B.pre
  have hown : s.vm.findClass R_M = some m.cls := findClass_of_methodNamed B.named
  have hlocks := B.notSynchronized
  have hts : ∀ w ∈ lw_g, w.before ([.ref h0, .long p1] : List Value).toArray s = true := fun w hw => hts w (List.mem_cons_of_mem _ hw)
  have hS : va_S A s.heap s.heap [] := va_S.rf
  have hl := lv_entry ([.ref h0, .long p1]) (n := 4) (Nat.le_of_ble_eq_true rfl)
  rw [lg_entry_eq]
  generalize (lg_sl ([.ref h0, .long p1]) ++ List.replicate (4 - (lg_sl ([.ref h0, .long p1])).length) Slot.unset).toArray = ls at hl ⊢
  have hl : lv_has ls 4 [(0, va_rf (some h0)), (1, .long p1)] := hl
  unfold wp_M_since at h
  refine mr_aload_n hx hb d_M_since_0 rfl (lv_at hl 0 rfl) ?_
  refine lv_lload_n hx hb d_M_since_1 rfl (lv_at hl 1 rfl) ?_
  obtain ⟨t_1, h⟩ := h
  refine ms_calli (va_runV (As := [.long p1]) (rest := []) ⟨hx, hb, hml, hown, hts⟩ (mc_M_find l D A σ h0 p1 _) ⟨(callB_of 1 hts gw_M_find rfl rfl rfl (hts _ wd_4) (hts _ wd_540) (by decide +kernel) ⟨by decide, by decide⟩), (hts _ wd_542), (hts _ wq_13)⟩ ⟨mw_blind, mg_recv hK.1 hH (ci := 1) rfl (cell_1 t_1), fun U hU hW => ⟨rfl, mw_pass hH hK hA hS hU hW, mn_warm hW hn, h⟩⟩ rfl rfl hl.1 rfl (lv_room (Nat.le_of_ble_eq_true rfl)) d_M_since_2 ⟨by decide, by decide⟩) hS (fun r_2 σ_3 H locs h hH hK hS => ?_)
  refine lv_istore_n (lv' := [(3, .int r_2), (0, va_rf (some h0)), (1, .long p1)]) hx hb d_M_since_5 rfl hl (by decide) rfl (fun ls hl => ?_)
  refine lv_iload_n hx hb d_M_since_6 rfl (lv_at hl 0 rfl) ?_
  refine lv_if_ne (tgt := 16) hx hb d_M_since_7 (by decide) (fun c_4 => ?_) (fun c_4 => ?_)
  · have h := h.1 c_4
    refine mr_aload_n hx hb d_M_since_16 rfl (lv_at hl 1 rfl) ?_
    obtain ⟨t_5, h⟩ := h
    refine ms_get (σ := σ_3) (r := some h0) (a := h0) (fs := fl_1 σ_3 h0) (ci := 1) (C := R_M) (T := T_M) (N := 32) hx hb hts in_1 hown hK hH rfl (cell_1 t_5) rfl 10 (by decide) (hts _ wd_427) (fun _ h9 => h9) (v := va_rf (st_R σ_3 50 h0)) rfl d_M_since_17 ?_
    refine lv_iload_n hx hb d_M_since_20 rfl (lv_at hl 0 rfl) ?_
    obtain ⟨a_6, e_7, t_8, h⟩ := h
    obtain ⟨b_9, h⟩ := h
    refine ms_zald (σ := σ_3) (r := (st_R σ_3 50 h0)) (a := a_6) hx hb hK hH e_7 t_8 rfl (cell_303 t_8) b_9 d_M_since_21 ?_
    refine lv_if_eq (tgt := 34) hx hb d_M_since_22 (by decide) (fun c_10 => ?_) (fun c_10 => ?_)
    · have h := h.1 c_10
      refine lv_ldc2 (v := (-1)) hx hb hown (hts _ wd_416) d_M_since_34 ?_
      exact W.lret (v := (-1)) hx hb hr (fun t ht hW => ⟨⟨(-1), σ_3, rfl, h, mw_pass hH hK hA hS ht hW⟩, hS.F ht⟩) hS.2.2 d_M_since_37
    · have h := h.2 c_10
      refine mr_aload_n hx hb d_M_since_25 rfl (lv_at hl 1 rfl) ?_
      refine ms_get (σ := σ_3) (r := some h0) (a := h0) (fs := fl_1 σ_3 h0) (ci := 1) (C := R_M) (T := T_M) (N := 32) hx hb hts in_1 hown hK hH rfl (cell_1 t_5) rfl 9 (by decide) (hts _ wd_426) (fun _ h9 => h9) (v := va_rf (st_R σ_3 49 h0)) rfl d_M_since_26 ?_
      refine lv_iload_n hx hb d_M_since_29 rfl (lv_at hl 0 rfl) ?_
      obtain ⟨a_11, e_12, t_13, h⟩ := h
      obtain ⟨b_14, h⟩ := h
      refine ms_lald (σ := σ_3) (r := (st_R σ_3 49 h0)) (a := a_11) hx hb hK hH e_12 t_13 rfl (cell_302 t_13) b_14 d_M_since_30 ?_
      refine lv_goto (tgt := 37) hx hb d_M_since_31 (by decide) ?_
      exact W.lret (v := (st_eJ σ_3 a_11 (Int32.toNatClampNeg r_2))) hx hb hr (fun t ht hW => ⟨⟨(st_eJ σ_3 a_11 (Int32.toNatClampNeg r_2)), σ_3, rfl, h, mw_pass hH hK hA hS ht hW⟩, hS.F ht⟩) hS.2.2 d_M_since_37
  · have h := h.2 c_4
    refine lv_ldc2 (v := (-101)) hx hb hown (hts _ wd_579) d_M_since_10 ?_
    refine lv_goto (tgt := 37) hx hb d_M_since_13 (by decide) ?_
    exact W.lret (v := (-101)) hx hb hr (fun t ht hW => ⟨⟨(-101), σ_3, rfl, h, mw_pass hH hK hA hS ht hW⟩, hS.F ht⟩) hS.2.2 d_M_since_37
def wb_M_replace_35 (h0 : Nat) (K : Int32 → ST → Prop) (σ : ST) (v3 : Int32) : Prop :=
  st_tg σ h0 = some 1 ∧ ((((¬ ((st_I σ 40 h0)) = (300 : Int32)) → ∃ a_13 : Nat, (st_R σ 41 h0) = some a_13 ∧ st_tg σ a_13 = some 301 ∧ (vp_in v3 (st_ln σ a_13) ∧ (∀ σ_17 : ST, σ_17 = st_uI σ a_13 (Int32.toNatClampNeg v3) 4 → (∃ a_21 : Nat, (st_R σ_17 48 h0) = some a_21 ∧ st_tg σ_17 a_21 = some 301 ∧ (vp_in v3 (st_ln σ_17 a_21) ∧ (∀ σ_25 : ST, σ_25 = st_uI σ_17 a_21 (Int32.toNatClampNeg v3) ((-1)) → (∃ a_30 : Nat, (st_R σ_25 46 h0) = some a_30 ∧ st_tg σ_25 a_30 = some 301 ∧ (vp_in v3 (st_ln σ_25 a_30) ∧ (∃ a_34 : Nat, (st_R σ_25 42 h0) = some a_34 ∧ st_tg σ_25 a_34 = some 302 ∧ (vp_in v3 (st_ln σ_25 a_34) ∧ (∃ a_38 : Nat, (st_R σ_25 43 h0) = some a_38 ∧ st_tg σ_25 a_38 = some 302 ∧ (vp_in v3 (st_ln σ_25 a_38) ∧ (∃ a_42 : Nat, (st_R σ_25 44 h0) = some a_42 ∧ st_tg σ_25 a_42 = some 301 ∧ (vp_in v3 (st_ln σ_25 a_42) ∧ (∃ a_46 : Nat, (st_R σ_25 45 h0) = some a_46 ∧ st_tg σ_25 a_46 = some 301 ∧ (vp_in v3 (st_ln σ_25 a_46) ∧ (wp_M_add σ_25 h0 ((st_eI σ_25 a_30 (Int32.toNatClampNeg v3))) ((st_eJ σ_25 a_34 (Int32.toNatClampNeg v3))) ((st_eJ σ_25 a_38 (Int32.toNatClampNeg v3))) ((st_eI σ_25 a_42 (Int32.toNatClampNeg v3))) ((st_eI σ_25 a_46 (Int32.toNatClampNeg v3))) (fun (r_50 : Int32) σ_51 =>
  K r_50 σ_51)))))))))))))))))) ∧
  ((((st_I σ 40 h0)) = (300 : Int32)) → K ((-104)) σ)))
def wp_M_replace (σ : ST) (h0 : Nat) (p1 : Int64) (K : Int32 → ST → Prop) : Prop :=
  st_tg σ h0 = some 1 ∧ (wp_M_find σ h0 p1 (fun (r_2 : Int32) σ_3 =>
  (((¬ r_2 = 0) → st_tg σ_3 h0 = some 1 ∧ (∃ a_6 : Nat, (st_R σ_3 41 h0) = some a_6 ∧ st_tg σ_3 a_6 = some 301 ∧ (vp_in r_2 (st_ln σ_3 a_6) ∧ ((((((st_eI σ_3 a_6 (Int32.toNatClampNeg r_2))) = 0) → wb_M_replace_35 h0 K σ_3 r_2) ∧
  ((¬ ((st_eI σ_3 a_6 (Int32.toNatClampNeg r_2))) = 0) → vp_in r_2 (st_ln σ_3 a_6) ∧ ((((((st_eI σ_3 a_6 (Int32.toNatClampNeg r_2))) = (2 : Int32)) → wb_M_replace_35 h0 K σ_3 r_2) ∧
  ((¬ ((st_eI σ_3 a_6 (Int32.toNatClampNeg r_2))) = (2 : Int32)) → K ((-103)) σ_3))))))))) ∧
  ((r_2 = 0) → K ((-101)) σ_3))))
abbrev ROOM_M_replace : Room := { frames := 2, cells := 0, slots := 0, locals := 50 }
set_option maxHeartbeats 4000000 in
set_option maxRecDepth 100000 in
theorem mc_M_replace (l : Launch) (D : va_G) (A : Nat → Prop) (σ : ST) (h0 : Nat) (p1 : Int64) (K : Int32 → ST → Prop) : Met l y_M_replace ws_M_replace ROOM_M_replace (va_Pc [.ref h0, .long p1] (fun U => mw D A σ U ∧ mn U ∧ wp_M_replace σ h0 p1 K)) (va_Qi K (mw D A) A) 0 0 A := by
  refine Met.ofW (cc := c_M_replace) (maxL := 4) (ret := (some .int)) (by decide) rfl ?_
  intro p e s m args below meth c s₁ B hml hv
  obtain ⟨rfl, ⟨hH, hK, hA⟩, hn, h⟩ := hv
  have hx := B.exec
  have hb := B.bytes
  have hr := B.returns
  have hts := atoms_spec (ws := ws_M_replace) B.pre
  have hown : s.vm.findClass R_M = some m.cls := findClass_of_methodNamed B.named
  have hlocks := B.notSynchronized
  have hts : ∀ w ∈ lw_g, w.before ([.ref h0, .long p1] : List Value).toArray s = true := fun w hw => hts w (List.mem_cons_of_mem _ hw)
  have b_35 : ∀ (σ : ST) (v3 : Int32) (H : Heap) (locs : List Loc) (ls : Array Slot), mg_H D vwCl A (st_cell σ) H → mk_K D σ s → va_S A s.heap H locs → lv_has ls 4 [(0, va_rf (some h0)), (3, .int v3)] → wb_M_replace_35 h0 K σ v3 → W p l e (headSpec ws_M_replace ROOM_M_replace).room s m ([.ref h0, .long p1] : List Value).toArray below meth c H locs 0 0 (MQ below (va_Qi K (mw D A) A) ([.ref h0, .long p1] : List Value).toArray s 0 0 A) (F0 m 35 ls []) := by
    intro σ v3 H locs ls hH hK hS hl h
    unfold wb_M_replace_35 at h
    refine mr_aload_n hx hb d_M_replace_35 rfl (lv_at hl 0 rfl) ?_
    obtain ⟨t_11, h⟩ := h
    refine ms_get (σ := σ) (r := some h0) (a := h0) (fs := fl_1 σ h0) (ci := 1) (C := R_M) (T := T_M) (N := 32) hx hb hts in_1 hown hK hH rfl (cell_1 t_11) rfl 0 (by decide) (hts _ wd_417) (fun _ h9 => h9) (v := .int (st_I σ 40 h0)) rfl d_M_replace_36 ?_
    refine lv_sipush (v := 300) hx hb d_M_replace_39 (by decide) ?_
    refine lv_icmp_ne (tgt := 48) hx hb d_M_replace_42 (by decide) (fun c_12 => ?_) (fun c_12 => ?_)
    · have h := h.1 c_12
      refine mr_aload_n hx hb d_M_replace_48 rfl (lv_at hl 0 rfl) ?_
      refine ms_get (σ := σ) (r := some h0) (a := h0) (fs := fl_1 σ h0) (ci := 1) (C := R_M) (T := T_M) (N := 32) hx hb hts in_1 hown hK hH rfl (cell_1 t_11) rfl 1 (by decide) (hts _ wd_418) (fun _ h9 => h9) (v := va_rf (st_R σ 41 h0)) rfl d_M_replace_49 ?_
      refine lv_iload_n hx hb d_M_replace_52 rfl (lv_at hl 1 rfl) ?_
      refine lv_iconst (v := 4) hx hb d_M_replace_53 (by decide) ?_
      obtain ⟨a_13, e_14, t_15, h⟩ := h
      obtain ⟨b_16, h⟩ := h
      obtain ⟨σ_17, z_18⟩ : ∃ y : ST, y = st_uI σ a_13 (Int32.toNatClampNeg v3) 4 := ⟨_, rfl⟩
      have h := h σ_17 z_18
      refine ms_iast (σ := σ) (r := (st_R σ 41 h0)) (a := a_13) (x := 4) hx hb hK hH hS e_14 t_15 rfl (cell_301 t_15)  b_16 d_M_replace_54 (σ1 := σ_17) (by rw [z_18]; exact uput_301 σ a_13 _ 4 t_15) (by rw [z_18]; rfl) (by rw [z_18]; rfl) (fun H locs hH hK hS => ?_)
      have t_19 : st_tg σ_17 h0 = some 1 := by rw [z_18]; exact t_11
      have t_20 : st_tg σ_17 a_13 = some 301 := by rw [z_18]; exact t_15
      refine mr_aload_n hx hb d_M_replace_55 rfl (lv_at hl 0 rfl) ?_
      refine ms_get (σ := σ_17) (r := some h0) (a := h0) (fs := fl_1 σ_17 h0) (ci := 1) (C := R_M) (T := T_M) (N := 32) hx hb hts in_1 hown hK hH rfl (cell_1 t_19) rfl 8 (by decide) (hts _ wd_425) (fun _ h9 => h9) (v := va_rf (st_R σ_17 48 h0)) rfl d_M_replace_56 ?_
      refine lv_iload_n hx hb d_M_replace_59 rfl (lv_at hl 1 rfl) ?_
      refine lv_iconst (v := (-1)) hx hb d_M_replace_60 (by decide) ?_
      obtain ⟨a_21, e_22, t_23, h⟩ := h
      obtain ⟨b_24, h⟩ := h
      obtain ⟨σ_25, z_26⟩ : ∃ y : ST, y = st_uI σ_17 a_21 (Int32.toNatClampNeg v3) ((-1)) := ⟨_, rfl⟩
      have h := h σ_25 z_26
      refine ms_iast (σ := σ_17) (r := (st_R σ_17 48 h0)) (a := a_21) (x := (-1)) hx hb hK hH hS e_22 t_23 rfl (cell_301 t_23)  b_24 d_M_replace_61 (σ1 := σ_25) (by rw [z_26]; exact uput_301 σ_17 a_21 _ ((-1)) t_23) (by rw [z_26]; rfl) (by rw [z_26]; rfl) (fun H locs hH hK hS => ?_)
      have t_27 : st_tg σ_25 h0 = some 1 := by rw [z_26]; exact t_19
      have t_28 : st_tg σ_25 a_13 = some 301 := by rw [z_26]; exact t_20
      have t_29 : st_tg σ_25 a_21 = some 301 := by rw [z_26]; exact t_23
      refine mr_aload_n hx hb d_M_replace_62 rfl (lv_at hl 0 rfl) ?_
      refine mr_aload_n hx hb d_M_replace_63 rfl (lv_at hl 0 rfl) ?_
      refine ms_get (σ := σ_25) (r := some h0) (a := h0) (fs := fl_1 σ_25 h0) (ci := 1) (C := R_M) (T := T_M) (N := 32) hx hb hts in_1 hown hK hH rfl (cell_1 t_27) rfl 6 (by decide) (hts _ wd_423) (fun _ h9 => h9) (v := va_rf (st_R σ_25 46 h0)) rfl d_M_replace_64 ?_
      refine lv_iload_n hx hb d_M_replace_67 rfl (lv_at hl 1 rfl) ?_
      obtain ⟨a_30, e_31, t_32, h⟩ := h
      obtain ⟨b_33, h⟩ := h
      refine ms_iald (σ := σ_25) (r := (st_R σ_25 46 h0)) (a := a_30) hx hb hK hH e_31 t_32 rfl (cell_301 t_32) b_33 d_M_replace_68 ?_
      refine mr_aload_n hx hb d_M_replace_69 rfl (lv_at hl 0 rfl) ?_
      refine ms_get (σ := σ_25) (r := some h0) (a := h0) (fs := fl_1 σ_25 h0) (ci := 1) (C := R_M) (T := T_M) (N := 32) hx hb hts in_1 hown hK hH rfl (cell_1 t_27) rfl 2 (by decide) (hts _ wd_419) (fun _ h9 => h9) (v := va_rf (st_R σ_25 42 h0)) rfl d_M_replace_70 ?_
      refine lv_iload_n hx hb d_M_replace_73 rfl (lv_at hl 1 rfl) ?_
      obtain ⟨a_34, e_35, t_36, h⟩ := h
      obtain ⟨b_37, h⟩ := h
      refine ms_lald (σ := σ_25) (r := (st_R σ_25 42 h0)) (a := a_34) hx hb hK hH e_35 t_36 rfl (cell_302 t_36) b_37 d_M_replace_74 ?_
      refine mr_aload_n hx hb d_M_replace_75 rfl (lv_at hl 0 rfl) ?_
      refine ms_get (σ := σ_25) (r := some h0) (a := h0) (fs := fl_1 σ_25 h0) (ci := 1) (C := R_M) (T := T_M) (N := 32) hx hb hts in_1 hown hK hH rfl (cell_1 t_27) rfl 3 (by decide) (hts _ wd_420) (fun _ h9 => h9) (v := va_rf (st_R σ_25 43 h0)) rfl d_M_replace_76 ?_
      refine lv_iload_n hx hb d_M_replace_79 rfl (lv_at hl 1 rfl) ?_
      obtain ⟨a_38, e_39, t_40, h⟩ := h
      obtain ⟨b_41, h⟩ := h
      refine ms_lald (σ := σ_25) (r := (st_R σ_25 43 h0)) (a := a_38) hx hb hK hH e_39 t_40 rfl (cell_302 t_40) b_41 d_M_replace_80 ?_
      refine mr_aload_n hx hb d_M_replace_81 rfl (lv_at hl 0 rfl) ?_
      refine ms_get (σ := σ_25) (r := some h0) (a := h0) (fs := fl_1 σ_25 h0) (ci := 1) (C := R_M) (T := T_M) (N := 32) hx hb hts in_1 hown hK hH rfl (cell_1 t_27) rfl 4 (by decide) (hts _ wd_421) (fun _ h9 => h9) (v := va_rf (st_R σ_25 44 h0)) rfl d_M_replace_82 ?_
      refine lv_iload_n hx hb d_M_replace_85 rfl (lv_at hl 1 rfl) ?_
      obtain ⟨a_42, e_43, t_44, h⟩ := h
      obtain ⟨b_45, h⟩ := h
      refine ms_iald (σ := σ_25) (r := (st_R σ_25 44 h0)) (a := a_42) hx hb hK hH e_43 t_44 rfl (cell_301 t_44) b_45 d_M_replace_86 ?_
      refine mr_aload_n hx hb d_M_replace_87 rfl (lv_at hl 0 rfl) ?_
      refine ms_get (σ := σ_25) (r := some h0) (a := h0) (fs := fl_1 σ_25 h0) (ci := 1) (C := R_M) (T := T_M) (N := 32) hx hb hts in_1 hown hK hH rfl (cell_1 t_27) rfl 5 (by decide) (hts _ wd_422) (fun _ h9 => h9) (v := va_rf (st_R σ_25 45 h0)) rfl d_M_replace_88 ?_
      refine lv_iload_n hx hb d_M_replace_91 rfl (lv_at hl 1 rfl) ?_
      obtain ⟨a_46, e_47, t_48, h⟩ := h
      obtain ⟨b_49, h⟩ := h
      refine ms_iald (σ := σ_25) (r := (st_R σ_25 45 h0)) (a := a_46) hx hb hK hH e_47 t_48 rfl (cell_301 t_48) b_49 d_M_replace_92 ?_
      refine ms_calli (va_runV (As := [.int (st_eI σ_25 a_30 (Int32.toNatClampNeg v3)), .long (st_eJ σ_25 a_34 (Int32.toNatClampNeg v3)), .long (st_eJ σ_25 a_38 (Int32.toNatClampNeg v3)), .int (st_eI σ_25 a_42 (Int32.toNatClampNeg v3)), .int (st_eI σ_25 a_46 (Int32.toNatClampNeg v3))]) (rest := []) ⟨hx, hb, hml, hown, hts⟩ (mc_M_add l D A σ_25 h0 ((st_eI σ_25 a_30 (Int32.toNatClampNeg v3))) ((st_eJ σ_25 a_34 (Int32.toNatClampNeg v3))) ((st_eJ σ_25 a_38 (Int32.toNatClampNeg v3))) ((st_eI σ_25 a_42 (Int32.toNatClampNeg v3))) ((st_eI σ_25 a_46 (Int32.toNatClampNeg v3))) _) ⟨(callB_of 5 hts gw_M_add rfl rfl rfl (hts _ wd_4) (hts _ wd_529) (by decide +kernel) ⟨by decide, by decide⟩), (hts _ wd_531), (hts _ wq_12)⟩ ⟨mw_blind, mg_recv hK.1 hH (ci := 1) rfl (cell_1 t_27), fun U hU hW => ⟨rfl, mw_pass hH hK hA hS hU hW, mn_warm hW hn, h⟩⟩ rfl rfl hl.1 rfl (lv_room (Nat.le_of_ble_eq_true rfl)) d_M_replace_93 ⟨by decide, by decide⟩) hS (fun r_50 σ_51 H locs h hH hK hS => ?_)
      exact W.iret (v := r_50) hx hb hr (fun t ht hW => ⟨⟨r_50, σ_51, rfl, h, mw_pass hH hK hA hS ht hW⟩, hS.F ht⟩) hS.2.2 d_M_replace_96
    · have h := h.2 c_12
      refine lv_bipush (v := (-104)) hx hb d_M_replace_45 (by decide) ?_
      exact W.iret (v := (-104)) hx hb hr (fun t ht hW => ⟨⟨(-104), σ, rfl, h, mw_pass hH hK hA hS ht hW⟩, hS.F ht⟩) hS.2.2 d_M_replace_47
  have hS : va_S A s.heap s.heap [] := va_S.rf
  have hl := lv_entry ([.ref h0, .long p1]) (n := 4) (Nat.le_of_ble_eq_true rfl)
  rw [lg_entry_eq]
  generalize (lg_sl ([.ref h0, .long p1]) ++ List.replicate (4 - (lg_sl ([.ref h0, .long p1])).length) Slot.unset).toArray = ls at hl ⊢
  have hl : lv_has ls 4 [(0, va_rf (some h0)), (1, .long p1)] := hl
  unfold wp_M_replace at h
  refine mr_aload_n hx hb d_M_replace_0 rfl (lv_at hl 0 rfl) ?_
  refine lv_lload_n hx hb d_M_replace_1 rfl (lv_at hl 1 rfl) ?_
  obtain ⟨t_1, h⟩ := h
  refine ms_calli (va_runV (As := [.long p1]) (rest := []) ⟨hx, hb, hml, hown, hts⟩ (mc_M_find l D A σ h0 p1 _) ⟨(callB_of 1 hts gw_M_find rfl rfl rfl (hts _ wd_4) (hts _ wd_540) (by decide +kernel) ⟨by decide, by decide⟩), (hts _ wd_542), (hts _ wq_13)⟩ ⟨mw_blind, mg_recv hK.1 hH (ci := 1) rfl (cell_1 t_1), fun U hU hW => ⟨rfl, mw_pass hH hK hA hS hU hW, mn_warm hW hn, h⟩⟩ rfl rfl hl.1 rfl (lv_room (Nat.le_of_ble_eq_true rfl)) d_M_replace_2 ⟨by decide, by decide⟩) hS (fun r_2 σ_3 H locs h hH hK hS => ?_)
  refine lv_istore_n (lv' := [(3, .int r_2), (0, va_rf (some h0)), (1, .long p1)]) hx hb d_M_replace_5 rfl hl (by decide) rfl (fun ls hl => ?_)
  refine lv_iload_n hx hb d_M_replace_6 rfl (lv_at hl 0 rfl) ?_
  refine lv_if_ne (tgt := 13) hx hb d_M_replace_7 (by decide) (fun c_4 => ?_) (fun c_4 => ?_)
  · have h := h.1 c_4
    refine mr_aload_n hx hb d_M_replace_13 rfl (lv_at hl 1 rfl) ?_
    obtain ⟨t_5, h⟩ := h
    refine ms_get (σ := σ_3) (r := some h0) (a := h0) (fs := fl_1 σ_3 h0) (ci := 1) (C := R_M) (T := T_M) (N := 32) hx hb hts in_1 hown hK hH rfl (cell_1 t_5) rfl 1 (by decide) (hts _ wd_418) (fun _ h9 => h9) (v := va_rf (st_R σ_3 41 h0)) rfl d_M_replace_14 ?_
    refine lv_iload_n hx hb d_M_replace_17 rfl (lv_at hl 0 rfl) ?_
    obtain ⟨a_6, e_7, t_8, h⟩ := h
    obtain ⟨b_9, h⟩ := h
    refine ms_iald (σ := σ_3) (r := (st_R σ_3 41 h0)) (a := a_6) hx hb hK hH e_7 t_8 rfl (cell_301 t_8) b_9 d_M_replace_18 ?_
    refine lv_if_eq (tgt := 35) hx hb d_M_replace_19 (by decide) (fun c_10 => ?_) (fun c_10 => ?_)
    · have h := h.1 c_10
      exact b_35 _ _ _ _ _ hH hK hS (lv_sub hl [1, 0] rfl) h
    · have h := h.2 c_10
      refine mr_aload_n hx hb d_M_replace_22 rfl (lv_at hl 1 rfl) ?_
      refine ms_get (σ := σ_3) (r := some h0) (a := h0) (fs := fl_1 σ_3 h0) (ci := 1) (C := R_M) (T := T_M) (N := 32) hx hb hts in_1 hown hK hH rfl (cell_1 t_5) rfl 1 (by decide) (hts _ wd_418) (fun _ h9 => h9) (v := va_rf (st_R σ_3 41 h0)) rfl d_M_replace_23 ?_
      refine lv_iload_n hx hb d_M_replace_26 rfl (lv_at hl 0 rfl) ?_
      obtain ⟨b_52, h⟩ := h
      refine ms_iald (σ := σ_3) (r := (st_R σ_3 41 h0)) (a := a_6) hx hb hK hH e_7 t_8 rfl (cell_301 t_8) b_52 d_M_replace_27 ?_
      refine lv_iconst (v := 2) hx hb d_M_replace_28 (by decide) ?_
      refine lv_icmp_eq (tgt := 35) hx hb d_M_replace_29 (by decide) (fun c_53 => ?_) (fun c_53 => ?_)
      · have h := h.1 c_53
        exact b_35 _ _ _ _ _ hH hK hS (lv_sub hl [1, 0] rfl) h
      · have h := h.2 c_53
        refine lv_bipush (v := (-103)) hx hb d_M_replace_32 (by decide) ?_
        exact W.iret (v := (-103)) hx hb hr (fun t ht hW => ⟨⟨(-103), σ_3, rfl, h, mw_pass hH hK hA hS ht hW⟩, hS.F ht⟩) hS.2.2 d_M_replace_34
  · have h := h.2 c_4
    refine lv_bipush (v := (-101)) hx hb d_M_replace_10 (by decide) ?_
    exact W.iret (v := (-101)) hx hb hr (fun t ht hW => ⟨⟨(-101), σ_3, rfl, h, mw_pass hH hK hA hS ht hW⟩, hS.F ht⟩) hS.2.2 d_M_replace_12
