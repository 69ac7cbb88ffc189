def wp_X_writePaid (σ : ST) (h0 : Nat) (p1 : Option Nat) (p2 : Option Nat) (p3 : Int64) (K : ST → Prop) : Prop :=
  ∃ a_1 : Nat, p2 = some a_1 ∧ st_tg σ a_1 = some 5 ∧ (wp_Order_become σ a_1 1 (fun σ_5 =>
  st_tg σ_5 a_1 = some 5 ∧ (∀ σ_7 : ST, σ_7 = st_sR σ_5 209 a_1 p1 → (∃ a_10 : Nat, p1 = some a_10 ∧ st_tg σ_7 a_10 = some 4 ∧ (wp_Office_know σ_7 a_10 p2 p3 (fun σ_14 =>
  st_tg σ_14 h0 = some 0 ∧ (∃ a_16 : Nat, (st_R σ_14 9 h0) = some a_16 ∧ st_tg σ_14 a_16 = some 302 ∧ (vp_in 1 (st_ln σ_14 a_16) ∧ (st_tg σ_14 a_1 = some 5 ∧ (wp_Order_sum σ_14 a_1 (fun (r_21 : Int64) σ_22 =>
  st_tg σ_22 a_16 = some 302 ∧ (vp_in 1 (st_ln σ_22 a_16) ∧ (∀ σ_25 : ST, σ_25 = st_uJ σ_22 a_16 (Int32.toNatClampNeg 1) ((((st_eJ σ_14 a_16 (Int32.toNatClampNeg 1))) + r_21)) → (st_tg σ_25 a_1 = some 5 ∧ (st_tg σ_25 a_10 = some 4 ∧ (wp_Office_knownWith σ_25 a_10 ((st_I σ_25 205 a_1)) (fun (r_30 : Int32) σ_31 =>
  (((r_30 < (3 : Int32)) → K σ_31) ∧
  ((¬ r_30 < (3 : Int32)) → st_tg σ_31 h0 = some 0 ∧ (∃ a_34 : Nat, (st_R σ_31 9 h0) = some a_34 ∧ st_tg σ_31 a_34 = some 302 ∧ (vp_in 7 (st_ln σ_31 a_34) ∧ (vp_in 7 (st_ln σ_31 a_34) ∧ (∀ σ_39 : ST, σ_39 = st_uJ σ_31 a_34 (Int32.toNatClampNeg 7) ((((st_eJ σ_31 a_34 (Int32.toNatClampNeg 7))) + 1)) → (K σ_39))))))))))))))))))))))))
abbrev ROOM_X_writePaid : Room := { frames := 2, cells := 0, slots := 0, locals := 43 }
set_option maxHeartbeats 4000000 in
set_option maxRecDepth 100000 in
theorem mc_X_writePaid (l : Launch) (D : va_G) (A : Nat → Prop) (σ : ST) (h0 : Nat) (p1 : Option Nat) (p2 : Option Nat) (p3 : Int64) (K : ST → Prop) : Met l y_X_writePaid ws_X_writePaid ROOM_X_writePaid (va_Pc [.ref h0, va_rf p1, va_rf p2, .long p3] (fun U => mw D A σ U ∧ mn U ∧ wp_X_writePaid σ h0 p1 p2 p3 K)) (va_Qv K (mw D A) A) 0 0 A := by
  refine Met.ofW (cc := c_X_writePaid) (maxL := 5) (ret := none) (by decide) rfl ?_
  intro p e s m args below meth c s₁ B hml hv
  obtain ⟨rfl, ⟨hH, hK, hA⟩, hn, h⟩ := hv
  have hx := B.exec
  have hb := B.bytes
  have hr := B.returns
  have hts := atoms_spec (ws := ws_X_writePaid) B.pre
  have hown : s.vm.findClass R_X = some m.cls := findClass_of_methodNamed B.named
  have hlocks := B.notSynchronized
  have hts : ∀ w ∈ lw_g, w.before ([.ref h0, va_rf p1, va_rf p2, .long p3] : List Value).toArray s = true := fun w hw => hts w (List.mem_cons_of_mem _ hw)
  have hS : va_S A s.heap s.heap [] := va_S.rf
  have hl := lv_entry ([.ref h0, va_rf p1, va_rf p2, .long p3]) (n := 5) (by simp [lg_sl, cat_rf, cat_i, cat_l, cat_r])
  rw [lg_entry_eq]
  generalize (lg_sl ([.ref h0, va_rf p1, va_rf p2, .long p3]) ++ List.replicate (5 - (lg_sl ([.ref h0, va_rf p1, va_rf p2, .long p3])).length) Slot.unset).toArray = ls at hl ⊢
  have hle : lv_args 0 [.ref h0, va_rf p1, va_rf p2, .long p3] = [(0, .ref h0), (1, va_rf p1), (2, va_rf p2), (3, .long p3)] := by simp [lv_args, cat_rf, cat_i, cat_l, cat_r]
  rw [hle] at hl
  have hl : lv_has ls 5 [(0, va_rf (some h0)), (1, va_rf p1), (2, va_rf p2), (3, .long p3)] := hl
  unfold wp_X_writePaid at h
  refine mr_aload_n hx hb d_X_writePaid_0 rfl (lv_at hl 2 rfl) ?_
  refine lv_iconst (v := 1) hx hb d_X_writePaid_1 (by decide) ?_
  obtain ⟨a_1, e_2, t_3, h⟩ := h
  refine ms_callv (va_runV (As := [.int 1]) (rest := []) ⟨hx, hb, hml, hown, hts⟩ (mc_Order_become l D A σ a_1 1 _) ⟨(callB_of 1 hts gw_Order_become rfl rfl rfl (hts _ wd_5) (hts _ wd_227) (by decide +kernel) ⟨by decide, by decide⟩), (hts _ wd_228), (hts _ wd_229)⟩ ⟨mw_blind, mg_recv hK.1 hH (ci := 5) rfl (cell_5 t_3), fun U hU hW => ⟨rfl, mw_pass hH hK hA hS hU hW, mn_warm hW hn, h⟩⟩ rfl rfl hl.1 (by rw [e_2]; rfl) (lv_room (Nat.le_of_ble_eq_true rfl)) d_X_writePaid_2 ⟨by decide, by decide⟩) hS (fun σ_5 H locs h hH hK hS => ?_)
  refine mr_aload_n hx hb d_X_writePaid_5 rfl (lv_at hl 2 rfl) ?_
  refine mr_aload_n hx hb d_X_writePaid_6 rfl (lv_at hl 1 rfl) ?_
  obtain ⟨t_6, h⟩ := h
  obtain ⟨σ_7, z_8⟩ : ∃ y : ST, y = st_sR σ_5 209 a_1 p1 := ⟨_, rfl⟩
  have h := h σ_7 z_8
  refine ms_putN (σ := σ_5) (r := p2) (a := a_1) (fs := fl_5 σ_5 a_1) (ci := 5) (C := R_Order) (T := T_Order) (N := 11) (v := va_rf p1) (ty := (.object "OrderMoney$Office")) hx hb hts in_5 ty_Order ty_Order_ok nm_Order hown hK hH hS e_2 (cell_5 t_6) rfl 9 (by decide) (va_Nw.use rfl (hn _ wd_159 rfl)) (fun _ h9 => h9) rfl (by decide +kernel) (nar_rf _ _) (fit_rf _ _) (Nat.le_of_ble_eq_true rfl) d_X_writePaid_7 (σ1 := σ_7) (by rw [z_8]; exact put_5_9 σ_5 a_1 p1 t_6) (by rw [z_8]; rfl) (by rw [z_8]; rfl) (fun H locs hH hK hS => ?_)
  have t_9 : st_tg σ_7 a_1 = some 5 := by rw [z_8]; exact t_6
  refine mr_aload_n hx hb d_X_writePaid_10 rfl (lv_at hl 1 rfl) ?_
  refine mr_aload_n hx hb d_X_writePaid_11 rfl (lv_at hl 2 rfl) ?_
  refine lv_lload_n hx hb d_X_writePaid_12 rfl (lv_at hl 3 rfl) ?_
  obtain ⟨a_10, e_11, t_12, h⟩ := h
  refine ms_callv (va_runV (As := [va_rf p2, .long p3]) (rest := []) ⟨hx, hb, hml, hown, hts⟩ (mc_Office_know l D A σ_7 a_10 p2 p3 _) ⟨(callB_of 2 hts gw_Office_know rfl rfl rfl (hts _ wd_2) (hts _ wd_235) (by decide +kernel) ⟨by decide, by decide⟩), (hts _ wd_236), (hts _ wd_237)⟩ ⟨mw_blind, mg_recv hK.1 hH (ci := 4) rfl (cell_4 t_12), fun U hU hW => ⟨rfl, mw_pass hH hK hA hS hU hW, mn_warm hW hn, h⟩⟩ rfl rfl hl.1 (by rw [e_11]; rfl) (lv_room (Nat.le_of_ble_eq_true rfl)) d_X_writePaid_13 ⟨by decide, by decide⟩) hS (fun σ_14 H locs h hH hK hS => ?_)
  refine mr_aload_n hx hb d_X_writePaid_16 rfl (lv_at hl 0 rfl) ?_
  obtain ⟨t_15, h⟩ := h
  refine ms_get (σ := σ_14) (r := some h0) (a := h0) (fs := fl_0 σ_14 h0) (ci := 0) (C := R_X) (T := T_X) (N := 10) hx hb hts in_0 hown hK hH rfl (cell_0 t_15) rfl 9 (by decide) (hts _ wd_88) (fun _ h9 => h9) (v := va_rf (st_R σ_14 9 h0)) rfl d_X_writePaid_17 ?_
  refine lv_iconst (v := 1) hx hb d_X_writePaid_20 (by decide) ?_
  refine lv_dup2_11 hx hb d_X_writePaid_21 rfl (cat_rf _) ?_
  obtain ⟨a_16, e_17, t_18, h⟩ := h
  obtain ⟨b_19, h⟩ := h
  refine ms_lald (σ := σ_14) (r := (st_R σ_14 9 h0)) (a := a_16) hx hb hK hH e_17 t_18 rfl (cell_302 t_18) b_19 d_X_writePaid_22 ?_
  refine mr_aload_n hx hb d_X_writePaid_23 rfl (lv_at hl 2 rfl) ?_
  obtain ⟨t_20, h⟩ := h
  refine ms_calll (va_runV (As := []) (rest := [.long (st_eJ σ_14 a_16 (Int32.toNatClampNeg 1)), .int 1, va_rf (st_R σ_14 9 h0)]) ⟨hx, hb, hml, hown, hts⟩ (mc_Order_sum l D A σ_14 a_1 _) ⟨(callB_of 0 hts gw_Order_sum rfl rfl rfl (hts _ wd_5) (hts _ wd_210) (by decide +kernel) ⟨by decide, by decide⟩), (hts _ wd_211), (hts _ wd_212)⟩ ⟨mw_blind, mg_recv hK.1 hH (ci := 5) rfl (cell_5 t_20), fun U hU hW => ⟨rfl, mw_pass hH hK hA hS hU hW, mn_warm hW hn, h⟩⟩ rfl rfl hl.1 (by rw [e_2]; rfl) (lv_room (by simp [cat_rf, cat_i, cat_l, cat_r])) d_X_writePaid_24 ⟨by decide, by decide⟩) hS (fun r_21 σ_22 H locs h hH hK hS => ?_)
  refine lv_ladd hx hb d_X_writePaid_27 ?_
  obtain ⟨t_23, h⟩ := h
  obtain ⟨b_24, h⟩ := h
  obtain ⟨σ_25, z_26⟩ : ∃ y : ST, y = st_uJ σ_22 a_16 (Int32.toNatClampNeg 1) ((((st_eJ σ_14 a_16 (Int32.toNatClampNeg 1))) + r_21)) := ⟨_, rfl⟩
  have h := h σ_25 z_26
  refine ms_last (σ := σ_22) (r := (st_R σ_14 9 h0)) (a := a_16) (x := (((st_eJ σ_14 a_16 (Int32.toNatClampNeg 1))) + r_21)) hx hb hK hH hS e_17 t_23 rfl (cell_302 t_23)  b_24 d_X_writePaid_28 (σ1 := σ_25) (by rw [z_26]; exact uput_302 σ_22 a_16 _ ((((st_eJ σ_14 a_16 (Int32.toNatClampNeg 1))) + r_21)) t_23) (by rw [z_26]; rfl) (by rw [z_26]; rfl) (fun H locs hH hK hS => ?_)
  have t_27 : st_tg σ_25 a_16 = some 302 := by rw [z_26]; exact t_23
  refine mr_aload_n hx hb d_X_writePaid_29 rfl (lv_at hl 1 rfl) ?_
  refine mr_aload_n hx hb d_X_writePaid_30 rfl (lv_at hl 2 rfl) ?_
  obtain ⟨t_28, h⟩ := h
  refine ms_getN (σ := σ_25) (r := p2) (a := a_1) (fs := fl_5 σ_25 a_1) (ci := 5) (C := R_Order) (T := T_Order) (N := 11) hx hb hts in_5 hown hK hH e_2 (cell_5 t_28) rfl 5 (by decide) (va_Nw.use rfl (hn _ wd_151 rfl)) (fun _ h9 => h9) (v := .int (st_I σ_25 205 a_1)) rfl d_X_writePaid_31 ?_
  obtain ⟨t_29, h⟩ := h
  refine ms_calli (va_runV (As := [.int (st_I σ_25 205 a_1)]) (rest := []) ⟨hx, hb, hml, hown, hts⟩ (mc_Office_knownWith l D A σ_25 a_10 ((st_I σ_25 205 a_1)) _) ⟨(callB_of 1 hts gw_Office_knownWith rfl rfl rfl (hts _ wd_2) (hts _ wd_240) (by decide +kernel) ⟨by decide, by decide⟩), (hts _ wd_241), (hts _ wd_242)⟩ ⟨mw_blind, mg_recv hK.1 hH (ci := 4) rfl (cell_4 t_29), fun U hU hW => ⟨rfl, mw_pass hH hK hA hS hU hW, mn_warm hW hn, h⟩⟩ rfl rfl hl.1 (by rw [e_11]; rfl) (lv_room (Nat.le_of_ble_eq_true rfl)) d_X_writePaid_34 ⟨by decide, by decide⟩) hS (fun r_30 σ_31 H locs h hH hK hS => ?_)
  refine lv_iconst (v := 3) hx hb d_X_writePaid_37 (by decide) ?_
  refine lv_icmp_lt (tgt := 52) hx hb d_X_writePaid_38 (by decide) (fun c_32 => ?_) (fun c_32 => ?_)
  · have h := h.1 c_32
    exact W.vret hx hb hr (fun t ht hW => ⟨⟨σ_31, rfl, h, mw_pass hH hK hA hS ht hW⟩, hS.F ht⟩) hS.2.2 d_X_writePaid_52
  · have h := h.2 c_32
    refine mr_aload_n hx hb d_X_writePaid_41 rfl (lv_at hl 0 rfl) ?_
    obtain ⟨t_33, h⟩ := h
    refine ms_get (σ := σ_31) (r := some h0) (a := h0) (fs := fl_0 σ_31 h0) (ci := 0) (C := R_X) (T := T_X) (N := 10) hx hb hts in_0 hown hK hH rfl (cell_0 t_33) rfl 9 (by decide) (hts _ wd_88) (fun _ h9 => h9) (v := va_rf (st_R σ_31 9 h0)) rfl d_X_writePaid_42 ?_
    refine lv_bipush (v := 7) hx hb d_X_writePaid_45 (by decide) ?_
    refine lv_dup2_11 hx hb d_X_writePaid_47 rfl (cat_rf _) ?_
    obtain ⟨a_34, e_35, t_36, h⟩ := h
    obtain ⟨b_37, h⟩ := h
    refine ms_lald (σ := σ_31) (r := (st_R σ_31 9 h0)) (a := a_34) hx hb hK hH e_35 t_36 rfl (cell_302 t_36) b_37 d_X_writePaid_48 ?_
    refine lv_lconst (v := 1) hx hb d_X_writePaid_49 rfl ?_
    refine lv_ladd hx hb d_X_writePaid_50 ?_
    obtain ⟨b_38, h⟩ := h
    obtain ⟨σ_39, z_40⟩ : ∃ y : ST, y = st_uJ σ_31 a_34 (Int32.toNatClampNeg 7) ((((st_eJ σ_31 a_34 (Int32.toNatClampNeg 7))) + 1)) := ⟨_, rfl⟩
    have h := h σ_39 z_40
    refine ms_last (σ := σ_31) (r := (st_R σ_31 9 h0)) (a := a_34) (x := (((st_eJ σ_31 a_34 (Int32.toNatClampNeg 7))) + 1)) hx hb hK hH hS e_35 t_36 rfl (cell_302 t_36)  b_38 d_X_writePaid_51 (σ1 := σ_39) (by rw [z_40]; exact uput_302 σ_31 a_34 _ ((((st_eJ σ_31 a_34 (Int32.toNatClampNeg 7))) + 1)) t_36) (by rw [z_40]; rfl) (by rw [z_40]; rfl) (fun H locs hH hK hS => ?_)
    have t_41 : st_tg σ_39 h0 = some 0 := by rw [z_40]; exact t_33
    have t_42 : st_tg σ_39 a_34 = some 302 := by rw [z_40]; exact t_36
    exact W.vret hx hb hr (fun t ht hW => ⟨⟨σ_39, rfl, h, mw_pass hH hK hA hS ht hW⟩, hS.F ht⟩) hS.2.2 d_X_writePaid_52
def wp_X_takeStep (σ : ST) (h0 : Nat) (p1 : Int32) (p2 : Option Nat) (p3 : Option Nat) (p4 : Int32) (p5 : Int64) (K : Int32 → ST → Prop) : Prop :=
  (((p1 = 1) → st_tg σ h0 = some 0 ∧ (∃ a_3 : Nat, (st_R σ 9 h0) = some a_3 ∧ st_tg σ a_3 = some 302 ∧ (vp_in 8 (st_ln σ a_3) ∧ (vp_in 8 (st_ln σ a_3) ∧ (∀ σ_8 : ST, σ_8 = st_uJ σ a_3 (Int32.toNatClampNeg 8) ((((st_eJ σ a_3 (Int32.toNatClampNeg 8))) + 1)) → (K 1 σ_8)))))) ∧
  ((¬ p1 = 1) → ((p1 = 2) → ∃ a_13 : Nat, p3 = some a_13 ∧ st_tg σ a_13 = some 5 ∧ ((((¬ p4 = ((st_I σ 205 a_13))) → K ((-105)) σ) ∧
  ((p4 = ((st_I σ 205 a_13))) → K 1 σ)))) ∧
  ((¬ p1 = 2) → ((p1 = 3) → ∃ a_18 : Nat, p3 = some a_18 ∧ st_tg σ a_18 = some 5 ∧ (wp_Order_sum σ a_18 (fun (r_21 : Int64) σ_22 =>
  ∃ a_23 : Nat, p2 = some a_23 ∧ st_tg σ_22 a_23 = some 4 ∧ (wp_Office_keepsLimit σ_22 a_23 r_21 p5 (fun (r_26 : Int32) σ_27 =>
  (((r_26 = 0) → K ((-106)) σ_27) ∧
  ((¬ r_26 = 0) → K 1 σ_27))))))) ∧
  ((¬ p1 = 3) → ((p1 = 4) → ∃ a_30 : Nat, p3 = some a_30 ∧ st_tg σ a_30 = some 5 ∧ (wp_Order_sum σ a_30 (fun (r_33 : Int64) σ_34 =>
  ∃ a_35 : Nat, p2 = some a_35 ∧ st_tg σ_34 a_35 = some 4 ∧ (wp_Office_giveOut σ_34 a_35 r_33 (fun (r_38 : Int32) σ_39 =>
  (((r_38 = 0) → K ((-107)) σ_39) ∧
  ((¬ r_38 = 0) → K 1 σ_39))))))) ∧
  ((¬ p1 = 4) → st_tg σ h0 = some 0 ∧ (wp_X_writePaid σ h0 p2 p3 p5 (fun σ_43 =>
  K 1 σ_43)))))))
abbrev ROOM_X_takeStep : Room := { frames := 3, cells := 0, slots := 0, locals := 67 }
set_option maxHeartbeats 4000000 in
set_option maxRecDepth 100000 in
theorem mc_X_takeStep (l : Launch) (D : va_G) (A : Nat → Prop) (σ : ST) (h0 : Nat) (p1 : Int32) (p2 : Option Nat) (p3 : Option Nat) (p4 : Int32) (p5 : Int64) (K : Int32 → ST → Prop) : Met l y_X_takeStep ws_X_takeStep ROOM_X_takeStep (va_Pc [.ref h0, .int p1, va_rf p2, va_rf p3, .int p4, .long p5] (fun U => mw D A σ U ∧ mn U ∧ wp_X_takeStep σ h0 p1 p2 p3 p4 p5 K)) (va_Qi K (mw D A) A) 0 0 A := by
  refine Met.ofW (cc := c_X_takeStep) (maxL := 7) (ret := (some .int)) (by decide) rfl ?_
  intro p e s m args below meth c s₁ B hml hv
  obtain ⟨rfl, ⟨hH, hK, hA⟩, hn, h⟩ := hv
  have hx := B.exec
  have hb := B.bytes
  have hr := B.returns
  have hts := atoms_spec (ws := ws_X_takeStep) B.pre
  have hown : s.vm.findClass R_X = some m.cls := findClass_of_methodNamed B.named
  have hlocks := B.notSynchronized
  have hts : ∀ w ∈ lw_g, w.before ([.ref h0, .int p1, va_rf p2, va_rf p3, .int p4, .long p5] : List Value).toArray s = true := fun w hw => hts w (List.mem_cons_of_mem _ hw)
  have hS : va_S A s.heap s.heap [] := va_S.rf
  have hl := lv_entry ([.ref h0, .int p1, va_rf p2, va_rf p3, .int p4, .long p5]) (n := 7) (by simp [lg_sl, cat_rf, cat_i, cat_l, cat_r])
  rw [lg_entry_eq]
  generalize (lg_sl ([.ref h0, .int p1, va_rf p2, va_rf p3, .int p4, .long p5]) ++ List.replicate (7 - (lg_sl ([.ref h0, .int p1, va_rf p2, va_rf p3, .int p4, .long p5])).length) Slot.unset).toArray = ls at hl ⊢
  have hle : lv_args 0 [.ref h0, .int p1, va_rf p2, va_rf p3, .int p4, .long p5] = [(0, .ref h0), (1, .int p1), (2, va_rf p2), (3, va_rf p3), (4, .int p4), (5, .long p5)] := by simp [lv_args, cat_rf, cat_i, cat_l, cat_r]
  rw [hle] at hl
  have hl : lv_has ls 7 [(0, va_rf (some h0)), (1, .int p1), (2, va_rf p2), (3, va_rf p3), (4, .int p4), (5, .long p5)] := hl
  unfold wp_X_takeStep at h
  refine lv_iload_n hx hb d_X_takeStep_0 rfl (lv_at hl 1 rfl) ?_
  by_cases c_1 : p1 = 1
  · have h := h.1 c_1
    refine lv_tableIn (off := 31) (tgt := 32) hx hb d_X_takeStep_1 (by rw [c_1]; decide) (by rw [c_1]; decide) (by rw [c_1]; decide) (by decide) ?_
    refine mr_aload_n hx hb d_X_takeStep_32 rfl (lv_at hl 0 rfl) ?_
    obtain ⟨t_2, h⟩ := h
    refine ms_get (σ := σ) (r := some h0) (a := h0) (fs := fl_0 σ h0) (ci := 0) (C := R_X) (T := T_X) (N := 10) hx hb hts in_0 hown hK hH rfl (cell_0 t_2) rfl 9 (by decide) (hts _ wd_88) (fun _ h9 => h9) (v := va_rf (st_R σ 9 h0)) rfl d_X_takeStep_33 ?_
    refine lv_bipush (v := 8) hx hb d_X_takeStep_36 (by decide) ?_
    refine lv_dup2_11 hx hb d_X_takeStep_38 rfl (cat_rf _) ?_
    obtain ⟨a_3, e_4, t_5, h⟩ := h
    obtain ⟨b_6, h⟩ := h
    refine ms_lald (σ := σ) (r := (st_R σ 9 h0)) (a := a_3) hx hb hK hH e_4 t_5 rfl (cell_302 t_5) b_6 d_X_takeStep_39 ?_
    refine lv_lconst (v := 1) hx hb d_X_takeStep_40 rfl ?_
    refine lv_ladd hx hb d_X_takeStep_41 ?_
    obtain ⟨b_7, h⟩ := h
    obtain ⟨σ_8, z_9⟩ : ∃ y : ST, y = st_uJ σ a_3 (Int32.toNatClampNeg 8) ((((st_eJ σ a_3 (Int32.toNatClampNeg 8))) + 1)) := ⟨_, rfl⟩
    have h := h σ_8 z_9
    refine ms_last (σ := σ) (r := (st_R σ 9 h0)) (a := a_3) (x := (((st_eJ σ a_3 (Int32.toNatClampNeg 8))) + 1)) hx hb hK hH hS e_4 t_5 rfl (cell_302 t_5)  b_7 d_X_takeStep_42 (σ1 := σ_8) (by rw [z_9]; exact uput_302 σ a_3 _ ((((st_eJ σ a_3 (Int32.toNatClampNeg 8))) + 1)) t_5) (by rw [z_9]; rfl) (by rw [z_9]; rfl) (fun H locs hH hK hS => ?_)
    have t_10 : st_tg σ_8 h0 = some 0 := by rw [z_9]; exact t_2
    have t_11 : st_tg σ_8 a_3 = some 302 := by rw [z_9]; exact t_5
    refine lv_iconst (v := 1) hx hb d_X_takeStep_43 (by decide) ?_
    exact W.iret (v := 1) hx hb hr (fun t ht hW => ⟨⟨1, σ_8, rfl, h, mw_pass hH hK hA hS ht hW⟩, hS.F ht⟩) hS.2.2 d_X_takeStep_44
  · have h := h.2 c_1
    by_cases c_12 : p1 = 2
    · have h := h.1 c_12
      refine lv_tableIn (off := 44) (tgt := 45) hx hb d_X_takeStep_1 (by rw [c_12]; decide) (by rw [c_12]; decide) (by rw [c_12]; decide) (by decide) ?_
      refine lv_iload hx hb d_X_takeStep_45 (lv_at hl 4 rfl) ?_
      refine mr_aload_n hx hb d_X_takeStep_47 rfl (lv_at hl 3 rfl) ?_
      obtain ⟨a_13, e_14, t_15, h⟩ := h
      refine ms_getN (σ := σ) (r := p3) (a := a_13) (fs := fl_5 σ a_13) (ci := 5) (C := R_Order) (T := T_Order) (N := 11) hx hb hts in_5 hown hK hH e_14 (cell_5 t_15) rfl 5 (by decide) (va_Nw.use rfl (hn _ wd_151 rfl)) (fun _ h9 => h9) (v := .int (st_I σ 205 a_13)) rfl d_X_takeStep_48 ?_
      refine lv_icmp_ne (tgt := 58) hx hb d_X_takeStep_51 (by decide) (fun c_16 => ?_) (fun c_16 => ?_)
      · have h := h.1 c_16
        refine lv_bipush (v := (-105)) hx hb d_X_takeStep_58 (by decide) ?_
        exact W.iret (v := (-105)) hx hb hr (fun t ht hW => ⟨⟨(-105), σ, rfl, h, mw_pass hH hK hA hS ht hW⟩, hS.F ht⟩) hS.2.2 d_X_takeStep_60
      · have h := h.2 c_16
        refine lv_iconst (v := 1) hx hb d_X_takeStep_54 (by decide) ?_
        refine lv_goto (tgt := 60) hx hb d_X_takeStep_55 (by decide) ?_
        exact W.iret (v := 1) hx hb hr (fun t ht hW => ⟨⟨1, σ, rfl, h, mw_pass hH hK hA hS ht hW⟩, hS.F ht⟩) hS.2.2 d_X_takeStep_60
    · have h := h.2 c_12
      by_cases c_17 : p1 = 3
      · have h := h.1 c_17
        refine lv_tableIn (off := 60) (tgt := 61) hx hb d_X_takeStep_1 (by rw [c_17]; decide) (by rw [c_17]; decide) (by rw [c_17]; decide) (by decide) ?_
        refine mr_aload_n hx hb d_X_takeStep_61 rfl (lv_at hl 2 rfl) ?_
        refine mr_aload_n hx hb d_X_takeStep_62 rfl (lv_at hl 3 rfl) ?_
        obtain ⟨a_18, e_19, t_20, h⟩ := h
        refine ms_calll (va_runV (As := []) (rest := [va_rf p2]) ⟨hx, hb, hml, hown, hts⟩ (mc_Order_sum l D A σ a_18 _) ⟨(callB_of 0 hts gw_Order_sum rfl rfl rfl (hts _ wd_5) (hts _ wd_210) (by decide +kernel) ⟨by decide, by decide⟩), (hts _ wd_211), (hts _ wd_212)⟩ ⟨mw_blind, mg_recv hK.1 hH (ci := 5) rfl (cell_5 t_20), fun U hU hW => ⟨rfl, mw_pass hH hK hA hS hU hW, mn_warm hW hn, h⟩⟩ rfl rfl hl.1 (by rw [e_19]; rfl) (lv_room (by simp [cat_rf, cat_i, cat_l, cat_r])) d_X_takeStep_63 ⟨by decide, by decide⟩) hS (fun r_21 σ_22 H locs h hH hK hS => ?_)
        refine lv_lload hx hb d_X_takeStep_66 (lv_at hl 5 rfl) ?_
        obtain ⟨a_23, e_24, t_25, h⟩ := h
        refine ms_calli (va_runV (As := [.long r_21, .long p5]) (rest := []) ⟨hx, hb, hml, hown, hts⟩ (mc_Office_keepsLimit l D A σ_22 a_23 r_21 p5 _) ⟨(callB_of 2 hts gw_Office_keepsLimit rfl rfl rfl (hts _ wd_2) (hts _ wd_215) (by decide +kernel) ⟨by decide, by decide⟩), (hts _ wd_216), (hts _ wd_217)⟩ ⟨mw_blind, mg_recv hK.1 hH (ci := 4) rfl (cell_4 t_25), fun U hU hW => ⟨rfl, mw_pass hH hK hA hS hU hW, mn_warm hW hn, h⟩⟩ rfl rfl hl.1 (by rw [e_24]; rfl) (lv_room (Nat.le_of_ble_eq_true rfl)) d_X_takeStep_68 ⟨by decide, by decide⟩) hS (fun r_26 σ_27 H locs h hH hK hS => ?_)
        refine lv_if_eq (tgt := 78) hx hb d_X_takeStep_71 (by decide) (fun c_28 => ?_) (fun c_28 => ?_)
        · have h := h.1 c_28
          refine lv_bipush (v := (-106)) hx hb d_X_takeStep_78 (by decide) ?_
          exact W.iret (v := (-106)) hx hb hr (fun t ht hW => ⟨⟨(-106), σ_27, rfl, h, mw_pass hH hK hA hS ht hW⟩, hS.F ht⟩) hS.2.2 d_X_takeStep_80
        · have h := h.2 c_28
          refine lv_iconst (v := 1) hx hb d_X_takeStep_74 (by decide) ?_
          refine lv_goto (tgt := 80) hx hb d_X_takeStep_75 (by decide) ?_
          exact W.iret (v := 1) hx hb hr (fun t ht hW => ⟨⟨1, σ_27, rfl, h, mw_pass hH hK hA hS ht hW⟩, hS.F ht⟩) hS.2.2 d_X_takeStep_80
      · have h := h.2 c_17
        by_cases c_29 : p1 = 4
        · have h := h.1 c_29
          refine lv_tableIn (off := 80) (tgt := 81) hx hb d_X_takeStep_1 (by rw [c_29]; decide) (by rw [c_29]; decide) (by rw [c_29]; decide) (by decide) ?_
          refine mr_aload_n hx hb d_X_takeStep_81 rfl (lv_at hl 2 rfl) ?_
          refine mr_aload_n hx hb d_X_takeStep_82 rfl (lv_at hl 3 rfl) ?_
          obtain ⟨a_30, e_31, t_32, h⟩ := h
          refine ms_calll (va_runV (As := []) (rest := [va_rf p2]) ⟨hx, hb, hml, hown, hts⟩ (mc_Order_sum l D A σ a_30 _) ⟨(callB_of 0 hts gw_Order_sum rfl rfl rfl (hts _ wd_5) (hts _ wd_210) (by decide +kernel) ⟨by decide, by decide⟩), (hts _ wd_211), (hts _ wd_212)⟩ ⟨mw_blind, mg_recv hK.1 hH (ci := 5) rfl (cell_5 t_32), fun U hU hW => ⟨rfl, mw_pass hH hK hA hS hU hW, mn_warm hW hn, h⟩⟩ rfl rfl hl.1 (by rw [e_31]; rfl) (lv_room (by simp [cat_rf, cat_i, cat_l, cat_r])) d_X_takeStep_83 ⟨by decide, by decide⟩) hS (fun r_33 σ_34 H locs h hH hK hS => ?_)
          obtain ⟨a_35, e_36, t_37, h⟩ := h
          refine ms_calli (va_runV (As := [.long r_33]) (rest := []) ⟨hx, hb, hml, hown, hts⟩ (mc_Office_giveOut l D A σ_34 a_35 r_33 _) ⟨(callB_of 1 hts gw_Office_giveOut rfl rfl rfl (hts _ wd_2) (hts _ wd_219) (by decide +kernel) ⟨by decide, by decide⟩), (hts _ wd_220), (hts _ wd_221)⟩ ⟨mw_blind, mg_recv hK.1 hH (ci := 4) rfl (cell_4 t_37), fun U hU hW => ⟨rfl, mw_pass hH hK hA hS hU hW, mn_warm hW hn, h⟩⟩ rfl rfl hl.1 (by rw [e_36]; rfl) (lv_room (Nat.le_of_ble_eq_true rfl)) d_X_takeStep_86 ⟨by decide, by decide⟩) hS (fun r_38 σ_39 H locs h hH hK hS => ?_)
          refine lv_if_eq (tgt := 96) hx hb d_X_takeStep_89 (by decide) (fun c_40 => ?_) (fun c_40 => ?_)
          · have h := h.1 c_40
            refine lv_bipush (v := (-107)) hx hb d_X_takeStep_96 (by decide) ?_
            exact W.iret (v := (-107)) hx hb hr (fun t ht hW => ⟨⟨(-107), σ_39, rfl, h, mw_pass hH hK hA hS ht hW⟩, hS.F ht⟩) hS.2.2 d_X_takeStep_98
          · have h := h.2 c_40
            refine lv_iconst (v := 1) hx hb d_X_takeStep_92 (by decide) ?_
            refine lv_goto (tgt := 98) hx hb d_X_takeStep_93 (by decide) ?_
            exact W.iret (v := 1) hx hb hr (fun t ht hW => ⟨⟨1, σ_39, rfl, h, mw_pass hH hK hA hS ht hW⟩, hS.F ht⟩) hS.2.2 d_X_takeStep_98
        · have h := h.2 c_29
          have c_1n := lv_neT (k := 1) (a := 1) c_1 rfl
          have c_12n := lv_neT (k := 2) (a := 2) c_12 rfl
          have c_17n := lv_neT (k := 3) (a := 3) c_17 rfl
          have c_29n := lv_neT (k := 4) (a := 4) c_29 rfl
          refine lv_tableOut (tgt := 99) hx hb d_X_takeStep_1 (by omega) (by decide) ?_
          refine mr_aload_n hx hb d_X_takeStep_99 rfl (lv_at hl 0 rfl) ?_
          refine mr_aload_n hx hb d_X_takeStep_100 rfl (lv_at hl 2 rfl) ?_
          refine mr_aload_n hx hb d_X_takeStep_101 rfl (lv_at hl 3 rfl) ?_
          refine lv_lload hx hb d_X_takeStep_102 (lv_at hl 5 rfl) ?_
          obtain ⟨t_41, h⟩ := h
          refine ms_callv (va_runV (As := [va_rf p2, va_rf p3, .long p5]) (rest := []) ⟨hx, hb, hml, hown, hts⟩ (mc_X_writePaid l D A σ h0 p2 p3 p5 _) ⟨(callB_of 3 hts gw_X_writePaid rfl rfl rfl (hts _ wd_1) (hts _ wd_223) (by decide +kernel) ⟨by decide, by decide⟩), (hts _ wd_225), (hts _ wq_6)⟩ ⟨mw_blind, mg_recv hK.1 hH (ci := 0) rfl (cell_0 t_41), fun U hU hW => ⟨rfl, mw_pass hH hK hA hS hU hW, mn_warm hW hn, h⟩⟩ rfl rfl hl.1 rfl (lv_room (Nat.le_of_ble_eq_true rfl)) d_X_takeStep_104 ⟨by decide, by decide⟩) hS (fun σ_43 H locs h hH hK hS => ?_)
          refine lv_iconst (v := 1) hx hb d_X_takeStep_107 (by decide) ?_
          exact W.iret (v := 1) hx hb hr (fun t ht hW => ⟨⟨1, σ_43, rfl, h, mw_pass hH hK hA hS ht hW⟩, hS.F ht⟩) hS.2.2 d_X_takeStep_108
def wb_X_undoSteps_3 (h0 : Nat) (K : ST → Prop) : Nat → ST → Option Nat → Option Nat → Int32 → Prop
  | 0, _, _, _, _ => False
  | n + 1, σ, v2, v3, v4 =>
  (((v4 < (1 : Int32)) → K σ) ∧
  ((¬ v4 < (1 : Int32)) → (((¬ v4 = (4 : Int32)) → (((¬ v4 = (1 : Int32)) → ∀ x_4 : Int32, x_4 = v4 + (-1) → (wb_X_undoSteps_3 h0 K n σ v2 v3 x_4)) ∧
  ((v4 = (1 : Int32)) → st_tg σ h0 = some 0 ∧ (∃ a_7 : Nat, (st_R σ 9 h0) = some a_7 ∧ st_tg σ a_7 = some 302 ∧ (vp_in 8 (st_ln σ a_7) ∧ (vp_in 8 (st_ln σ a_7) ∧ (∀ σ_12 : ST, σ_12 = st_uJ σ a_7 (Int32.toNatClampNeg 8) ((((st_eJ σ a_7 (Int32.toNatClampNeg 8))) - 1)) → (∀ x_16 : Int32, x_16 = v4 + (-1) → (wb_X_undoSteps_3 h0 K n σ_12 v2 v3 x_16))))))))) ∧
  ((v4 = (4 : Int32)) → ∃ a_18 : Nat, v2 = some a_18 ∧ st_tg σ a_18 = some 4 ∧ (∃ a_21 : Nat, v3 = some a_21 ∧ st_tg σ a_21 = some 5 ∧ (wp_Order_sum σ a_21 (fun (r_24 : Int64) σ_25 =>
  st_tg σ_25 a_18 = some 4 ∧ (∀ σ_27 : ST, σ_27 = st_sJ σ_25 161 a_18 ((((st_J σ 161 a_18)) + r_24)) → (∀ x_30 : Int32, x_30 = v4 + (-1) → (wb_X_undoSteps_3 h0 K n σ_27 v2 v3 x_30))))))))))
def wp_X_undoSteps (σ : ST) (h0 : Nat) (p1 : Int32) (p2 : Option Nat) (p3 : Option Nat) (K : ST → Prop) : Prop :=
  ∃ n : Nat, wb_X_undoSteps_3 h0 K n σ p2 p3 p1
abbrev ROOM_X_undoSteps : Room := { frames := 1, cells := 0, slots := 0, locals := 20 }
set_option maxHeartbeats 4000000 in
set_option maxRecDepth 100000 in
theorem mc_X_undoSteps (l : Launch) (D : va_G) (A : Nat → Prop) (σ : ST) (h0 : Nat) (p1 : Int32) (p2 : Option Nat) (p3 : Option Nat) (K : ST → Prop) : Met l y_X_undoSteps ws_X_undoSteps ROOM_X_undoSteps (va_Pc [.ref h0, .int p1, va_rf p2, va_rf p3] (fun U => mw D A σ U ∧ mn U ∧ wp_X_undoSteps σ h0 p1 p2 p3 K)) (va_Qv K (mw D A) A) 0 0 A := by
  refine Met.ofW (cc := c_X_undoSteps) (maxL := 5) (ret := none) (by decide) rfl ?_
  intro p e s m args below meth c s₁ B hml hv
  obtain ⟨rfl, ⟨hH, hK, hA⟩, hn, h⟩ := hv
  have hx := B.exec
  have hb := B.bytes
  have hr := B.returns
  have hts := atoms_spec (ws := ws_X_undoSteps) B.pre
  have hown : s.vm.findClass R_X = some m.cls := findClass_of_methodNamed B.named
  have hlocks := B.notSynchronized
  have hts : ∀ w ∈ lw_g, w.before ([.ref h0, .int p1, va_rf p2, va_rf p3] : List Value).toArray s = true := fun w hw => hts w (List.mem_cons_of_mem _ hw)
  have b_3 : ∀ (n : Nat), ∀ (σ : ST) (v2 : Option Nat) (v3 : Option Nat) (v4 : Int32) (H : Heap) (locs : List Loc) (ls : Array Slot), mg_H D vwCl A (st_cell σ) H → mk_K D σ s → va_S A s.heap H locs → lv_has ls 5 [(0, va_rf (some h0)), (2, va_rf v2), (3, va_rf v3), (4, .int v4)] → wb_X_undoSteps_3 h0 K n σ v2 v3 v4 → W p l e (headSpec ws_X_undoSteps ROOM_X_undoSteps).room s m ([.ref h0, .int p1, va_rf p2, va_rf p3] : List Value).toArray below meth c H locs 0 0 (MQ below (va_Qv K (mw D A) A) ([.ref h0, .int p1, va_rf p2, va_rf p3] : List Value).toArray s 0 0 A) (F0 m 3 ls []) := by
    intro n
    induction n with
    | zero =>
      intro σ v2 v3 v4 H locs ls hH hK hS hl h
      exact h.elim
    | succ n ih =>
      intro σ v2 v3 v4 H locs ls hH hK hS hl h
      unfold wb_X_undoSteps_3 at h
      refine lv_iload hx hb d_X_undoSteps_3 (lv_at hl 3 rfl) ?_
      refine lv_iconst (v := 1) hx hb d_X_undoSteps_5 (by decide) ?_
      refine lv_icmp_lt (tgt := 54) hx hb d_X_undoSteps_6 (by decide) (fun c_1 => ?_) (fun c_1 => ?_)
      · have h := h.1 c_1
        exact W.vret hx hb hr (fun t ht hW => ⟨⟨σ, rfl, h, mw_pass hH hK hA hS ht hW⟩, hS.F ht⟩) hS.2.2 d_X_undoSteps_54
      · have h := h.2 c_1
        refine lv_iload hx hb d_X_undoSteps_9 (lv_at hl 3 rfl) ?_
        refine lv_iconst (v := 4) hx hb d_X_undoSteps_11 (by decide) ?_
        refine lv_icmp_ne (tgt := 31) hx hb d_X_undoSteps_12 (by decide) (fun c_2 => ?_) (fun c_2 => ?_)
        · have h := h.1 c_2
          refine lv_iload hx hb d_X_undoSteps_31 (lv_at hl 3 rfl) ?_
          refine lv_iconst (v := 1) hx hb d_X_undoSteps_33 (by decide) ?_
          refine lv_icmp_ne (tgt := 48) hx hb d_X_undoSteps_34 (by decide) (fun c_3 => ?_) (fun c_3 => ?_)
          · have h := h.1 c_3
            obtain ⟨x_4, q_5⟩ : ∃ y : Int32, y = v4 + (-1) := ⟨_, rfl⟩
            have h := h x_4 q_5
            refine lv_iinc (v := x_4) (lv' := [(4, .int x_4), (0, va_rf (some h0)), (2, va_rf v2), (3, va_rf v3)]) hx hb d_X_undoSteps_48 hl (k := 3) rfl (by rw [q_5]; rfl) (by decide) (by simp [List.filter, cat_rf, cat_i, cat_l, cat_r]) (fun ls hl => ?_)
            refine lv_goto (tgt := 3) hx hb d_X_undoSteps_51 (by decide) ?_
            exact ih _ _ _ _ _ _ _ hH hK hS (lv_sub hl [1, 2, 3, 0] rfl) h
          · have h := h.2 c_3
            refine mr_aload_n hx hb d_X_undoSteps_37 rfl (lv_at hl 0 rfl) ?_
            obtain ⟨t_6, h⟩ := h
            refine ms_get (σ := σ) (r := some h0) (a := h0) (fs := fl_0 σ h0) (ci := 0) (C := R_X) (T := T_X) (N := 10) hx hb hts in_0 hown hK hH rfl (cell_0 t_6) rfl 9 (by decide) (hts _ wd_88) (fun _ h9 => h9) (v := va_rf (st_R σ 9 h0)) rfl d_X_undoSteps_38 ?_
            refine lv_bipush (v := 8) hx hb d_X_undoSteps_41 (by decide) ?_
            refine lv_dup2_11 hx hb d_X_undoSteps_43 rfl (cat_rf _) ?_
            obtain ⟨a_7, e_8, t_9, h⟩ := h
            obtain ⟨b_10, h⟩ := h
            refine ms_lald (σ := σ) (r := (st_R σ 9 h0)) (a := a_7) hx hb hK hH e_8 t_9 rfl (cell_302 t_9) b_10 d_X_undoSteps_44 ?_
            refine lv_lconst (v := 1) hx hb d_X_undoSteps_45 rfl ?_
            refine lv_lsub hx hb d_X_undoSteps_46 ?_
            obtain ⟨b_11, h⟩ := h
            obtain ⟨σ_12, z_13⟩ : ∃ y : ST, y = st_uJ σ a_7 (Int32.toNatClampNeg 8) ((((st_eJ σ a_7 (Int32.toNatClampNeg 8))) - 1)) := ⟨_, rfl⟩
            have h := h σ_12 z_13
            refine ms_last (σ := σ) (r := (st_R σ 9 h0)) (a := a_7) (x := (((st_eJ σ a_7 (Int32.toNatClampNeg 8))) - 1)) hx hb hK hH hS e_8 t_9 rfl (cell_302 t_9)  b_11 d_X_undoSteps_47 (σ1 := σ_12) (by rw [z_13]; exact uput_302 σ a_7 _ ((((st_eJ σ a_7 (Int32.toNatClampNeg 8))) - 1)) t_9) (by rw [z_13]; rfl) (by rw [z_13]; rfl) (fun H locs hH hK hS => ?_)
            have t_14 : st_tg σ_12 h0 = some 0 := by rw [z_13]; exact t_6
            have t_15 : st_tg σ_12 a_7 = some 302 := by rw [z_13]; exact t_9
            obtain ⟨x_16, q_17⟩ : ∃ y : Int32, y = v4 + (-1) := ⟨_, rfl⟩
            have h := h x_16 q_17
            refine lv_iinc (v := x_16) (lv' := [(4, .int x_16), (0, va_rf (some h0)), (2, va_rf v2), (3, va_rf v3)]) hx hb d_X_undoSteps_48 hl (k := 3) rfl (by rw [q_17]; rfl) (by decide) (by simp [List.filter, cat_rf, cat_i, cat_l, cat_r]) (fun ls hl => ?_)
            refine lv_goto (tgt := 3) hx hb d_X_undoSteps_51 (by decide) ?_
            exact ih _ _ _ _ _ _ _ hH hK hS (lv_sub hl [1, 2, 3, 0] rfl) h
        · have h := h.2 c_2
          refine mr_aload_n hx hb d_X_undoSteps_15 rfl (lv_at hl 1 rfl) ?_
          refine lv_dup hx hb d_X_undoSteps_16 (cat_rf _) ?_
          obtain ⟨a_18, e_19, t_20, h⟩ := h
          refine ms_getN (σ := σ) (r := v2) (a := a_18) (fs := fl_4 σ a_18) (ci := 4) (C := R_Office) (T := T_Office) (N := 9) hx hb hts in_4 hown hK hH e_19 (cell_4 t_20) rfl 1 (by decide) (va_Nw.use rfl (hn _ wd_35 rfl)) (fun _ h9 => h9) (v := .long (st_J σ 161 a_18)) rfl d_X_undoSteps_17 ?_
          refine mr_aload_n hx hb d_X_undoSteps_20 rfl (lv_at hl 2 rfl) ?_
          obtain ⟨a_21, e_22, t_23, h⟩ := h
          refine ms_calll (va_runV (As := []) (rest := [.long (st_J σ 161 a_18), va_rf v2]) ⟨hx, hb, hml, hown, hts⟩ (mc_Order_sum l D A σ a_21 _) ⟨(callB_of 0 hts gw_Order_sum rfl rfl rfl (hts _ wd_5) (hts _ wd_210) (by decide +kernel) ⟨by decide, by decide⟩), (hts _ wd_211), (hts _ wd_212)⟩ ⟨mw_blind, mg_recv hK.1 hH (ci := 5) rfl (cell_5 t_23), fun U hU hW => ⟨rfl, mw_pass hH hK hA hS hU hW, mn_warm hW hn, h⟩⟩ rfl rfl hl.1 (by rw [e_22]; rfl) (lv_room (by simp [cat_rf, cat_i, cat_l, cat_r])) d_X_undoSteps_21 ⟨by decide, by decide⟩) hS (fun r_24 σ_25 H locs h hH hK hS => ?_)
          refine lv_ladd hx hb d_X_undoSteps_24 ?_
          obtain ⟨t_26, h⟩ := h
          obtain ⟨σ_27, z_28⟩ : ∃ y : ST, y = st_sJ σ_25 161 a_18 ((((st_J σ 161 a_18)) + r_24)) := ⟨_, rfl⟩
          have h := h σ_27 z_28
          refine ms_putN (σ := σ_25) (r := v2) (a := a_18) (fs := fl_4 σ_25 a_18) (ci := 4) (C := R_Office) (T := T_Office) (N := 9) (v := .long (((st_J σ 161 a_18)) + r_24)) (ty := .long) hx hb hts in_4 ty_Office ty_Office_ok nm_Office hown hK hH hS e_19 (cell_4 t_26) rfl 1 (by decide) (va_Nw.use rfl (hn _ wd_35 rfl)) (fun _ h9 => h9) rfl (by decide +kernel) rfl rfl (Nat.le_of_ble_eq_true rfl) d_X_undoSteps_25 (σ1 := σ_27) (by rw [z_28]; exact put_4_1 σ_25 a_18 ((((st_J σ 161 a_18)) + r_24)) t_26) (by rw [z_28]; rfl) (by rw [z_28]; rfl) (fun H locs hH hK hS => ?_)
          have t_29 : st_tg σ_27 a_18 = some 4 := by rw [z_28]; exact t_26
          refine lv_goto (tgt := 48) hx hb d_X_undoSteps_28 (by decide) ?_
          obtain ⟨x_30, q_31⟩ : ∃ y : Int32, y = v4 + (-1) := ⟨_, rfl⟩
          have h := h x_30 q_31
          refine lv_iinc (v := x_30) (lv' := [(4, .int x_30), (0, va_rf (some h0)), (2, va_rf v2), (3, va_rf v3)]) hx hb d_X_undoSteps_48 hl (k := 3) rfl (by rw [q_31]; rfl) (by decide) (by simp [List.filter, cat_rf, cat_i, cat_l, cat_r]) (fun ls hl => ?_)
          refine lv_goto (tgt := 3) hx hb d_X_undoSteps_51 (by decide) ?_
          exact ih _ _ _ _ _ _ _ hH hK hS (lv_sub hl [1, 2, 3, 0] rfl) h
  have hS : va_S A s.heap s.heap [] := va_S.rf
  have hl := lv_entry ([.ref h0, .int p1, va_rf p2, va_rf p3]) (n := 5) (by simp [lg_sl, cat_rf, cat_i, cat_l, cat_r])
  rw [lg_entry_eq]
  generalize (lg_sl ([.ref h0, .int p1, va_rf p2, va_rf p3]) ++ List.replicate (5 - (lg_sl ([.ref h0, .int p1, va_rf p2, va_rf p3])).length) Slot.unset).toArray = ls at hl ⊢
  have hle : lv_args 0 [.ref h0, .int p1, va_rf p2, va_rf p3] = [(0, .ref h0), (1, .int p1), (2, va_rf p2), (3, va_rf p3)] := by simp [lv_args, cat_rf, cat_i, cat_l, cat_r]
  rw [hle] at hl
  have hl : lv_has ls 5 [(0, va_rf (some h0)), (1, .int p1), (2, va_rf p2), (3, va_rf p3)] := hl
  unfold wp_X_undoSteps at h
  refine lv_iload_n hx hb d_X_undoSteps_0 rfl (lv_at hl 1 rfl) ?_
  refine lv_istore (lv' := [(4, .int p1), (0, va_rf (some h0)), (1, .int p1), (2, va_rf p2), (3, va_rf p3)]) hx hb d_X_undoSteps_1 hl (by decide) (by simp [List.filter, cat_rf, cat_i, cat_l, cat_r]) (fun ls hl => ?_)
  obtain ⟨n, h⟩ := h
  exact b_3 n _ _ _ _ _ _ _ hH hK hS (lv_sub hl [1, 3, 4, 0] rfl) h
def wb_X_goThroughSteps_82 (h0 : Nat) (K : Int32 → ST → Prop) (σ : ST) (v1 : Option Nat) (v2 : Option Nat) (v6 : Int32) (v7 : Int32) : Prop :=
  (((¬ v6 = (1 : Int32)) → st_tg σ h0 = some 0 ∧ (wp_X_undoSteps σ h0 v7 v1 v2 (fun σ_6 =>
  K v6 σ_6))) ∧
  ((v6 = (1 : Int32)) → st_tg σ h0 = some 0 ∧ (∃ a_8 : Nat, (st_R σ 9 h0) = some a_8 ∧ st_tg σ a_8 = some 302 ∧ (vp_in 8 (st_ln σ a_8) ∧ (vp_in 8 (st_ln σ a_8) ∧ (∀ σ_13 : ST, σ_13 = st_uJ σ a_8 (Int32.toNatClampNeg 8) ((((st_eJ σ a_8 (Int32.toNatClampNeg 8))) - 1)) → (K v6 σ_13)))))))
def wb_X_goThroughSteps_64 (h0 : Nat) (K : Int32 → ST → Prop) (σ : ST) (v1 : Option Nat) (v2 : Option Nat) (v6 : Int32) (v7 : Int32) : Prop :=
  (((¬ v6 = ((-108) : Int32)) → wb_X_goThroughSteps_82 h0 K σ v1 v2 v6 v7) ∧
  ((v6 = ((-108) : Int32)) → st_tg σ h0 = some 0 ∧ (∃ a_18 : Nat, (st_R σ 9 h0) = some a_18 ∧ st_tg σ a_18 = some 302 ∧ (vp_in 6 (st_ln σ a_18) ∧ (vp_in 6 (st_ln σ a_18) ∧ (∀ σ_23 : ST, σ_23 = st_uJ σ a_18 (Int32.toNatClampNeg 6) ((((st_eJ σ a_18 (Int32.toNatClampNeg 6))) + 1)) → (wb_X_goThroughSteps_82 h0 K σ_23 v1 v2 v6 v7)))))))
def wb_X_goThroughSteps_9 (h0 : Nat) (K : Int32 → ST → Prop) : Nat → ST → Option Nat → Option Nat → Int32 → Int64 → Int32 → Int32 → Int32 → Prop
  | 0, _, _, _, _, _, _, _, _ => False
  | n + 1, σ, v1, v2, v3, v4, v6, v7, v8 =>
  ((((5 : Int32) < v8) → wb_X_goThroughSteps_64 h0 K σ v1 v2 v6 v7) ∧
  ((¬ (5 : Int32) < v8) → (((¬ v6 = (1 : Int32)) → wb_X_goThroughSteps_64 h0 K σ v1 v2 v6 v7) ∧
  ((v6 = (1 : Int32)) → ∃ a_28 : Nat, v1 = some a_28 ∧ st_tg σ a_28 = some 4 ∧ (wp_Office_takesFailing σ a_28 v8 (fun (r_31 : Int32) σ_32 =>
  (((r_31 = 0) → st_tg σ_32 h0 = some 0 ∧ (wp_X_takeStep σ_32 h0 v8 v1 v2 v3 v4 (fun (r_35 : Int32) σ_36 =>
  (((¬ r_35 = (1 : Int32)) → ∀ x_38 : Int32, x_38 = v8 + 1 → (wb_X_goThroughSteps_9 h0 K n σ_36 v1 v2 v3 v4 r_35 v7 x_38)) ∧
  ((r_35 = (1 : Int32)) → ∀ x_40 : Int32, x_40 = v8 + 1 → (wb_X_goThroughSteps_9 h0 K n σ_36 v1 v2 v3 v4 r_35 v8 x_40)))))) ∧
  ((¬ r_31 = 0) → (((¬ ((-108) : Int32) = (1 : Int32)) → ∀ x_43 : Int32, x_43 = v8 + 1 → (wb_X_goThroughSteps_9 h0 K n σ_32 v1 v2 v3 v4 ((-108)) v7 x_43)) ∧
  ((((-108) : Int32) = (1 : Int32)) → ∀ x_45 : Int32, x_45 = v8 + 1 → (wb_X_goThroughSteps_9 h0 K n σ_32 v1 v2 v3 v4 ((-108)) v8 x_45)))))))))))
def wp_X_goThroughSteps (σ : ST) (h0 : Nat) (p1 : Option Nat) (p2 : Option Nat) (p3 : Int32) (p4 : Int64) (K : Int32 → ST → Prop) : Prop :=
  ∃ n : Nat, wb_X_goThroughSteps_9 h0 K n σ p1 p2 p3 p4 1 0 1
abbrev ROOM_X_goThroughSteps : Room := { frames := 4, cells := 0, slots := 0, locals := 93 }
set_option maxHeartbeats 4000000 in
set_option maxRecDepth 100000 in
theorem mc_X_goThroughSteps (l : Launch) (D : va_G) (A : Nat → Prop) (σ : ST) (h0 : Nat) (p1 : Option Nat) (p2 : Option Nat) (p3 : Int32) (p4 : Int64) (K : Int32 → ST → Prop) : Met l y_X_goThroughSteps ws_X_goThroughSteps ROOM_X_goThroughSteps (va_Pc [.ref h0, va_rf p1, va_rf p2, .int p3, .long p4] (fun U => mw D A σ U ∧ mn U ∧ wp_X_goThroughSteps σ h0 p1 p2 p3 p4 K)) (va_Qi K (mw D A) A) 0 0 A := by
  refine Met.ofW (cc := c_X_goThroughSteps) (maxL := 9) (ret := (some .int)) (by decide) rfl ?_
  intro p e s m args below meth c s₁ B hml hv
  obtain ⟨rfl, ⟨hH, hK, hA⟩, hn, h⟩ := hv
  have hx := B.exec
  have hb := B.bytes
  have hr := B.returns
  have hts := atoms_spec (ws := ws_X_goThroughSteps) B.pre
  have hown : s.vm.findClass R_X = some m.cls := findClass_of_methodNamed B.named
  have hlocks := B.notSynchronized
  have hts : ∀ w ∈ lw_g, w.before ([.ref h0, va_rf p1, va_rf p2, .int p3, .long p4] : List Value).toArray s = true := fun w hw => hts w (List.mem_cons_of_mem _ hw)
  have b_82 : ∀ (σ : ST) (v1 : Option Nat) (v2 : Option Nat) (v6 : Int32) (v7 : Int32) (H : Heap) (locs : List Loc) (ls : Array Slot), mg_H D vwCl A (st_cell σ) H → mk_K D σ s → va_S A s.heap H locs → lv_has ls 9 [(0, va_rf (some h0)), (1, va_rf v1), (2, va_rf v2), (6, .int v6), (7, .int v7)] → wb_X_goThroughSteps_82 h0 K σ v1 v2 v6 v7 → W p l e (headSpec ws_X_goThroughSteps ROOM_X_goThroughSteps).room s m ([.ref h0, va_rf p1, va_rf p2, .int p3, .long p4] : List Value).toArray below meth c H locs 0 0 (MQ below (va_Qi K (mw D A) A) ([.ref h0, va_rf p1, va_rf p2, .int p3, .long p4] : List Value).toArray s 0 0 A) (F0 m 82 ls []) := by
    intro σ v1 v2 v6 v7 H locs ls hH hK hS hl h
    unfold wb_X_goThroughSteps_82 at h
    refine lv_iload hx hb d_X_goThroughSteps_82 (lv_at hl 3 rfl) ?_
    refine lv_iconst (v := 1) hx hb d_X_goThroughSteps_84 (by decide) ?_
    refine lv_icmp_ne (tgt := 102) hx hb d_X_goThroughSteps_85 (by decide) (fun c_3 => ?_) (fun c_3 => ?_)
    · have h := h.1 c_3
      refine mr_aload_n hx hb d_X_goThroughSteps_102 rfl (lv_at hl 0 rfl) ?_
      refine lv_iload hx hb d_X_goThroughSteps_103 (lv_at hl 4 rfl) ?_
      refine mr_aload_n hx hb d_X_goThroughSteps_105 rfl (lv_at hl 1 rfl) ?_
      refine mr_aload_n hx hb d_X_goThroughSteps_106 rfl (lv_at hl 2 rfl) ?_
      obtain ⟨t_4, h⟩ := h
      refine ms_callv (va_runV (As := [.int v7, va_rf v1, va_rf v2]) (rest := []) ⟨hx, hb, hml, hown, hts⟩ (mc_X_undoSteps l D A σ h0 v7 v1 v2 _) ⟨(callB_of 3 hts gw_X_undoSteps rfl rfl rfl (hts _ wd_1) (hts _ wd_244) (by decide +kernel) ⟨by decide, by decide⟩), (hts _ wd_246), (hts _ wq_7)⟩ ⟨mw_blind, mg_recv hK.1 hH (ci := 0) rfl (cell_0 t_4), fun U hU hW => ⟨rfl, mw_pass hH hK hA hS hU hW, mn_warm hW hn, h⟩⟩ rfl rfl hl.1 rfl (lv_room (Nat.le_of_ble_eq_true rfl)) d_X_goThroughSteps_107 ⟨by decide, by decide⟩) hS (fun σ_6 H locs h hH hK hS => ?_)
      refine lv_iload hx hb d_X_goThroughSteps_110 (lv_at hl 3 rfl) ?_
      exact W.iret (v := v6) hx hb hr (fun t ht hW => ⟨⟨v6, σ_6, rfl, h, mw_pass hH hK hA hS ht hW⟩, hS.F ht⟩) hS.2.2 d_X_goThroughSteps_112
    · have h := h.2 c_3
      refine mr_aload_n hx hb d_X_goThroughSteps_88 rfl (lv_at hl 0 rfl) ?_
      obtain ⟨t_7, h⟩ := h
      refine ms_get (σ := σ) (r := some h0) (a := h0) (fs := fl_0 σ h0) (ci := 0) (C := R_X) (T := T_X) (N := 10) hx hb hts in_0 hown hK hH rfl (cell_0 t_7) rfl 9 (by decide) (hts _ wd_88) (fun _ h9 => h9) (v := va_rf (st_R σ 9 h0)) rfl d_X_goThroughSteps_89 ?_
      refine lv_bipush (v := 8) hx hb d_X_goThroughSteps_92 (by decide) ?_
      refine lv_dup2_11 hx hb d_X_goThroughSteps_94 rfl (cat_rf _) ?_
      obtain ⟨a_8, e_9, t_10, h⟩ := h
      obtain ⟨b_11, h⟩ := h
      refine ms_lald (σ := σ) (r := (st_R σ 9 h0)) (a := a_8) hx hb hK hH e_9 t_10 rfl (cell_302 t_10) b_11 d_X_goThroughSteps_95 ?_
      refine lv_lconst (v := 1) hx hb d_X_goThroughSteps_96 rfl ?_
      refine lv_lsub hx hb d_X_goThroughSteps_97 ?_
      obtain ⟨b_12, h⟩ := h
      obtain ⟨σ_13, z_14⟩ : ∃ y : ST, y = st_uJ σ a_8 (Int32.toNatClampNeg 8) ((((st_eJ σ a_8 (Int32.toNatClampNeg 8))) - 1)) := ⟨_, rfl⟩
      have h := h σ_13 z_14
      refine ms_last (σ := σ) (r := (st_R σ 9 h0)) (a := a_8) (x := (((st_eJ σ a_8 (Int32.toNatClampNeg 8))) - 1)) hx hb hK hH hS e_9 t_10 rfl (cell_302 t_10)  b_12 d_X_goThroughSteps_98 (σ1 := σ_13) (by rw [z_14]; exact uput_302 σ a_8 _ ((((st_eJ σ a_8 (Int32.toNatClampNeg 8))) - 1)) t_10) (by rw [z_14]; rfl) (by rw [z_14]; rfl) (fun H locs hH hK hS => ?_)
      have t_15 : st_tg σ_13 h0 = some 0 := by rw [z_14]; exact t_7
      have t_16 : st_tg σ_13 a_8 = some 302 := by rw [z_14]; exact t_10
      refine lv_goto (tgt := 110) hx hb d_X_goThroughSteps_99 (by decide) ?_
      refine lv_iload hx hb d_X_goThroughSteps_110 (lv_at hl 3 rfl) ?_
      exact W.iret (v := v6) hx hb hr (fun t ht hW => ⟨⟨v6, σ_13, rfl, h, mw_pass hH hK hA hS ht hW⟩, hS.F ht⟩) hS.2.2 d_X_goThroughSteps_112
  have b_64 : ∀ (σ : ST) (v1 : Option Nat) (v2 : Option Nat) (v6 : Int32) (v7 : Int32) (H : Heap) (locs : List Loc) (ls : Array Slot), mg_H D vwCl A (st_cell σ) H → mk_K D σ s → va_S A s.heap H locs → lv_has ls 9 [(0, va_rf (some h0)), (1, va_rf v1), (2, va_rf v2), (6, .int v6), (7, .int v7)] → wb_X_goThroughSteps_64 h0 K σ v1 v2 v6 v7 → W p l e (headSpec ws_X_goThroughSteps ROOM_X_goThroughSteps).room s m ([.ref h0, va_rf p1, va_rf p2, .int p3, .long p4] : List Value).toArray below meth c H locs 0 0 (MQ below (va_Qi K (mw D A) A) ([.ref h0, va_rf p1, va_rf p2, .int p3, .long p4] : List Value).toArray s 0 0 A) (F0 m 64 ls []) := by
    intro σ v1 v2 v6 v7 H locs ls hH hK hS hl h
    unfold wb_X_goThroughSteps_64 at h
    refine lv_iload hx hb d_X_goThroughSteps_64 (lv_at hl 3 rfl) ?_
    refine lv_bipush (v := (-108)) hx hb d_X_goThroughSteps_66 (by decide) ?_
    refine lv_icmp_ne (tgt := 82) hx hb d_X_goThroughSteps_68 (by decide) (fun c_2 => ?_) (fun c_2 => ?_)
    · have h := h.1 c_2
      exact b_82 _ _ _ _ _ _ _ _ hH hK hS (lv_sub hl [0, 1, 2, 3, 4] rfl) h
    · have h := h.2 c_2
      refine mr_aload_n hx hb d_X_goThroughSteps_71 rfl (lv_at hl 0 rfl) ?_
      obtain ⟨t_17, h⟩ := h
      refine ms_get (σ := σ) (r := some h0) (a := h0) (fs := fl_0 σ h0) (ci := 0) (C := R_X) (T := T_X) (N := 10) hx hb hts in_0 hown hK hH rfl (cell_0 t_17) rfl 9 (by decide) (hts _ wd_88) (fun _ h9 => h9) (v := va_rf (st_R σ 9 h0)) rfl d_X_goThroughSteps_72 ?_
      refine lv_bipush (v := 6) hx hb d_X_goThroughSteps_75 (by decide) ?_
      refine lv_dup2_11 hx hb d_X_goThroughSteps_77 rfl (cat_rf _) ?_
      obtain ⟨a_18, e_19, t_20, h⟩ := h
      obtain ⟨b_21, h⟩ := h
      refine ms_lald (σ := σ) (r := (st_R σ 9 h0)) (a := a_18) hx hb hK hH e_19 t_20 rfl (cell_302 t_20) b_21 d_X_goThroughSteps_78 ?_
      refine lv_lconst (v := 1) hx hb d_X_goThroughSteps_79 rfl ?_
      refine lv_ladd hx hb d_X_goThroughSteps_80 ?_
      obtain ⟨b_22, h⟩ := h
      obtain ⟨σ_23, z_24⟩ : ∃ y : ST, y = st_uJ σ a_18 (Int32.toNatClampNeg 6) ((((st_eJ σ a_18 (Int32.toNatClampNeg 6))) + 1)) := ⟨_, rfl⟩
      have h := h σ_23 z_24
      refine ms_last (σ := σ) (r := (st_R σ 9 h0)) (a := a_18) (x := (((st_eJ σ a_18 (Int32.toNatClampNeg 6))) + 1)) hx hb hK hH hS e_19 t_20 rfl (cell_302 t_20)  b_22 d_X_goThroughSteps_81 (σ1 := σ_23) (by rw [z_24]; exact uput_302 σ a_18 _ ((((st_eJ σ a_18 (Int32.toNatClampNeg 6))) + 1)) t_20) (by rw [z_24]; rfl) (by rw [z_24]; rfl) (fun H locs hH hK hS => ?_)
      have t_25 : st_tg σ_23 h0 = some 0 := by rw [z_24]; exact t_17
      have t_26 : st_tg σ_23 a_18 = some 302 := by rw [z_24]; exact t_20
      exact b_82 _ _ _ _ _ _ _ _ hH hK hS (lv_sub hl [0, 1, 2, 3, 4] rfl) h
  have b_9 : ∀ (n : Nat), ∀ (σ : ST) (v1 : Option Nat) (v2 : Option Nat) (v3 : Int32) (v4 : Int64) (v6 : Int32) (v7 : Int32) (v8 : Int32) (H : Heap) (locs : List Loc) (ls : Array Slot), mg_H D vwCl A (st_cell σ) H → mk_K D σ s → va_S A s.heap H locs → lv_has ls 9 [(0, va_rf (some h0)), (1, va_rf v1), (2, va_rf v2), (3, .int v3), (4, .long v4), (6, .int v6), (7, .int v7), (8, .int v8)] → wb_X_goThroughSteps_9 h0 K n σ v1 v2 v3 v4 v6 v7 v8 → W p l e (headSpec ws_X_goThroughSteps ROOM_X_goThroughSteps).room s m ([.ref h0, va_rf p1, va_rf p2, .int p3, .long p4] : List Value).toArray below meth c H locs 0 0 (MQ below (va_Qi K (mw D A) A) ([.ref h0, va_rf p1, va_rf p2, .int p3, .long p4] : List Value).toArray s 0 0 A) (F0 m 9 ls []) := by
    intro n
    induction n with
    | zero =>
      intro σ v1 v2 v3 v4 v6 v7 v8 H locs ls hH hK hS hl h
      exact h.elim
    | succ n ih =>
      intro σ v1 v2 v3 v4 v6 v7 v8 H locs ls hH hK hS hl h
      unfold wb_X_goThroughSteps_9 at h
      refine lv_iload hx hb d_X_goThroughSteps_9 (lv_at hl 7 rfl) ?_
      refine lv_iconst (v := 5) hx hb d_X_goThroughSteps_11 (by decide) ?_
      refine lv_icmp_gt (tgt := 64) hx hb d_X_goThroughSteps_12 (by decide) (fun c_1 => ?_) (fun c_1 => ?_)
      · have h := h.1 c_1
        exact b_64 _ _ _ _ _ _ _ _ hH hK hS (lv_sub hl [0, 1, 2, 5, 6] rfl) h
      · have h := h.2 c_1
        refine lv_iload hx hb d_X_goThroughSteps_15 (lv_at hl 5 rfl) ?_
        refine lv_iconst (v := 1) hx hb d_X_goThroughSteps_17 (by decide) ?_
        refine lv_icmp_ne (tgt := 64) hx hb d_X_goThroughSteps_18 (by decide) (fun c_27 => ?_) (fun c_27 => ?_)
        · have h := h.1 c_27
          exact b_64 _ _ _ _ _ _ _ _ hH hK hS (lv_sub hl [0, 1, 2, 5, 6] rfl) h
        · have h := h.2 c_27
          refine mr_aload_n hx hb d_X_goThroughSteps_21 rfl (lv_at hl 1 rfl) ?_
          refine lv_iload hx hb d_X_goThroughSteps_22 (lv_at hl 7 rfl) ?_
          obtain ⟨a_28, e_29, t_30, h⟩ := h
          refine ms_calli (va_runV (As := [.int v8]) (rest := []) ⟨hx, hb, hml, hown, hts⟩ (mc_Office_takesFailing l D A σ a_28 v8 _) ⟨(callB_of 1 hts gw_Office_takesFailing rfl rfl rfl (hts _ wd_2) (hts _ wd_202) (by decide +kernel) ⟨by decide, by decide⟩), (hts _ wd_203), (hts _ wd_204)⟩ ⟨mw_blind, mg_recv hK.1 hH (ci := 4) rfl (cell_4 t_30), fun U hU hW => ⟨rfl, mw_pass hH hK hA hS hU hW, mn_warm hW hn, h⟩⟩ rfl rfl hl.1 (by rw [e_29]; rfl) (lv_room (Nat.le_of_ble_eq_true rfl)) d_X_goThroughSteps_24 ⟨by decide, by decide⟩) hS (fun r_31 σ_32 H locs h hH hK hS => ?_)
          refine lv_if_eq (tgt := 35) hx hb d_X_goThroughSteps_27 (by decide) (fun c_33 => ?_) (fun c_33 => ?_)
          · have h := h.1 c_33
            refine mr_aload_n hx hb d_X_goThroughSteps_35 rfl (lv_at hl 0 rfl) ?_
            refine lv_iload hx hb d_X_goThroughSteps_36 (lv_at hl 7 rfl) ?_
            refine mr_aload_n hx hb d_X_goThroughSteps_38 rfl (lv_at hl 1 rfl) ?_
            refine mr_aload_n hx hb d_X_goThroughSteps_39 rfl (lv_at hl 2 rfl) ?_
            refine lv_iload_n hx hb d_X_goThroughSteps_40 rfl (lv_at hl 3 rfl) ?_
            refine lv_lload hx hb d_X_goThroughSteps_41 (lv_at hl 4 rfl) ?_
            obtain ⟨t_34, h⟩ := h
            refine ms_calli (va_runV (As := [.int v8, va_rf v1, va_rf v2, .int v3, .long v4]) (rest := []) ⟨hx, hb, hml, hown, hts⟩ (mc_X_takeStep l D A σ_32 h0 v8 v1 v2 v3 v4 _) ⟨(callB_of 5 hts gw_X_takeStep rfl rfl rfl (hts _ wd_1) (hts _ wd_206) (by decide +kernel) ⟨by decide, by decide⟩), (hts _ wd_208), (hts _ wq_5)⟩ ⟨mw_blind, mg_recv hK.1 hH (ci := 0) rfl (cell_0 t_34), fun U hU hW => ⟨rfl, mw_pass hH hK hA hS hU hW, mn_warm hW hn, h⟩⟩ rfl rfl hl.1 rfl (lv_room (Nat.le_of_ble_eq_true rfl)) d_X_goThroughSteps_43 ⟨by decide, by decide⟩) hS (fun r_35 σ_36 H locs h hH hK hS => ?_)
            refine lv_istore (lv' := [(6, .int r_35), (0, va_rf (some h0)), (1, va_rf v1), (2, va_rf v2), (3, .int v3), (4, .long v4), (7, .int v7), (8, .int v8)]) hx hb d_X_goThroughSteps_46 hl (by decide) rfl (fun ls hl => ?_)
            refine lv_iload hx hb d_X_goThroughSteps_48 (lv_at hl 0 rfl) ?_
            refine lv_iconst (v := 1) hx hb d_X_goThroughSteps_50 (by decide) ?_
            refine lv_icmp_ne (tgt := 58) hx hb d_X_goThroughSteps_51 (by decide) (fun c_37 => ?_) (fun c_37 => ?_)
            · have h := h.1 c_37
              obtain ⟨x_38, q_39⟩ : ∃ y : Int32, y = v8 + 1 := ⟨_, rfl⟩
              have h := h x_38 q_39
              refine lv_iinc (v := x_38) (lv' := [(8, .int x_38), (6, .int r_35), (0, va_rf (some h0)), (1, va_rf v1), (2, va_rf v2), (3, .int v3), (4, .long v4), (7, .int v7)]) hx hb d_X_goThroughSteps_58 hl (k := 7) rfl (by rw [q_39]; rfl) (by decide) rfl (fun ls hl => ?_)
              refine lv_goto (tgt := 9) hx hb d_X_goThroughSteps_61 (by decide) ?_
              exact ih _ _ _ _ _ _ _ _ _ _ _ hH hK hS (lv_sub hl [2, 3, 4, 5, 6, 1, 7, 0] rfl) h
            · have h := h.2 c_37
              refine lv_iload hx hb d_X_goThroughSteps_54 (lv_at hl 7 rfl) ?_
              refine lv_istore (lv' := [(7, .int v8), (6, .int r_35), (0, va_rf (some h0)), (1, va_rf v1), (2, va_rf v2), (3, .int v3), (4, .long v4), (8, .int v8)]) hx hb d_X_goThroughSteps_56 hl (by decide) rfl (fun ls hl => ?_)
              obtain ⟨x_40, q_41⟩ : ∃ y : Int32, y = v8 + 1 := ⟨_, rfl⟩
              have h := h x_40 q_41
              refine lv_iinc (v := x_40) (lv' := [(8, .int x_40), (7, .int v8), (6, .int r_35), (0, va_rf (some h0)), (1, va_rf v1), (2, va_rf v2), (3, .int v3), (4, .long v4)]) hx hb d_X_goThroughSteps_58 hl (k := 7) rfl (by rw [q_41]; rfl) (by decide) rfl (fun ls hl => ?_)
              refine lv_goto (tgt := 9) hx hb d_X_goThroughSteps_61 (by decide) ?_
              exact ih _ _ _ _ _ _ _ _ _ _ _ hH hK hS (lv_sub hl [3, 4, 5, 6, 7, 2, 1, 0] rfl) h
          · have h := h.2 c_33
            refine lv_bipush (v := (-108)) hx hb d_X_goThroughSteps_30 (by decide) ?_
            refine lv_goto (tgt := 46) hx hb d_X_goThroughSteps_32 (by decide) ?_
            refine lv_istore (lv' := [(6, .int (-108)), (0, va_rf (some h0)), (1, va_rf v1), (2, va_rf v2), (3, .int v3), (4, .long v4), (7, .int v7), (8, .int v8)]) hx hb d_X_goThroughSteps_46 hl (by decide) rfl (fun ls hl => ?_)
            refine lv_iload hx hb d_X_goThroughSteps_48 (lv_at hl 0 rfl) ?_
            refine lv_iconst (v := 1) hx hb d_X_goThroughSteps_50 (by decide) ?_
            refine lv_icmp_ne (tgt := 58) hx hb d_X_goThroughSteps_51 (by decide) (fun c_42 => ?_) (fun c_42 => ?_)
            · have h := h.1 c_42
              obtain ⟨x_43, q_44⟩ : ∃ y : Int32, y = v8 + 1 := ⟨_, rfl⟩
              have h := h x_43 q_44
              refine lv_iinc (v := x_43) (lv' := [(8, .int x_43), (6, .int (-108)), (0, va_rf (some h0)), (1, va_rf v1), (2, va_rf v2), (3, .int v3), (4, .long v4), (7, .int v7)]) hx hb d_X_goThroughSteps_58 hl (k := 7) rfl (by rw [q_44]; rfl) (by decide) rfl (fun ls hl => ?_)
              refine lv_goto (tgt := 9) hx hb d_X_goThroughSteps_61 (by decide) ?_
              exact ih _ _ _ _ _ _ _ _ _ _ _ hH hK hS (lv_sub hl [2, 3, 4, 5, 6, 1, 7, 0] rfl) h
            · have h := h.2 c_42
              refine lv_iload hx hb d_X_goThroughSteps_54 (lv_at hl 7 rfl) ?_
              refine lv_istore (lv' := [(7, .int v8), (6, .int (-108)), (0, va_rf (some h0)), (1, va_rf v1), (2, va_rf v2), (3, .int v3), (4, .long v4), (8, .int v8)]) hx hb d_X_goThroughSteps_56 hl (by decide) rfl (fun ls hl => ?_)
              obtain ⟨x_45, q_46⟩ : ∃ y : Int32, y = v8 + 1 := ⟨_, rfl⟩
              have h := h x_45 q_46
              refine lv_iinc (v := x_45) (lv' := [(8, .int x_45), (7, .int v8), (6, .int (-108)), (0, va_rf (some h0)), (1, va_rf v1), (2, va_rf v2), (3, .int v3), (4, .long v4)]) hx hb d_X_goThroughSteps_58 hl (k := 7) rfl (by rw [q_46]; rfl) (by decide) rfl (fun ls hl => ?_)
              refine lv_goto (tgt := 9) hx hb d_X_goThroughSteps_61 (by decide) ?_
              exact ih _ _ _ _ _ _ _ _ _ _ _ hH hK hS (lv_sub hl [3, 4, 5, 6, 7, 2, 1, 0] rfl) h
  have hS : va_S A s.heap s.heap [] := va_S.rf
  have hl := lv_entry ([.ref h0, va_rf p1, va_rf p2, .int p3, .long p4]) (n := 9) (by simp [lg_sl, cat_rf, cat_i, cat_l, cat_r])
  rw [lg_entry_eq]
  generalize (lg_sl ([.ref h0, va_rf p1, va_rf p2, .int p3, .long p4]) ++ List.replicate (9 - (lg_sl ([.ref h0, va_rf p1, va_rf p2, .int p3, .long p4])).length) Slot.unset).toArray = ls at hl ⊢
  have hle : lv_args 0 [.ref h0, va_rf p1, va_rf p2, .int p3, .long p4] = [(0, .ref h0), (1, va_rf p1), (2, va_rf p2), (3, .int p3), (4, .long p4)] := by simp [lv_args, cat_rf, cat_i, cat_l, cat_r]
  rw [hle] at hl
  have hl : lv_has ls 9 [(0, va_rf (some h0)), (1, va_rf p1), (2, va_rf p2), (3, .int p3), (4, .long p4)] := hl
  unfold wp_X_goThroughSteps at h
  refine lv_iconst (v := 1) hx hb d_X_goThroughSteps_0 (by decide) ?_
  refine lv_istore (lv' := [(6, .int 1), (0, va_rf (some h0)), (1, va_rf p1), (2, va_rf p2), (3, .int p3), (4, .long p4)]) hx hb d_X_goThroughSteps_1 hl (by decide) rfl (fun ls hl => ?_)
  refine lv_iconst (v := 0) hx hb d_X_goThroughSteps_3 (by decide) ?_
  refine lv_istore (lv' := [(7, .int 0), (6, .int 1), (0, va_rf (some h0)), (1, va_rf p1), (2, va_rf p2), (3, .int p3), (4, .long p4)]) hx hb d_X_goThroughSteps_4 hl (by decide) rfl (fun ls hl => ?_)
  refine lv_iconst (v := 1) hx hb d_X_goThroughSteps_6 (by decide) ?_
  refine lv_istore (lv' := [(8, .int 1), (7, .int 0), (6, .int 1), (0, va_rf (some h0)), (1, va_rf p1), (2, va_rf p2), (3, .int p3), (4, .long p4)]) hx hb d_X_goThroughSteps_7 hl (by decide) rfl (fun ls hl => ?_)
  obtain ⟨n, h⟩ := h
  exact b_9 n _ _ _ _ _ _ _ _ _ _ _ hH hK hS (lv_sub hl [3, 4, 5, 6, 7, 2, 1, 0] rfl) h
def wp_X_pay (σ : ST) (h0 : Nat) (p1 : Int32) (p2 : Int64) (p4 : Int32) (p5 : Int64) (K : Int32 → ST → Prop) : Prop :=
  st_tg σ h0 = some 0 ∧ (wp_X_find σ h0 p2 (fun (r_2 : Option Nat) σ_3 =>
  (((¬ r_2 = none) → st_tg σ_3 h0 = some 0 ∧ (wp_X_officeAt σ_3 h0 p1 (fun (r_6 : Option Nat) σ_7 =>
  (((r_6 = none) → K ((-102)) σ_7) ∧
  ((¬ r_6 = none) → (((0 ≤ ((lg_cmp p5 0))) → ∃ a_10 : Nat, r_2 = some a_10 ∧ st_tg σ_7 a_10 = some 5 ∧ ((((¬ ((st_I σ_7 206 a_10)) = 0) → K ((-103)) σ_7) ∧
  ((((st_I σ_7 206 a_10)) = 0) → (((0 < ((lg_cmp p5 ((st_J σ_7 203 a_10))))) → K ((-103)) σ_7) ∧
  ((¬ 0 < ((lg_cmp p5 ((st_J σ_7 203 a_10))))) → ∃ a_15 : Nat, r_6 = some a_15 ∧ st_tg σ_7 a_15 = some 4 ∧ (wp_Office_mayTouch σ_7 a_15 r_2 (fun (r_18 : Int32) σ_19 =>
  (((¬ r_18 = 0) → st_tg σ_19 h0 = some 0 ∧ (wp_X_goThroughSteps σ_19 h0 r_6 r_2 p4 ((p5 / 86400)) (fun (r_22 : Int32) σ_23 =>
  K r_22 σ_23))) ∧
  ((r_18 = 0) → K ((-103)) σ_19)))))))))) ∧
  ((¬ 0 ≤ ((lg_cmp p5 0))) → K ((-102)) σ_7))))))) ∧
  ((r_2 = none) → K ((-101)) σ_3))))
abbrev ROOM_X_pay : Room := { frames := 5, cells := 0, slots := 0, locals := 121 }
set_option maxHeartbeats 4000000 in
set_option maxRecDepth 100000 in
theorem mc_X_pay (l : Launch) (D : va_G) (A : Nat → Prop) (σ : ST) (h0 : Nat) (p1 : Int32) (p2 : Int64) (p4 : Int32) (p5 : Int64) (K : Int32 → ST → Prop) : Met l y_X_pay ws_X_pay ROOM_X_pay (va_Pc [.ref h0, .int p1, .long p2, .int p4, .long p5] (fun U => mw D A σ U ∧ mn U ∧ wp_X_pay σ h0 p1 p2 p4 p5 K)) (va_Qi K (mw D A) A) 0 0 A := by
  refine Met.ofW (cc := c_X_pay) (maxL := 9) (ret := (some .int)) (by decide) rfl ?_
  intro p e s m args below meth c s₁ B hml hv
  obtain ⟨rfl, ⟨hH, hK, hA⟩, hn, h⟩ := hv
  have hx := B.exec
  have hb := B.bytes
  have hr := B.returns
  have hts := atoms_spec (ws := ws_X_pay) B.pre
  have hown : s.vm.findClass R_X = some m.cls := findClass_of_methodNamed B.named
  have hlocks := B.notSynchronized
  have hts : ∀ w ∈ lw_g, w.before ([.ref h0, .int p1, .long p2, .int p4, .long p5] : List Value).toArray s = true := fun w hw => hts w (List.mem_cons_of_mem _ hw)
  have hS : va_S A s.heap s.heap [] := va_S.rf
  have hl := lv_entry ([.ref h0, .int p1, .long p2, .int p4, .long p5]) (n := 9) (Nat.le_of_ble_eq_true rfl)
  rw [lg_entry_eq]
  generalize (lg_sl ([.ref h0, .int p1, .long p2, .int p4, .long p5]) ++ List.replicate (9 - (lg_sl ([.ref h0, .int p1, .long p2, .int p4, .long p5])).length) Slot.unset).toArray = ls at hl ⊢
  have hl : lv_has ls 9 [(0, va_rf (some h0)), (1, .int p1), (2, .long p2), (4, .int p4), (5, .long p5)] := hl
  unfold wp_X_pay at h
  refine mr_aload_n hx hb d_X_pay_0 rfl (lv_at hl 0 rfl) ?_
  refine lv_lload_n hx hb d_X_pay_1 rfl (lv_at hl 2 rfl) ?_
  obtain ⟨t_1, h⟩ := h
  refine ms_callq (va_runV (As := [.long p2]) (rest := []) ⟨hx, hb, hml, hown, hts⟩ (mc_X_find l D A σ h0 p2 _) ⟨(callB_of 1 hts gw_X_find rfl rfl rfl (hts _ wd_1) (hts _ wd_188) (by decide +kernel) ⟨by decide, by decide⟩), (hts _ wd_190), (hts _ wq_3)⟩ ⟨mw_blind, mg_recv hK.1 hH (ci := 0) rfl (cell_0 t_1), fun U hU hW => ⟨rfl, mw_pass hH hK hA hS hU hW, mn_warm hW hn, h⟩⟩ rfl rfl hl.1 rfl (lv_room (Nat.le_of_ble_eq_true rfl)) d_X_pay_2 ⟨by decide, by decide⟩) hS (fun r_2 σ_3 H locs h hH hK hS => ?_)
  refine mr_astore (lv' := [(7, va_rf r_2), (0, va_rf (some h0)), (1, .int p1), (2, .long p2), (4, .int p4), (5, .long p5)]) hx hb d_X_pay_5 hl (by decide) rfl (fun ls hl => ?_)
  refine mr_aload hx hb d_X_pay_7 (lv_at hl 0 rfl) ?_
  refine mr_ifnonnull (x := r_2) (tgt := 15) hx hb d_X_pay_9 (by decide) (fun c_4 => ?_) (fun c_4 => ?_)
  · have h := h.1 c_4
    refine mr_aload_n hx hb d_X_pay_15 rfl (lv_at hl 1 rfl) ?_
    refine lv_iload_n hx hb d_X_pay_16 rfl (lv_at hl 2 rfl) ?_
    obtain ⟨t_5, h⟩ := h
    refine ms_callq (va_runV (As := [.int p1]) (rest := []) ⟨hx, hb, hml, hown, hts⟩ (mc_X_officeAt l D A σ_3 h0 p1 _) ⟨(callB_of 1 hts gw_X_officeAt rfl rfl rfl (hts _ wd_1) (hts _ wd_114) (by decide +kernel) ⟨by decide, by decide⟩), (hts _ wd_116), (hts _ wq_0)⟩ ⟨mw_blind, mg_recv hK.1 hH (ci := 0) rfl (cell_0 t_5), fun U hU hW => ⟨rfl, mw_pass hH hK hA hS hU hW, mn_warm hW hn, h⟩⟩ rfl rfl hl.1 rfl (lv_room (Nat.le_of_ble_eq_true rfl)) d_X_pay_17 ⟨by decide, by decide⟩) hS (fun r_6 σ_7 H locs h hH hK hS => ?_)
    refine mr_astore (lv' := [(8, va_rf r_6), (7, va_rf r_2), (0, va_rf (some h0)), (1, .int p1), (2, .long p2), (4, .int p4), (5, .long p5)]) hx hb d_X_pay_20 hl (by decide) (by simp [List.filter, cat_rf, cat_i, cat_l, cat_r]) (fun ls hl => ?_)
    refine mr_aload hx hb d_X_pay_22 (lv_at hl 0 rfl) ?_
    refine mr_ifnull (x := r_6) (tgt := 34) hx hb d_X_pay_24 (by decide) (fun c_8 => ?_) (fun c_8 => ?_)
    · have h := h.1 c_8
      refine lv_bipush (v := (-102)) hx hb d_X_pay_34 (by decide) ?_
      exact W.iret (v := (-102)) hx hb hr (fun t ht hW => ⟨⟨(-102), σ_7, rfl, h, mw_pass hH hK hA hS ht hW⟩, hS.F ht⟩) hS.2.2 d_X_pay_36
    · have h := h.2 c_8
      refine lv_lload hx hb d_X_pay_27 (lv_at hl 6 rfl) ?_
      refine lv_lconst (v := 0) hx hb d_X_pay_29 rfl ?_
      refine W.lcmp hx hb d_X_pay_30 ?_
      refine lv_if_ge (tgt := 37) hx hb d_X_pay_31 (by decide) (fun c_9 => ?_) (fun c_9 => ?_)
      · have h := h.1 c_9
        refine mr_aload hx hb d_X_pay_37 (lv_at hl 1 rfl) ?_
        obtain ⟨a_10, e_11, t_12, h⟩ := h
        refine ms_getN (σ := σ_7) (r := r_2) (a := a_10) (fs := fl_5 σ_7 a_10) (ci := 5) (C := R_Order) (T := T_Order) (N := 11) hx hb hts in_5 hown hK hH e_11 (cell_5 t_12) rfl 6 (by decide) (va_Nw.use rfl (hn _ wd_153 rfl)) (fun _ h9 => h9) (v := .int (st_I σ_7 206 a_10)) rfl d_X_pay_39 ?_
        refine lv_if_ne (tgt := 66) hx hb d_X_pay_42 (by decide) (fun c_13 => ?_) (fun c_13 => ?_)
        · have h := h.1 c_13
          refine lv_bipush (v := (-103)) hx hb d_X_pay_66 (by decide) ?_
          exact W.iret (v := (-103)) hx hb hr (fun t ht hW => ⟨⟨(-103), σ_7, rfl, h, mw_pass hH hK hA hS ht hW⟩, hS.F ht⟩) hS.2.2 d_X_pay_68
        · have h := h.2 c_13
          refine lv_lload hx hb d_X_pay_45 (lv_at hl 6 rfl) ?_
          refine mr_aload hx hb d_X_pay_47 (lv_at hl 1 rfl) ?_
          refine ms_getN (σ := σ_7) (r := r_2) (a := a_10) (fs := fl_5 σ_7 a_10) (ci := 5) (C := R_Order) (T := T_Order) (N := 11) hx hb hts in_5 hown hK hH e_11 (cell_5 t_12) rfl 3 (by decide) (va_Nw.use rfl (hn _ wd_146 rfl)) (fun _ h9 => h9) (v := .long (st_J σ_7 203 a_10)) rfl d_X_pay_49 ?_
          refine W.lcmp hx hb d_X_pay_52 ?_
          refine lv_if_gt (tgt := 66) hx hb d_X_pay_53 (by decide) (fun c_14 => ?_) (fun c_14 => ?_)
          · have h := h.1 c_14
            refine lv_bipush (v := (-103)) hx hb d_X_pay_66 (by decide) ?_
            exact W.iret (v := (-103)) hx hb hr (fun t ht hW => ⟨⟨(-103), σ_7, rfl, h, mw_pass hH hK hA hS ht hW⟩, hS.F ht⟩) hS.2.2 d_X_pay_68
          · have h := h.2 c_14
            refine mr_aload hx hb d_X_pay_56 (lv_at hl 0 rfl) ?_
            refine mr_aload hx hb d_X_pay_58 (lv_at hl 1 rfl) ?_
            obtain ⟨a_15, e_16, t_17, h⟩ := h
            refine ms_calli (va_runV (As := [va_rf r_2]) (rest := []) ⟨hx, hb, hml, hown, hts⟩ (mc_Office_mayTouch l D A σ_7 a_15 r_2 _) ⟨(callB_of 1 hts gw_Office_mayTouch rfl rfl rfl (hts _ wd_2) (hts _ wd_193) (by decide +kernel) ⟨by decide, by decide⟩), (hts _ wd_194), (hts _ wd_195)⟩ ⟨mw_blind, mg_recv hK.1 hH (ci := 4) rfl (cell_4 t_17), fun U hU hW => ⟨rfl, mw_pass hH hK hA hS hU hW, mn_warm hW hn, h⟩⟩ rfl rfl hl.1 (by rw [e_16]; rfl) (lv_room (Nat.le_of_ble_eq_true rfl)) d_X_pay_60 ⟨by decide, by decide⟩) hS (fun r_18 σ_19 H locs h hH hK hS => ?_)
            refine lv_if_ne (tgt := 69) hx hb d_X_pay_63 (by decide) (fun c_20 => ?_) (fun c_20 => ?_)
            · have h := h.1 c_20
              refine mr_aload_n hx hb d_X_pay_69 rfl (lv_at hl 2 rfl) ?_
              refine mr_aload hx hb d_X_pay_70 (lv_at hl 0 rfl) ?_
              refine mr_aload hx hb d_X_pay_72 (lv_at hl 1 rfl) ?_
              refine lv_iload hx hb d_X_pay_74 (lv_at hl 5 rfl) ?_
              refine lv_lload hx hb d_X_pay_76 (lv_at hl 6 rfl) ?_
              refine lv_ldc2 (v := 86400) hx hb hown (hts _ wd_197) d_X_pay_78 ?_
              refine lv_ldiv hx hb d_X_pay_81 (by decide) ?_
              obtain ⟨t_21, h⟩ := h
              refine ms_calli (va_runV (As := [va_rf r_6, va_rf r_2, .int p4, .long (p5 / 86400)]) (rest := []) ⟨hx, hb, hml, hown, hts⟩ (mc_X_goThroughSteps l D A σ_19 h0 r_6 r_2 p4 ((p5 / 86400)) _) ⟨(callB_of 4 hts gw_X_goThroughSteps rfl rfl rfl (hts _ wd_1) (hts _ wd_198) (by decide +kernel) ⟨by decide, by decide⟩), (hts _ wd_200), (hts _ wq_4)⟩ ⟨mw_blind, mg_recv hK.1 hH (ci := 0) rfl (cell_0 t_21), fun U hU hW => ⟨rfl, mw_pass hH hK hA hS hU hW, mn_warm hW hn, h⟩⟩ rfl rfl hl.1 rfl (lv_room (Nat.le_of_ble_eq_true rfl)) d_X_pay_82 ⟨by decide, by decide⟩) hS (fun r_22 σ_23 H locs h hH hK hS => ?_)
              exact W.iret (v := r_22) hx hb hr (fun t ht hW => ⟨⟨r_22, σ_23, rfl, h, mw_pass hH hK hA hS ht hW⟩, hS.F ht⟩) hS.2.2 d_X_pay_85
            · have h := h.2 c_20
              refine lv_bipush (v := (-103)) hx hb d_X_pay_66 (by decide) ?_
              exact W.iret (v := (-103)) hx hb hr (fun t ht hW => ⟨⟨(-103), σ_19, rfl, h, mw_pass hH hK hA hS ht hW⟩, hS.F ht⟩) hS.2.2 d_X_pay_68
      · have h := h.2 c_9
        refine lv_bipush (v := (-102)) hx hb d_X_pay_34 (by decide) ?_
        exact W.iret (v := (-102)) hx hb hr (fun t ht hW => ⟨⟨(-102), σ_7, rfl, h, mw_pass hH hK hA hS ht hW⟩, hS.F ht⟩) hS.2.2 d_X_pay_36
  · have h := h.2 c_4
    refine lv_bipush (v := (-101)) hx hb d_X_pay_12 (by decide) ?_
    exact W.iret (v := (-101)) hx hb hr (fun t ht hW => ⟨⟨(-101), σ_3, rfl, h, mw_pass hH hK hA hS ht hW⟩, hS.F ht⟩) hS.2.2 d_X_pay_14
def wp_Office_tellToFail (σ : ST) (h0 : Nat) (p1 : Int32) (K : Int32 → ST → Prop) : Prop :=
  ∀ x_1 : Int32, x_1 = (1 <<< (p1 &&& 31)) → (st_tg σ h0 = some 4 ∧ ((((¬ ((((st_I σ 165 h0)) &&& x_1)) = 0) → ∀ σ_5 : ST, σ_5 = st_sI σ 165 h0 ((((st_I σ 165 h0)) ||| x_1)) → (K 0 σ_5)) ∧
  ((((((st_I σ 165 h0)) &&& x_1)) = 0) → ∀ σ_8 : ST, σ_8 = st_sI σ 165 h0 ((((st_I σ 165 h0)) ||| x_1)) → (K 1 σ_8)))))
abbrev ROOM_Office_tellToFail : Room := { frames := 0, cells := 0, slots := 0, locals := 0 }
set_option maxHeartbeats 4000000 in
set_option maxRecDepth 100000 in
theorem mc_Office_tellToFail (l : Launch) (D : va_G) (A : Nat → Prop) (σ : ST) (h0 : Nat) (p1 : Int32) (K : Int32 → ST → Prop) : Met l y_Office_tellToFail ws_Office_tellToFail ROOM_Office_tellToFail (va_Pc [.ref h0, .int p1] (fun U => mw D A σ U ∧ mn U ∧ wp_Office_tellToFail σ h0 p1 K)) (va_Qi K (mw D A) A) 0 0 A := by
  refine Met.ofW (cc := c_Office_tellToFail) (maxL := 4) (ret := (some .boolean)) (by decide) rfl ?_
  intro p e s m args below meth c s₁ B hml hv
  obtain ⟨rfl, ⟨hH, hK, hA⟩, hn, h⟩ := hv
  have hx := B.exec
  have hb := B.bytes
  have hr := B.returns
  have hts := atoms_spec (ws := ws_Office_tellToFail) B.pre
  have hown : s.vm.findClass R_Office = some m.cls := findClass_of_methodNamed B.named
  have hlocks := B.notSynchronized
  have hts : ∀ w ∈ lw_g, w.before ([.ref h0, .int p1] : List Value).toArray s = true := fun w hw => hts w (List.mem_cons_of_mem _ hw)
  have hS : va_S A s.heap s.heap [] := va_S.rf
  have hl := lv_entry ([.ref h0, .int p1]) (n := 4) (Nat.le_of_ble_eq_true rfl)
  rw [lg_entry_eq]
  generalize (lg_sl ([.ref h0, .int p1]) ++ List.replicate (4 - (lg_sl ([.ref h0, .int p1])).length) Slot.unset).toArray = ls at hl ⊢
  have hl : lv_has ls 4 [(0, va_rf (some h0)), (1, .int p1)] := hl
  unfold wp_Office_tellToFail at h
  refine lv_iconst (v := 1) hx hb d_Office_tellToFail_0 (by decide) ?_
  refine lv_iload_n hx hb d_Office_tellToFail_1 rfl (lv_at hl 1 rfl) ?_
  refine lv_ishl hx hb d_Office_tellToFail_2 ?_
  refine lv_topi (fun x_1 q_2 => ?_)
  have h := h x_1 q_2
  refine lv_istore_n (lv' := [(2, .int x_1), (0, va_rf (some h0)), (1, .int p1)]) hx hb d_Office_tellToFail_3 rfl hl (by decide) rfl (fun ls hl => ?_)
  refine mr_aload_n hx hb d_Office_tellToFail_4 rfl (lv_at hl 1 rfl) ?_
  obtain ⟨t_3, h⟩ := h
  refine ms_get (σ := σ) (r := some h0) (a := h0) (fs := fl_4 σ h0) (ci := 4) (C := R_Office) (T := T_Office) (N := 9) hx hb hts in_4 hown hK hH rfl (cell_4 t_3) rfl 5 (by decide) (hts _ wd_43) (fun _ h9 => h9) (v := .int (st_I σ 165 h0)) rfl d_Office_tellToFail_5 ?_
  refine lv_iload_n hx hb d_Office_tellToFail_8 rfl (lv_at hl 0 rfl) ?_
  refine lv_iand hx hb d_Office_tellToFail_9 ?_
  refine lv_if_ne (tgt := 17) hx hb d_Office_tellToFail_10 (by decide) (fun c_4 => ?_) (fun c_4 => ?_)
  · have h := h.1 c_4
    refine lv_iconst (v := 0) hx hb d_Office_tellToFail_17 (by decide) ?_
    refine lv_istore_n (lv' := [(3, .int 0), (2, .int x_1), (0, va_rf (some h0)), (1, .int p1)]) hx hb d_Office_tellToFail_18 rfl hl (by decide) rfl (fun ls hl => ?_)
    refine mr_aload_n hx hb d_Office_tellToFail_19 rfl (lv_at hl 2 rfl) ?_
    refine lv_dup hx hb d_Office_tellToFail_20 (cat_rf _) ?_
    refine ms_get (σ := σ) (r := some h0) (a := h0) (fs := fl_4 σ h0) (ci := 4) (C := R_Office) (T := T_Office) (N := 9) hx hb hts in_4 hown hK hH rfl (cell_4 t_3) rfl 5 (by decide) (hts _ wd_43) (fun _ h9 => h9) (v := .int (st_I σ 165 h0)) rfl d_Office_tellToFail_21 ?_
    refine lv_iload_n hx hb d_Office_tellToFail_24 rfl (lv_at hl 1 rfl) ?_
    refine lv_ior hx hb d_Office_tellToFail_25 ?_
    obtain ⟨σ_5, z_6⟩ : ∃ y : ST, y = st_sI σ 165 h0 ((((st_I σ 165 h0)) ||| x_1)) := ⟨_, rfl⟩
    have h := h σ_5 z_6
    refine ms_put (σ := σ) (r := some h0) (a := h0) (fs := fl_4 σ h0) (ci := 4) (C := R_Office) (T := T_Office) (N := 9) (v := .int (((st_I σ 165 h0)) ||| x_1)) (ty := .int) hx hb hts in_4 ty_Office ty_Office_ok nm_Office hown hK hH hS rfl (cell_4 t_3) rfl 5 (by decide) (hts _ wd_43) (fun _ h9 => h9) rfl (by decide +kernel) rfl rfl (Nat.le_of_ble_eq_true rfl) d_Office_tellToFail_26 (σ1 := σ_5) (by rw [z_6]; exact put_4_5 σ h0 ((((st_I σ 165 h0)) ||| x_1)) t_3) (by rw [z_6]; rfl) (by rw [z_6]; rfl) (fun H locs hH hK hS => ?_)
    have t_7 : st_tg σ_5 h0 = some 4 := by rw [z_6]; exact t_3
    refine lv_iload_n hx hb d_Office_tellToFail_29 rfl (lv_at hl 0 rfl) ?_
    exact W.zret (v := 0) hx hb hr rfl (fun t ht hW => ⟨⟨0, σ_5, rfl, h, mw_pass hH hK hA hS ht hW⟩, hS.F ht⟩) hS.2.2 d_Office_tellToFail_30
  · have h := h.2 c_4
    refine lv_iconst (v := 1) hx hb d_Office_tellToFail_13 (by decide) ?_
    refine lv_goto (tgt := 18) hx hb d_Office_tellToFail_14 (by decide) ?_
    refine lv_istore_n (lv' := [(3, .int 1), (2, .int x_1), (0, va_rf (some h0)), (1, .int p1)]) hx hb d_Office_tellToFail_18 rfl hl (by decide) rfl (fun ls hl => ?_)
    refine mr_aload_n hx hb d_Office_tellToFail_19 rfl (lv_at hl 2 rfl) ?_
    refine lv_dup hx hb d_Office_tellToFail_20 (cat_rf _) ?_
    refine ms_get (σ := σ) (r := some h0) (a := h0) (fs := fl_4 σ h0) (ci := 4) (C := R_Office) (T := T_Office) (N := 9) hx hb hts in_4 hown hK hH rfl (cell_4 t_3) rfl 5 (by decide) (hts _ wd_43) (fun _ h9 => h9) (v := .int (st_I σ 165 h0)) rfl d_Office_tellToFail_21 ?_
    refine lv_iload_n hx hb d_Office_tellToFail_24 rfl (lv_at hl 1 rfl) ?_
    refine lv_ior hx hb d_Office_tellToFail_25 ?_
    obtain ⟨σ_8, z_9⟩ : ∃ y : ST, y = st_sI σ 165 h0 ((((st_I σ 165 h0)) ||| x_1)) := ⟨_, rfl⟩
    have h := h σ_8 z_9
    refine ms_put (σ := σ) (r := some h0) (a := h0) (fs := fl_4 σ h0) (ci := 4) (C := R_Office) (T := T_Office) (N := 9) (v := .int (((st_I σ 165 h0)) ||| x_1)) (ty := .int) hx hb hts in_4 ty_Office ty_Office_ok nm_Office hown hK hH hS rfl (cell_4 t_3) rfl 5 (by decide) (hts _ wd_43) (fun _ h9 => h9) rfl (by decide +kernel) rfl rfl (Nat.le_of_ble_eq_true rfl) d_Office_tellToFail_26 (σ1 := σ_8) (by rw [z_9]; exact put_4_5 σ h0 ((((st_I σ 165 h0)) ||| x_1)) t_3) (by rw [z_9]; rfl) (by rw [z_9]; rfl) (fun H locs hH hK hS => ?_)
    have t_10 : st_tg σ_8 h0 = some 4 := by rw [z_9]; exact t_3
    refine lv_iload_n hx hb d_Office_tellToFail_29 rfl (lv_at hl 0 rfl) ?_
    exact W.zret (v := 1) hx hb hr rfl (fun t ht hW => ⟨⟨1, σ_8, rfl, h, mw_pass hH hK hA hS ht hW⟩, hS.F ht⟩) hS.2.2 d_Office_tellToFail_30
def wp_X_fails (σ : ST) (h0 : Nat) (p1 : Int32) (p2 : Int32) (K : Int32 → ST → Prop) : Prop :=
  st_tg σ h0 = some 0 ∧ (wp_X_officeAt σ h0 p1 (fun (r_2 : Option Nat) σ_3 =>
  (((r_2 = none) → K ((-102)) σ_3) ∧
  ((¬ r_2 = none) → (((p2 < (1 : Int32)) → K ((-102)) σ_3) ∧
  ((¬ p2 < (1 : Int32)) → (((p2 ≤ (5 : Int32)) → ∃ a_7 : Nat, r_2 = some a_7 ∧ st_tg σ_3 a_7 = some 4 ∧ (wp_Office_tellToFail σ_3 a_7 p2 (fun (r_10 : Int32) σ_11 =>
  (((r_10 = 0) → K 0 σ_11) ∧
  ((¬ r_10 = 0) → K 1 σ_11))))) ∧
  ((¬ p2 ≤ (5 : Int32)) → K ((-102)) σ_3))))))))
abbrev ROOM_X_fails : Room := { frames := 1, cells := 0, slots := 0, locals := 23 }
set_option maxHeartbeats 4000000 in
set_option maxRecDepth 100000 in
theorem mc_X_fails (l : Launch) (D : va_G) (A : Nat → Prop) (σ : ST) (h0 : Nat) (p1 : Int32) (p2 : Int32) (K : Int32 → ST → Prop) : Met l y_X_fails ws_X_fails ROOM_X_fails (va_Pc [.ref h0, .int p1, .int p2] (fun U => mw D A σ U ∧ mn U ∧ wp_X_fails σ h0 p1 p2 K)) (va_Qi K (mw D A) A) 0 0 A := by
  refine Met.ofW (cc := c_X_fails) (maxL := 4) (ret := (some .int)) (by decide) rfl ?_
  intro p e s m args below meth c s₁ B hml hv
  obtain ⟨rfl, ⟨hH, hK, hA⟩, hn, h⟩ := hv
  have hx := B.exec
  have hb := B.bytes
  have hr := B.returns
  have hts := atoms_spec (ws := ws_X_fails) B.pre
  have hown : s.vm.findClass R_X = some m.cls := findClass_of_methodNamed B.named
  have hlocks := B.notSynchronized
  have hts : ∀ w ∈ lw_g, w.before ([.ref h0, .int p1, .int p2] : List Value).toArray s = true := fun w hw => hts w (List.mem_cons_of_mem _ hw)
  have hS : va_S A s.heap s.heap [] := va_S.rf
  have hl := lv_entry ([.ref h0, .int p1, .int p2]) (n := 4) (Nat.le_of_ble_eq_true rfl)
  rw [lg_entry_eq]
  generalize (lg_sl ([.ref h0, .int p1, .int p2]) ++ List.replicate (4 - (lg_sl ([.ref h0, .int p1, .int p2])).length) Slot.unset).toArray = ls at hl ⊢
  have hl : lv_has ls 4 [(0, va_rf (some h0)), (1, .int p1), (2, .int p2)] := hl
  unfold wp_X_fails at h
  refine mr_aload_n hx hb d_X_fails_0 rfl (lv_at hl 0 rfl) ?_
  refine lv_iload_n hx hb d_X_fails_1 rfl (lv_at hl 1 rfl) ?_
  obtain ⟨t_1, h⟩ := h
  refine ms_callq (va_runV (As := [.int p1]) (rest := []) ⟨hx, hb, hml, hown, hts⟩ (mc_X_officeAt l D A σ h0 p1 _) ⟨(callB_of 1 hts gw_X_officeAt rfl rfl rfl (hts _ wd_1) (hts _ wd_114) (by decide +kernel) ⟨by decide, by decide⟩), (hts _ wd_116), (hts _ wq_0)⟩ ⟨mw_blind, mg_recv hK.1 hH (ci := 0) rfl (cell_0 t_1), fun U hU hW => ⟨rfl, mw_pass hH hK hA hS hU hW, mn_warm hW hn, h⟩⟩ rfl rfl hl.1 rfl (lv_room (Nat.le_of_ble_eq_true rfl)) d_X_fails_2 ⟨by decide, by decide⟩) hS (fun r_2 σ_3 H locs h hH hK hS => ?_)
  refine mr_astore_n (lv' := [(3, va_rf r_2), (0, va_rf (some h0)), (1, .int p1), (2, .int p2)]) hx hb d_X_fails_5 rfl hl (by decide) rfl (fun ls hl => ?_)
  refine mr_aload_n hx hb d_X_fails_6 rfl (lv_at hl 0 rfl) ?_
  refine mr_ifnull (x := r_2) (tgt := 20) hx hb d_X_fails_7 (by decide) (fun c_4 => ?_) (fun c_4 => ?_)
  · have h := h.1 c_4
    refine lv_bipush (v := (-102)) hx hb d_X_fails_20 (by decide) ?_
    exact W.iret (v := (-102)) hx hb hr (fun t ht hW => ⟨⟨(-102), σ_3, rfl, h, mw_pass hH hK hA hS ht hW⟩, hS.F ht⟩) hS.2.2 d_X_fails_22
  · have h := h.2 c_4
    refine lv_iload_n hx hb d_X_fails_10 rfl (lv_at hl 3 rfl) ?_
    refine lv_iconst (v := 1) hx hb d_X_fails_11 (by decide) ?_
    refine lv_icmp_lt (tgt := 20) hx hb d_X_fails_12 (by decide) (fun c_5 => ?_) (fun c_5 => ?_)
    · have h := h.1 c_5
      refine lv_bipush (v := (-102)) hx hb d_X_fails_20 (by decide) ?_
      exact W.iret (v := (-102)) hx hb hr (fun t ht hW => ⟨⟨(-102), σ_3, rfl, h, mw_pass hH hK hA hS ht hW⟩, hS.F ht⟩) hS.2.2 d_X_fails_22
    · have h := h.2 c_5
      refine lv_iload_n hx hb d_X_fails_15 rfl (lv_at hl 3 rfl) ?_
      refine lv_iconst (v := 5) hx hb d_X_fails_16 (by decide) ?_
      refine lv_icmp_le (tgt := 23) hx hb d_X_fails_17 (by decide) (fun c_6 => ?_) (fun c_6 => ?_)
      · have h := h.1 c_6
        refine mr_aload_n hx hb d_X_fails_23 rfl (lv_at hl 0 rfl) ?_
        refine lv_iload_n hx hb d_X_fails_24 rfl (lv_at hl 3 rfl) ?_
        obtain ⟨a_7, e_8, t_9, h⟩ := h
        refine ms_calli (va_runV (As := [.int p2]) (rest := []) ⟨hx, hb, hml, hown, hts⟩ (mc_Office_tellToFail l D A σ_3 a_7 p2 _) ⟨(callB_of 1 hts gw_Office_tellToFail rfl rfl rfl (hts _ wd_2) (hts _ wd_252) (by decide +kernel) ⟨by decide, by decide⟩), (hts _ wd_253), (hts _ wd_254)⟩ ⟨mw_blind, mg_recv hK.1 hH (ci := 4) rfl (cell_4 t_9), fun U hU hW => ⟨rfl, mw_pass hH hK hA hS hU hW, mn_warm hW hn, h⟩⟩ rfl rfl hl.1 (by rw [e_8]; rfl) (lv_room (Nat.le_of_ble_eq_true rfl)) d_X_fails_25 ⟨by decide, by decide⟩) hS (fun r_10 σ_11 H locs h hH hK hS => ?_)
        refine lv_if_eq (tgt := 35) hx hb d_X_fails_28 (by decide) (fun c_12 => ?_) (fun c_12 => ?_)
        · have h := h.1 c_12
          refine lv_iconst (v := 0) hx hb d_X_fails_35 (by decide) ?_
          exact W.iret (v := 0) hx hb hr (fun t ht hW => ⟨⟨0, σ_11, rfl, h, mw_pass hH hK hA hS ht hW⟩, hS.F ht⟩) hS.2.2 d_X_fails_36
        · have h := h.2 c_12
          refine lv_iconst (v := 1) hx hb d_X_fails_31 (by decide) ?_
          refine lv_goto (tgt := 36) hx hb d_X_fails_32 (by decide) ?_
          exact W.iret (v := 1) hx hb hr (fun t ht hW => ⟨⟨1, σ_11, rfl, h, mw_pass hH hK hA hS ht hW⟩, hS.F ht⟩) hS.2.2 d_X_fails_36
      · have h := h.2 c_6
        refine lv_bipush (v := (-102)) hx hb d_X_fails_20 (by decide) ?_
        exact W.iret (v := (-102)) hx hb hr (fun t ht hW => ⟨⟨(-102), σ_3, rfl, h, mw_pass hH hK hA hS ht hW⟩, hS.F ht⟩) hS.2.2 d_X_fails_22
