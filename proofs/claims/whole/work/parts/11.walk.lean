def wp_X_order (σ : ST) (h0 : Nat) (p1 : Int32) (p2 : Int64) (p4 : Int64) (p6 : Int32) (p7 : Int32) (K : Int32 → ST → Prop) : Prop :=
  st_tg σ h0 = some 0 ∧ (wp_X_officeAt σ h0 p1 (fun (r_2 : Option Nat) σ_3 =>
  st_tg σ_3 h0 = some 0 ∧ (wp_X_currencyAt σ_3 h0 p6 (fun (r_5 : Option Nat) σ_6 =>
  (((r_2 = none) → K ((-102)) σ_6) ∧
  ((¬ r_2 = none) → (((r_5 = none) → K ((-102)) σ_6) ∧
  ((¬ r_5 = none) → wp_X_isOrderable σ_6 p2 (fun (r_9 : Int32) σ_10 =>
  (((r_9 = 0) → K ((-102)) σ_10) ∧
  ((¬ r_9 = 0) → (((((lg_cmp p4 0)) < 0) → K ((-102)) σ_10) ∧
  ((¬ ((lg_cmp p4 0)) < 0) → (((0 ≤ p7) → st_tg σ_10 h0 = some 0 ∧ ((((((st_I σ_10 3 h0)) < (300 : Int32)) → ∃ a_16 : Nat, r_2 = some a_16 ∧ st_tg σ_10 a_16 = some 4 ∧ (∀ σ_19 : ST, σ_19 = st_sJ σ_10 161 a_16 ((((st_J σ_10 161 a_16)) + p2)) → (∃ a_23 : Nat, (st_R σ_19 9 h0) = some a_23 ∧ st_tg σ_19 a_23 = some 302 ∧ (vp_in 0 (st_ln σ_19 a_23) ∧ (vp_in 0 (st_ln σ_19 a_23) ∧ (∀ σ_28 : ST, σ_28 = st_uJ σ_19 a_23 (Int32.toNatClampNeg 0) ((((st_eJ σ_19 a_23 (Int32.toNatClampNeg 0))) + p2)) → (wp_X_addOrder σ_28 h0 r_2 p2 p4 r_5 p7 (fun (r_33 : Int32) σ_34 =>
  K r_33 σ_34)))))))) ∧
  ((¬ ((st_I σ_10 3 h0)) < (300 : Int32)) → K ((-104)) σ_10)))) ∧
  ((¬ 0 ≤ p7) → K ((-102)) σ_10)))))))))))))))
abbrev ROOM_X_order : Room := { frames := 3, cells := 1, slots := 11, locals := 68 }
set_option maxHeartbeats 4000000 in
set_option maxRecDepth 100000 in
theorem mc_X_order (l : Launch) (D : va_G) (A : Nat → Prop) (σ : ST) (h0 : Nat) (p1 : Int32) (p2 : Int64) (p4 : Int64) (p6 : Int32) (p7 : Int32) (K : Int32 → ST → Prop) : Met l y_X_order ws_X_order ROOM_X_order (va_Pc [.ref h0, .int p1, .long p2, .long p4, .int p6, .int p7] (fun U => mw D A σ U ∧ mn U ∧ wp_X_order σ h0 p1 p2 p4 p6 p7 K)) (va_Qi K (mw D A) A) 1 11 A := by
  refine Met.ofW (cc := c_X_order) (maxL := 10) (ret := (some .int)) (by decide) rfl ?_
  intro p e s m args below meth c s₁ B hml hv
  obtain ⟨rfl, ⟨hH, hK, hA⟩, hn, h⟩ := hv
  have hx := B.exec
  have hb := B.bytes
  have hr := B.returns
  have hts := atoms_spec (ws := ws_X_order) B.pre
  have hown : s.vm.findClass R_X = some m.cls := findClass_of_methodNamed B.named
  have hlocks := B.notSynchronized
  have hts : ∀ w ∈ lw_g, w.before ([.ref h0, .int p1, .long p2, .long p4, .int p6, .int p7] : List Value).toArray s = true := fun w hw => hts w (List.mem_cons_of_mem _ hw)
  have hS : va_S A s.heap s.heap [] := va_S.rf
  have hl := lv_entry ([.ref h0, .int p1, .long p2, .long p4, .int p6, .int p7]) (n := 10) (Nat.le_of_ble_eq_true rfl)
  rw [lg_entry_eq]
  generalize (lg_sl ([.ref h0, .int p1, .long p2, .long p4, .int p6, .int p7]) ++ List.replicate (10 - (lg_sl ([.ref h0, .int p1, .long p2, .long p4, .int p6, .int p7])).length) Slot.unset).toArray = ls at hl ⊢
  have hl : lv_has ls 10 [(0, va_rf (some h0)), (1, .int p1), (2, .long p2), (4, .long p4), (6, .int p6), (7, .int p7)] := hl
  unfold wp_X_order at h
  refine mr_aload_n hx hb d_X_order_0 rfl (lv_at hl 0 rfl) ?_
  refine lv_iload_n hx hb d_X_order_1 rfl (lv_at hl 1 rfl) ?_
  obtain ⟨t_1, h⟩ := h
  refine ms_callq (va_runV (As := [.int p1]) (rest := []) ⟨hx, hb, hml, hown, hts⟩ (mc_X_officeAt l D A σ h0 p1 _) ⟨(callB_of 1 hts gw_X_officeAt rfl rfl rfl (hts _ wd_1) (hts _ wd_114) (by decide +kernel) ⟨by decide, by decide⟩), (hts _ wd_116), (hts _ wq_0)⟩ ⟨mw_blind, mg_recv hK.1 hH (ci := 0) rfl (cell_0 t_1), fun U hU hW => ⟨rfl, mw_pass hH hK hA hS hU hW, mn_warm hW hn, h⟩⟩ rfl rfl hl.1 rfl (lv_room (Nat.le_of_ble_eq_true rfl)) d_X_order_2 ⟨by decide, by decide⟩) hS (fun r_2 σ_3 H locs h hH hK hS => ?_)
  refine mr_astore (lv' := [(8, va_rf r_2), (0, va_rf (some h0)), (1, .int p1), (2, .long p2), (4, .long p4), (6, .int p6), (7, .int p7)]) hx hb d_X_order_5 hl (by decide) rfl (fun ls hl => ?_)
  refine mr_aload_n hx hb d_X_order_7 rfl (lv_at hl 1 rfl) ?_
  refine lv_iload hx hb d_X_order_8 (lv_at hl 5 rfl) ?_
  obtain ⟨t_4, h⟩ := h
  refine ms_callq (va_runV (As := [.int p6]) (rest := []) ⟨hx, hb, hml, hown, hts⟩ (mc_X_currencyAt l D A σ_3 h0 p6 _) ⟨(callB_of 1 hts gw_X_currencyAt rfl rfl rfl (hts _ wd_1) (hts _ wd_118) (by decide +kernel) ⟨by decide, by decide⟩), (hts _ wd_120), (hts _ wq_1)⟩ ⟨mw_blind, mg_recv hK.1 hH (ci := 0) rfl (cell_0 t_4), fun U hU hW => ⟨rfl, mw_pass hH hK hA hS hU hW, mn_warm hW hn, h⟩⟩ rfl rfl hl.1 rfl (lv_room (Nat.le_of_ble_eq_true rfl)) d_X_order_10 ⟨by decide, by decide⟩) hS (fun r_5 σ_6 H locs h hH hK hS => ?_)
  refine mr_astore (lv' := [(9, va_rf r_5), (8, va_rf r_2), (0, va_rf (some h0)), (1, .int p1), (2, .long p2), (4, .long p4), (6, .int p6), (7, .int p7)]) hx hb d_X_order_13 hl (by decide) (by simp [List.filter, cat_rf, cat_i, cat_l, cat_r]) (fun ls hl => ?_)
  refine mr_aload hx hb d_X_order_15 (lv_at hl 1 rfl) ?_
  refine mr_ifnull (x := r_2) (tgt := 44) hx hb d_X_order_17 (by decide) (fun c_7 => ?_) (fun c_7 => ?_)
  · have h := h.1 c_7
    refine lv_bipush (v := (-102)) hx hb d_X_order_44 (by decide) ?_
    refine W.widen (k := 1) (n := 11) (by decide) (by decide) ?_
    exact W.iret (v := (-102)) hx hb hr (fun t ht hW => ⟨⟨(-102), σ_6, rfl, h, mw_pass hH hK hA hS ht hW⟩, hS.F ht⟩) hS.2.2 d_X_order_46
  · have h := h.2 c_7
    refine mr_aload hx hb d_X_order_20 (lv_at hl 0 rfl) ?_
    refine mr_ifnull (x := r_5) (tgt := 44) hx hb d_X_order_22 (by decide) (fun c_8 => ?_) (fun c_8 => ?_)
    · have h := h.1 c_8
      refine lv_bipush (v := (-102)) hx hb d_X_order_44 (by decide) ?_
      refine W.widen (k := 1) (n := 11) (by decide) (by decide) ?_
      exact W.iret (v := (-102)) hx hb hr (fun t ht hW => ⟨⟨(-102), σ_6, rfl, h, mw_pass hH hK hA hS ht hW⟩, hS.F ht⟩) hS.2.2 d_X_order_46
    · have h := h.2 c_8
      refine lv_lload_n hx hb d_X_order_25 rfl (lv_at hl 4 rfl) ?_
      refine ms_calli (va_runS (As := [.long p2]) (rest := []) ⟨hx, hb, hml, hown, hts⟩ (mc_X_isOrderable l D A σ_6 p2 _) ⟨(callB_of 1 hts gw_X_isOrderable rfl rfl rfl (hts _ wd_1) (hts _ wd_122) (by decide +kernel) ⟨by decide, by decide⟩), (hts _ wd_123)⟩ ⟨mw_blind, fun U hU hW => ⟨rfl, mw_pass hH hK hA hS hU hW, mn_warm hW hn, h⟩⟩ rfl rfl hl.1 rfl (lv_room (Nat.le_of_ble_eq_true rfl)) d_X_order_26 ⟨by decide, by decide⟩) hS (fun r_9 σ_10 H locs h hH hK hS => ?_)
      refine lv_if_eq (tgt := 44) hx hb d_X_order_29 (by decide) (fun c_11 => ?_) (fun c_11 => ?_)
      · have h := h.1 c_11
        refine lv_bipush (v := (-102)) hx hb d_X_order_44 (by decide) ?_
        refine W.widen (k := 1) (n := 11) (by decide) (by decide) ?_
        exact W.iret (v := (-102)) hx hb hr (fun t ht hW => ⟨⟨(-102), σ_10, rfl, h, mw_pass hH hK hA hS ht hW⟩, hS.F ht⟩) hS.2.2 d_X_order_46
      · have h := h.2 c_11
        refine lv_lload hx hb d_X_order_32 (lv_at hl 5 rfl) ?_
        refine lv_lconst (v := 0) hx hb d_X_order_34 rfl ?_
        refine W.lcmp hx hb d_X_order_35 ?_
        refine lv_if_lt (tgt := 44) hx hb d_X_order_36 (by decide) (fun c_12 => ?_) (fun c_12 => ?_)
        · have h := h.1 c_12
          refine lv_bipush (v := (-102)) hx hb d_X_order_44 (by decide) ?_
          refine W.widen (k := 1) (n := 11) (by decide) (by decide) ?_
          exact W.iret (v := (-102)) hx hb hr (fun t ht hW => ⟨⟨(-102), σ_10, rfl, h, mw_pass hH hK hA hS ht hW⟩, hS.F ht⟩) hS.2.2 d_X_order_46
        · have h := h.2 c_12
          refine lv_iload hx hb d_X_order_39 (lv_at hl 7 rfl) ?_
          refine lv_if_ge (tgt := 47) hx hb d_X_order_41 (by decide) (fun c_13 => ?_) (fun c_13 => ?_)
          · have h := h.1 c_13
            refine mr_aload_n hx hb d_X_order_47 rfl (lv_at hl 2 rfl) ?_
            obtain ⟨t_14, h⟩ := h
            refine ms_get (σ := σ_10) (r := some h0) (a := h0) (fs := fl_0 σ_10 h0) (ci := 0) (C := R_X) (T := T_X) (N := 10) hx hb hts in_0 hown hK hH rfl (cell_0 t_14) rfl 3 (by decide) (hts _ wd_82) (fun _ h9 => h9) (v := .int (st_I σ_10 3 h0)) rfl d_X_order_48 ?_
            refine lv_sipush (v := 300) hx hb d_X_order_51 (by decide) ?_
            refine lv_icmp_lt (tgt := 60) hx hb d_X_order_54 (by decide) (fun c_15 => ?_) (fun c_15 => ?_)
            · have h := h.1 c_15
              refine mr_aload hx hb d_X_order_60 (lv_at hl 1 rfl) ?_
              refine lv_dup hx hb d_X_order_62 (cat_rf _) ?_
              obtain ⟨a_16, e_17, t_18, h⟩ := h
              refine ms_getN (σ := σ_10) (r := r_2) (a := a_16) (fs := fl_4 σ_10 a_16) (ci := 4) (C := R_Office) (T := T_Office) (N := 9) hx hb hts in_4 hown hK hH e_17 (cell_4 t_18) rfl 1 (by decide) (va_Nw.use rfl (hn _ wd_35 rfl)) (fun _ h9 => h9) (v := .long (st_J σ_10 161 a_16)) rfl d_X_order_63 ?_
              refine lv_lload_n hx hb d_X_order_66 rfl (lv_at hl 4 rfl) ?_
              refine lv_ladd hx hb d_X_order_67 ?_
              obtain ⟨σ_19, z_20⟩ : ∃ y : ST, y = st_sJ σ_10 161 a_16 ((((st_J σ_10 161 a_16)) + p2)) := ⟨_, rfl⟩
              have h := h σ_19 z_20
              refine ms_putN (σ := σ_10) (r := r_2) (a := a_16) (fs := fl_4 σ_10 a_16) (ci := 4) (C := R_Office) (T := T_Office) (N := 9) (v := .long (((st_J σ_10 161 a_16)) + p2)) (ty := .long) hx hb hts in_4 ty_Office ty_Office_ok nm_Office hown hK hH hS e_17 (cell_4 t_18) rfl 1 (by decide) (va_Nw.use rfl (hn _ wd_35 rfl)) (fun _ h9 => h9) rfl (by decide +kernel) rfl rfl (Nat.le_of_ble_eq_true rfl) d_X_order_68 (σ1 := σ_19) (by rw [z_20]; exact put_4_1 σ_10 a_16 ((((st_J σ_10 161 a_16)) + p2)) t_18) (by rw [z_20]; rfl) (by rw [z_20]; rfl) (fun H locs hH hK hS => ?_)
              have t_21 : st_tg σ_19 h0 = some 0 := by rw [z_20]; exact t_14
              have t_22 : st_tg σ_19 a_16 = some 4 := by rw [z_20]; exact t_18
              refine mr_aload_n hx hb d_X_order_71 rfl (lv_at hl 2 rfl) ?_
              refine ms_get (σ := σ_19) (r := some h0) (a := h0) (fs := fl_0 σ_19 h0) (ci := 0) (C := R_X) (T := T_X) (N := 10) hx hb hts in_0 hown hK hH rfl (cell_0 t_21) rfl 9 (by decide) (hts _ wd_88) (fun _ h9 => h9) (v := va_rf (st_R σ_19 9 h0)) rfl d_X_order_72 ?_
              refine lv_iconst (v := 0) hx hb d_X_order_75 (by decide) ?_
              refine lv_dup2_11 hx hb d_X_order_76 rfl (cat_rf _) ?_
              obtain ⟨a_23, e_24, t_25, h⟩ := h
              obtain ⟨b_26, h⟩ := h
              refine ms_lald (σ := σ_19) (r := (st_R σ_19 9 h0)) (a := a_23) hx hb hK hH e_24 t_25 rfl (cell_302 t_25) b_26 d_X_order_77 ?_
              refine lv_lload_n hx hb d_X_order_78 rfl (lv_at hl 4 rfl) ?_
              refine lv_ladd hx hb d_X_order_79 ?_
              obtain ⟨b_27, h⟩ := h
              obtain ⟨σ_28, z_29⟩ : ∃ y : ST, y = st_uJ σ_19 a_23 (Int32.toNatClampNeg 0) ((((st_eJ σ_19 a_23 (Int32.toNatClampNeg 0))) + p2)) := ⟨_, rfl⟩
              have h := h σ_28 z_29
              refine ms_last (σ := σ_19) (r := (st_R σ_19 9 h0)) (a := a_23) (x := (((st_eJ σ_19 a_23 (Int32.toNatClampNeg 0))) + p2)) hx hb hK hH hS e_24 t_25 rfl (cell_302 t_25)  b_27 d_X_order_80 (σ1 := σ_28) (by rw [z_29]; exact uput_302 σ_19 a_23 _ ((((st_eJ σ_19 a_23 (Int32.toNatClampNeg 0))) + p2)) t_25) (by rw [z_29]; rfl) (by rw [z_29]; rfl) (fun H locs hH hK hS => ?_)
              have t_30 : st_tg σ_28 h0 = some 0 := by rw [z_29]; exact t_21
              have t_31 : st_tg σ_28 a_16 = some 4 := by rw [z_29]; exact t_22
              have t_32 : st_tg σ_28 a_23 = some 302 := by rw [z_29]; exact t_25
              refine mr_aload_n hx hb d_X_order_81 rfl (lv_at hl 2 rfl) ?_
              refine mr_aload hx hb d_X_order_82 (lv_at hl 1 rfl) ?_
              refine lv_lload_n hx hb d_X_order_84 rfl (lv_at hl 4 rfl) ?_
              refine lv_lload hx hb d_X_order_85 (lv_at hl 5 rfl) ?_
              refine mr_aload hx hb d_X_order_87 (lv_at hl 0 rfl) ?_
              refine lv_iload hx hb d_X_order_89 (lv_at hl 7 rfl) ?_
              refine ms_calli (va_runV (As := [va_rf r_2, .long p2, .long p4, va_rf r_5, .int p7]) (rest := []) ⟨hx, hb, hml, hown, hts⟩ (mc_X_addOrder l D A σ_28 h0 r_2 p2 p4 r_5 p7 _) ⟨(callB_of 5 hts gw_X_addOrder rfl rfl rfl (hts _ wd_1) (hts _ wd_126) (by decide +kernel) ⟨by decide, by decide⟩), (hts _ wd_128), (hts _ wq_2)⟩ ⟨mw_blind, mg_recv hK.1 hH (ci := 0) rfl (cell_0 t_30), fun U hU hW => ⟨rfl, mw_pass hH hK hA hS hU hW, mn_warm hW hn, h⟩⟩ rfl rfl hl.1 rfl (lv_room (Nat.le_of_ble_eq_true rfl)) d_X_order_91 ⟨by decide, by decide⟩) hS (fun r_33 σ_34 H locs h hH hK hS => ?_)
              refine W.cs (cells' := 1) (slots' := 11) rfl rfl ?_
              exact W.iret (v := r_33) hx hb hr (fun t ht hW => ⟨⟨r_33, σ_34, rfl, h, mw_pass hH hK hA hS ht hW⟩, hS.F ht⟩) hS.2.2 d_X_order_94
            · have h := h.2 c_15
              refine lv_bipush (v := (-104)) hx hb d_X_order_57 (by decide) ?_
              refine W.widen (k := 1) (n := 11) (by decide) (by decide) ?_
              exact W.iret (v := (-104)) hx hb hr (fun t ht hW => ⟨⟨(-104), σ_10, rfl, h, mw_pass hH hK hA hS ht hW⟩, hS.F ht⟩) hS.2.2 d_X_order_59
          · have h := h.2 c_13
            refine lv_bipush (v := (-102)) hx hb d_X_order_44 (by decide) ?_
            refine W.widen (k := 1) (n := 11) (by decide) (by decide) ?_
            exact W.iret (v := (-102)) hx hb hr (fun t ht hW => ⟨⟨(-102), σ_10, rfl, h, mw_pass hH hK hA hS ht hW⟩, hS.F ht⟩) hS.2.2 d_X_order_46
def wp_X_find (σ : ST) (h0 : Nat) (p1 : Int64) (K : Option Nat → ST → Prop) : Prop :=
  ∀ x_1 : Int64, x_1 = (p1 / 10) → ((((((lg_cmp x_1 1)) < 0) → K none σ) ∧
  ((¬ ((lg_cmp x_1 1)) < 0) → st_tg σ h0 = some 0 ∧ ((((((lg_cmp x_1 ((Int32.toInt64 ((st_I σ 3 h0)))))) ≤ 0) → ∃ a_6 : Nat, (st_R σ 2 h0) = some a_6 ∧ st_tg σ a_6 = some 315 ∧ (vp_in ((((Int64.toInt32 x_1)) - 1)) (st_ln σ a_6) ∧ ((((((st_eR σ a_6 (Int32.toNatClampNeg ((((Int64.toInt32 x_1)) - 1))))) = none) → K none σ) ∧
  ((¬ ((st_eR σ a_6 (Int32.toNatClampNeg ((((Int64.toInt32 x_1)) - 1))))) = none) → ∃ a_11 : Nat, (st_eR σ a_6 (Int32.toNatClampNeg ((((Int64.toInt32 x_1)) - 1)))) = some a_11 ∧ st_tg σ a_11 = some 5 ∧ ((((((lg_cmp ((Int32.toInt64 ((st_I σ 200 a_11)))) p1)) = 0) → K ((st_eR σ a_6 (Int32.toNatClampNeg ((((Int64.toInt32 x_1)) - 1))))) σ) ∧
  ((¬ ((lg_cmp ((Int32.toInt64 ((st_I σ 200 a_11)))) p1)) = 0) → K none σ)))))))) ∧
  ((¬ ((lg_cmp x_1 ((Int32.toInt64 ((st_I σ 3 h0)))))) ≤ 0) → K none σ))))))
abbrev ROOM_X_find : Room := { frames := 0, cells := 0, slots := 0, locals := 0 }
set_option maxHeartbeats 4000000 in
set_option maxRecDepth 100000 in
theorem mc_X_find (l : Launch) (D : va_G) (A : Nat → Prop) (σ : ST) (h0 : Nat) (p1 : Int64) (K : Option Nat → ST → Prop) : Met l y_X_find ws_X_find ROOM_X_find (va_Pc [.ref h0, .long p1] (fun U => mw D A σ U ∧ mn U ∧ wp_X_find σ h0 p1 K)) (va_Qq K (mw D A) A) 0 0 A := by
  refine Met.ofW (cc := c_X_find) (maxL := 6) (ret := (some (.object "OrderMoney$Order"))) (by decide) rfl ?_
  intro p e s m args below meth c s₁ B hml hv
  obtain ⟨rfl, ⟨hH, hK, hA⟩, hn, h⟩ := hv
  have hx := B.exec
  have hb := B.bytes
  have hr := B.returns
  have hts := atoms_spec (ws := ws_X_find) B.pre
  have hown : s.vm.findClass R_X = some m.cls := findClass_of_methodNamed B.named
  have hlocks := B.notSynchronized
  have hts : ∀ w ∈ lw_g, w.before ([.ref h0, .long p1] : List Value).toArray s = true := fun w hw => hts w (List.mem_cons_of_mem _ hw)
  have hS : va_S A s.heap s.heap [] := va_S.rf
  have hl := lv_entry ([.ref h0, .long p1]) (n := 6) (Nat.le_of_ble_eq_true rfl)
  rw [lg_entry_eq]
  generalize (lg_sl ([.ref h0, .long p1]) ++ List.replicate (6 - (lg_sl ([.ref h0, .long p1])).length) Slot.unset).toArray = ls at hl ⊢
  have hl : lv_has ls 6 [(0, va_rf (some h0)), (1, .long p1)] := hl
  unfold wp_X_find at h
  refine lv_lload_n hx hb d_X_find_0 rfl (lv_at hl 1 rfl) ?_
  refine lv_ldc2 (v := 10) hx hb hown (hts _ wd_192) d_X_find_1 ?_
  refine lv_ldiv hx hb d_X_find_4 (by decide) ?_
  refine lv_topl (fun x_1 q_2 => ?_)
  have h := h x_1 q_2
  refine lv_lstore_n (lv' := [(3, .long x_1), (0, va_rf (some h0)), (1, .long p1)]) hx hb d_X_find_5 rfl hl (by decide) rfl (fun ls hl => ?_)
  refine lv_lload_n hx hb d_X_find_6 rfl (lv_at hl 0 rfl) ?_
  refine lv_lconst (v := 1) hx hb d_X_find_7 rfl ?_
  refine W.lcmp hx hb d_X_find_8 ?_
  refine lv_if_lt (tgt := 22) hx hb d_X_find_9 (by decide) (fun c_3 => ?_) (fun c_3 => ?_)
  · have h := h.1 c_3
    refine mr_null hx hb d_X_find_22 ?_
    exact W.aret (v := va_rf none) hx hb hr (Or.inl ⟨_, rfl⟩) (va_rf_or _) (fun t ht hW => ⟨⟨none, σ, rfl, h, mw_pass hH hK hA hS ht hW⟩, hS.F ht⟩) hS.2.2 d_X_find_23
  · have h := h.2 c_3
    refine lv_lload_n hx hb d_X_find_12 rfl (lv_at hl 0 rfl) ?_
    refine mr_aload_n hx hb d_X_find_13 rfl (lv_at hl 1 rfl) ?_
    obtain ⟨t_4, h⟩ := h
    refine ms_get (σ := σ) (r := some h0) (a := h0) (fs := fl_0 σ h0) (ci := 0) (C := R_X) (T := T_X) (N := 10) hx hb hts in_0 hown hK hH rfl (cell_0 t_4) rfl 3 (by decide) (hts _ wd_82) (fun _ h9 => h9) (v := .int (st_I σ 3 h0)) rfl d_X_find_14 ?_
    refine lv_i2l hx hb d_X_find_17 rfl ?_
    refine W.lcmp hx hb d_X_find_18 ?_
    refine lv_if_le (tgt := 24) hx hb d_X_find_19 (by decide) (fun c_5 => ?_) (fun c_5 => ?_)
    · have h := h.1 c_5
      refine mr_aload_n hx hb d_X_find_24 rfl (lv_at hl 1 rfl) ?_
      refine ms_get (σ := σ) (r := some h0) (a := h0) (fs := fl_0 σ h0) (ci := 0) (C := R_X) (T := T_X) (N := 10) hx hb hts in_0 hown hK hH rfl (cell_0 t_4) rfl 2 (by decide) (hts _ wd_81) (fun _ h9 => h9) (v := va_rf (st_R σ 2 h0)) rfl d_X_find_25 ?_
      refine lv_lload_n hx hb d_X_find_28 rfl (lv_at hl 0 rfl) ?_
      refine lv_l2i hx hb d_X_find_29 rfl ?_
      refine lv_iconst (v := 1) hx hb d_X_find_30 (by decide) ?_
      refine lv_isub hx hb d_X_find_31 ?_
      obtain ⟨a_6, e_7, t_8, h⟩ := h
      obtain ⟨b_9, h⟩ := h
      refine ms_aald (σ := σ) (r := (st_R σ 2 h0)) (a := a_6) hx hb hK hH e_7 t_8 rfl (cell_315 t_8) b_9 d_X_find_32 ?_
      refine mr_astore (lv' := [(5, va_rf (st_eR σ a_6 (Int32.toNatClampNeg ((((Int64.toInt32 x_1)) - 1))))), (3, .long x_1), (0, va_rf (some h0)), (1, .long p1)]) hx hb d_X_find_33 hl (by decide) rfl (fun ls hl => ?_)
      refine mr_aload hx hb d_X_find_35 (lv_at hl 0 rfl) ?_
      refine mr_ifnull (x := (st_eR σ a_6 (Int32.toNatClampNeg ((((Int64.toInt32 x_1)) - 1))))) (tgt := 51) hx hb d_X_find_37 (by decide) (fun c_10 => ?_) (fun c_10 => ?_)
      · have h := h.1 c_10
        refine mr_null hx hb d_X_find_51 ?_
        refine lv_goto (tgt := 57) hx hb d_X_find_52 (by decide) ?_
        exact W.aret (v := va_rf none) hx hb hr (Or.inl ⟨_, rfl⟩) (va_rf_or _) (fun t ht hW => ⟨⟨none, σ, rfl, h, mw_pass hH hK hA hS ht hW⟩, hS.F ht⟩) hS.2.2 d_X_find_57
      · have h := h.2 c_10
        refine mr_aload hx hb d_X_find_40 (lv_at hl 0 rfl) ?_
        obtain ⟨a_11, e_12, t_13, h⟩ := h
        refine ms_getN (σ := σ) (r := (st_eR σ a_6 (Int32.toNatClampNeg ((((Int64.toInt32 x_1)) - 1))))) (a := a_11) (fs := fl_5 σ a_11) (ci := 5) (C := R_Order) (T := T_Order) (N := 11) hx hb hts in_5 hown hK hH e_12 (cell_5 t_13) rfl 0 (by decide) (va_Nw.use rfl (hn _ wd_140 rfl)) (fun _ h9 => h9) (v := .int (st_I σ 200 a_11)) rfl d_X_find_42 ?_
        refine lv_i2l hx hb d_X_find_45 rfl ?_
        refine lv_lload_n hx hb d_X_find_46 rfl (lv_at hl 3 rfl) ?_
        refine W.lcmp hx hb d_X_find_47 ?_
        refine lv_if_eq (tgt := 55) hx hb d_X_find_48 (by decide) (fun c_14 => ?_) (fun c_14 => ?_)
        · have h := h.1 c_14
          refine mr_aload hx hb d_X_find_55 (lv_at hl 0 rfl) ?_
          exact W.aret (v := va_rf (st_eR σ a_6 (Int32.toNatClampNeg ((((Int64.toInt32 x_1)) - 1))))) hx hb hr (Or.inl ⟨_, rfl⟩) (va_rf_or _) (fun t ht hW => ⟨⟨(st_eR σ a_6 (Int32.toNatClampNeg ((((Int64.toInt32 x_1)) - 1)))), σ, rfl, h, mw_pass hH hK hA hS ht hW⟩, hS.F ht⟩) hS.2.2 d_X_find_57
        · have h := h.2 c_14
          refine mr_null hx hb d_X_find_51 ?_
          refine lv_goto (tgt := 57) hx hb d_X_find_52 (by decide) ?_
          exact W.aret (v := va_rf none) hx hb hr (Or.inl ⟨_, rfl⟩) (va_rf_or _) (fun t ht hW => ⟨⟨none, σ, rfl, h, mw_pass hH hK hA hS ht hW⟩, hS.F ht⟩) hS.2.2 d_X_find_57
    · have h := h.2 c_5
      refine mr_null hx hb d_X_find_22 ?_
      exact W.aret (v := va_rf none) hx hb hr (Or.inl ⟨_, rfl⟩) (va_rf_or _) (fun t ht hW => ⟨⟨none, σ, rfl, h, mw_pass hH hK hA hS ht hW⟩, hS.F ht⟩) hS.2.2 d_X_find_23
def wp_Office_mayTouch (σ : ST) (h0 : Nat) (p1 : Option Nat) (K : Int32 → ST → Prop) : Prop :=
  ∃ a_1 : Nat, p1 = some a_1 ∧ st_tg σ a_1 = some 5 ∧ ((((((st_R σ 208 a_1)) = (some h0)) → K 1 σ) ∧
  ((¬ ((st_R σ 208 a_1)) = (some h0)) → (((¬ ((st_R σ 208 a_1)) = none) → K 0 σ) ∧
  ((((st_R σ 208 a_1)) = none) → st_tg σ h0 = some 4 ∧ ((((¬ ((st_I σ 163 h0)) = 0) → K 0 σ) ∧
  ((((st_I σ 163 h0)) = 0) → K 1 σ))))))))
abbrev ROOM_Office_mayTouch : Room := { frames := 0, cells := 0, slots := 0, locals := 0 }
set_option maxHeartbeats 4000000 in
set_option maxRecDepth 100000 in
theorem mc_Office_mayTouch (l : Launch) (D : va_G) (A : Nat → Prop) (σ : ST) (h0 : Nat) (p1 : Option Nat) (K : Int32 → ST → Prop) : Met l y_Office_mayTouch ws_Office_mayTouch ROOM_Office_mayTouch (va_Pc [.ref h0, va_rf p1] (fun U => mw D A σ U ∧ mn U ∧ wp_Office_mayTouch σ h0 p1 K)) (va_Qi K (mw D A) A) 0 0 A := by
  refine Met.ofW (cc := c_Office_mayTouch) (maxL := 2) (ret := (some .boolean)) (by decide) rfl ?_
  intro p e s m args below meth c s₁ B hml hv
  obtain ⟨rfl, ⟨hH, hK, hA⟩, hn, h⟩ := hv
  have hx := B.exec
  have hb := B.bytes
  have hr := B.returns
  have hts := atoms_spec (ws := ws_Office_mayTouch) B.pre
  have hown : s.vm.findClass R_Office = some m.cls := findClass_of_methodNamed B.named
  have hlocks := B.notSynchronized
  have hts : ∀ w ∈ lw_g, w.before ([.ref h0, va_rf p1] : List Value).toArray s = true := fun w hw => hts w (List.mem_cons_of_mem _ hw)
  have hS : va_S A s.heap s.heap [] := va_S.rf
  have hl := lv_entry ([.ref h0, va_rf p1]) (n := 2) (by simp [lg_sl, cat_rf, cat_i, cat_l, cat_r])
  rw [lg_entry_eq]
  generalize (lg_sl ([.ref h0, va_rf p1]) ++ List.replicate (2 - (lg_sl ([.ref h0, va_rf p1])).length) Slot.unset).toArray = ls at hl ⊢
  have hle : lv_args 0 [.ref h0, va_rf p1] = [(0, .ref h0), (1, va_rf p1)] := by simp [lv_args, cat_rf, cat_i, cat_l, cat_r]
  rw [hle] at hl
  have hl : lv_has ls 2 [(0, va_rf (some h0)), (1, va_rf p1)] := hl
  unfold wp_Office_mayTouch at h
  refine mr_aload_n hx hb d_Office_mayTouch_0 rfl (lv_at hl 1 rfl) ?_
  obtain ⟨a_1, e_2, t_3, h⟩ := h
  refine ms_getN (σ := σ) (r := p1) (a := a_1) (fs := fl_5 σ a_1) (ci := 5) (C := R_Order) (T := T_Order) (N := 11) hx hb hts in_5 hown hK hH e_2 (cell_5 t_3) rfl 8 (by decide) (va_Nw.use rfl (hn _ wd_156 rfl)) (fun _ h9 => h9) (v := va_rf (st_R σ 208 a_1)) rfl d_Office_mayTouch_1 ?_
  refine mr_aload_n hx hb d_Office_mayTouch_4 rfl (lv_at hl 0 rfl) ?_
  refine lv_acmp_eq (rx := (st_R σ 208 a_1)) (ry := some h0) (tgt := 22) hx hb d_Office_mayTouch_5 (by decide) (fun c_4 => ?_) (fun c_4 => ?_)
  · have h := h.1 c_4
    refine lv_iconst (v := 1) hx hb d_Office_mayTouch_22 (by decide) ?_
    refine lv_goto (tgt := 27) hx hb d_Office_mayTouch_23 (by decide) ?_
    exact W.zret (v := 1) hx hb hr rfl (fun t ht hW => ⟨⟨1, σ, rfl, h, mw_pass hH hK hA hS ht hW⟩, hS.F ht⟩) hS.2.2 d_Office_mayTouch_27
  · have h := h.2 c_4
    refine mr_aload_n hx hb d_Office_mayTouch_8 rfl (lv_at hl 1 rfl) ?_
    refine ms_getN (σ := σ) (r := p1) (a := a_1) (fs := fl_5 σ a_1) (ci := 5) (C := R_Order) (T := T_Order) (N := 11) hx hb hts in_5 hown hK hH e_2 (cell_5 t_3) rfl 8 (by decide) (va_Nw.use rfl (hn _ wd_156 rfl)) (fun _ h9 => h9) (v := va_rf (st_R σ 208 a_1)) rfl d_Office_mayTouch_9 ?_
    refine mr_ifnonnull (x := (st_R σ 208 a_1)) (tgt := 26) hx hb d_Office_mayTouch_12 (by decide) (fun c_5 => ?_) (fun c_5 => ?_)
    · have h := h.1 c_5
      refine lv_iconst (v := 0) hx hb d_Office_mayTouch_26 (by decide) ?_
      exact W.zret (v := 0) hx hb hr rfl (fun t ht hW => ⟨⟨0, σ, rfl, h, mw_pass hH hK hA hS ht hW⟩, hS.F ht⟩) hS.2.2 d_Office_mayTouch_27
    · have h := h.2 c_5
      refine mr_aload_n hx hb d_Office_mayTouch_15 rfl (lv_at hl 0 rfl) ?_
      obtain ⟨t_6, h⟩ := h
      refine ms_get (σ := σ) (r := some h0) (a := h0) (fs := fl_4 σ h0) (ci := 4) (C := R_Office) (T := T_Office) (N := 9) hx hb hts in_4 hown hK hH rfl (cell_4 t_6) rfl 3 (by decide) (hts _ wd_39) (fun _ h9 => h9) (v := .int (st_I σ 163 h0)) rfl d_Office_mayTouch_16 ?_
      refine lv_if_ne (tgt := 26) hx hb d_Office_mayTouch_19 (by decide) (fun c_7 => ?_) (fun c_7 => ?_)
      · have h := h.1 c_7
        refine lv_iconst (v := 0) hx hb d_Office_mayTouch_26 (by decide) ?_
        exact W.zret (v := 0) hx hb hr rfl (fun t ht hW => ⟨⟨0, σ, rfl, h, mw_pass hH hK hA hS ht hW⟩, hS.F ht⟩) hS.2.2 d_Office_mayTouch_27
      · have h := h.2 c_7
        refine lv_iconst (v := 1) hx hb d_Office_mayTouch_22 (by decide) ?_
        refine lv_goto (tgt := 27) hx hb d_Office_mayTouch_23 (by decide) ?_
        exact W.zret (v := 1) hx hb hr rfl (fun t ht hW => ⟨⟨1, σ, rfl, h, mw_pass hH hK hA hS ht hW⟩, hS.F ht⟩) hS.2.2 d_Office_mayTouch_27
def wp_Office_takesFailing (σ : ST) (h0 : Nat) (p1 : Int32) (K : Int32 → ST → Prop) : Prop :=
  ∀ x_1 : Int32, x_1 = (1 <<< (p1 &&& 31)) → (st_tg σ h0 = some 4 ∧ ((((((((st_I σ 165 h0)) &&& x_1)) = 0) → ∀ σ_5 : ST, σ_5 = st_sI σ 165 h0 ((((st_I σ 165 h0)) &&& ((x_1 ^^^ ((-1)))))) → (K 0 σ_5)) ∧
  ((¬ ((((st_I σ 165 h0)) &&& x_1)) = 0) → ∀ σ_8 : ST, σ_8 = st_sI σ 165 h0 ((((st_I σ 165 h0)) &&& ((x_1 ^^^ ((-1)))))) → (K 1 σ_8)))))
abbrev ROOM_Office_takesFailing : Room := { frames := 0, cells := 0, slots := 0, locals := 0 }
set_option maxHeartbeats 4000000 in
set_option maxRecDepth 100000 in
theorem mc_Office_takesFailing (l : Launch) (D : va_G) (A : Nat → Prop) (σ : ST) (h0 : Nat) (p1 : Int32) (K : Int32 → ST → Prop) : Met l y_Office_takesFailing ws_Office_takesFailing ROOM_Office_takesFailing (va_Pc [.ref h0, .int p1] (fun U => mw D A σ U ∧ mn U ∧ wp_Office_takesFailing σ h0 p1 K)) (va_Qi K (mw D A) A) 0 0 A := by
  refine Met.ofW (cc := c_Office_takesFailing) (maxL := 4) (ret := (some .boolean)) (by decide) rfl ?_
  intro p e s m args below meth c s₁ B hml hv
  obtain ⟨rfl, ⟨hH, hK, hA⟩, hn, h⟩ := hv
  have hx := B.exec
  have hb := B.bytes
  have hr := B.returns
  have hts := atoms_spec (ws := ws_Office_takesFailing) B.pre
  have hown : s.vm.findClass R_Office = some m.cls := findClass_of_methodNamed B.named
  have hlocks := B.notSynchronized
  have hts : ∀ w ∈ lw_g, w.before ([.ref h0, .int p1] : List Value).toArray s = true := fun w hw => hts w (List.mem_cons_of_mem _ hw)
  have hS : va_S A s.heap s.heap [] := va_S.rf
  have hl := lv_entry ([.ref h0, .int p1]) (n := 4) (Nat.le_of_ble_eq_true rfl)
  rw [lg_entry_eq]
  generalize (lg_sl ([.ref h0, .int p1]) ++ List.replicate (4 - (lg_sl ([.ref h0, .int p1])).length) Slot.unset).toArray = ls at hl ⊢
  have hl : lv_has ls 4 [(0, va_rf (some h0)), (1, .int p1)] := hl
  unfold wp_Office_takesFailing at h
  refine lv_iconst (v := 1) hx hb d_Office_takesFailing_0 (by decide) ?_
  refine lv_iload_n hx hb d_Office_takesFailing_1 rfl (lv_at hl 1 rfl) ?_
  refine lv_ishl hx hb d_Office_takesFailing_2 ?_
  refine lv_topi (fun x_1 q_2 => ?_)
  have h := h x_1 q_2
  refine lv_istore_n (lv' := [(2, .int x_1), (0, va_rf (some h0)), (1, .int p1)]) hx hb d_Office_takesFailing_3 rfl hl (by decide) rfl (fun ls hl => ?_)
  refine mr_aload_n hx hb d_Office_takesFailing_4 rfl (lv_at hl 1 rfl) ?_
  obtain ⟨t_3, h⟩ := h
  refine ms_get (σ := σ) (r := some h0) (a := h0) (fs := fl_4 σ h0) (ci := 4) (C := R_Office) (T := T_Office) (N := 9) hx hb hts in_4 hown hK hH rfl (cell_4 t_3) rfl 5 (by decide) (hts _ wd_43) (fun _ h9 => h9) (v := .int (st_I σ 165 h0)) rfl d_Office_takesFailing_5 ?_
  refine lv_iload_n hx hb d_Office_takesFailing_8 rfl (lv_at hl 0 rfl) ?_
  refine lv_iand hx hb d_Office_takesFailing_9 ?_
  refine lv_if_eq (tgt := 17) hx hb d_Office_takesFailing_10 (by decide) (fun c_4 => ?_) (fun c_4 => ?_)
  · have h := h.1 c_4
    refine lv_iconst (v := 0) hx hb d_Office_takesFailing_17 (by decide) ?_
    refine lv_istore_n (lv' := [(3, .int 0), (2, .int x_1), (0, va_rf (some h0)), (1, .int p1)]) hx hb d_Office_takesFailing_18 rfl hl (by decide) rfl (fun ls hl => ?_)
    refine mr_aload_n hx hb d_Office_takesFailing_19 rfl (lv_at hl 2 rfl) ?_
    refine lv_dup hx hb d_Office_takesFailing_20 (cat_rf _) ?_
    refine ms_get (σ := σ) (r := some h0) (a := h0) (fs := fl_4 σ h0) (ci := 4) (C := R_Office) (T := T_Office) (N := 9) hx hb hts in_4 hown hK hH rfl (cell_4 t_3) rfl 5 (by decide) (hts _ wd_43) (fun _ h9 => h9) (v := .int (st_I σ 165 h0)) rfl d_Office_takesFailing_21 ?_
    refine lv_iload_n hx hb d_Office_takesFailing_24 rfl (lv_at hl 1 rfl) ?_
    refine lv_iconst (v := (-1)) hx hb d_Office_takesFailing_25 (by decide) ?_
    refine lv_ixor hx hb d_Office_takesFailing_26 ?_
    refine lv_iand hx hb d_Office_takesFailing_27 ?_
    obtain ⟨σ_5, z_6⟩ : ∃ y : ST, y = st_sI σ 165 h0 ((((st_I σ 165 h0)) &&& ((x_1 ^^^ ((-1)))))) := ⟨_, rfl⟩
    have h := h σ_5 z_6
    refine ms_put (σ := σ) (r := some h0) (a := h0) (fs := fl_4 σ h0) (ci := 4) (C := R_Office) (T := T_Office) (N := 9) (v := .int (((st_I σ 165 h0)) &&& ((x_1 ^^^ ((-1)))))) (ty := .int) hx hb hts in_4 ty_Office ty_Office_ok nm_Office hown hK hH hS rfl (cell_4 t_3) rfl 5 (by decide) (hts _ wd_43) (fun _ h9 => h9) rfl (by decide +kernel) rfl rfl (Nat.le_of_ble_eq_true rfl) d_Office_takesFailing_28 (σ1 := σ_5) (by rw [z_6]; exact put_4_5 σ h0 ((((st_I σ 165 h0)) &&& ((x_1 ^^^ ((-1)))))) t_3) (by rw [z_6]; rfl) (by rw [z_6]; rfl) (fun H locs hH hK hS => ?_)
    have t_7 : st_tg σ_5 h0 = some 4 := by rw [z_6]; exact t_3
    refine lv_iload_n hx hb d_Office_takesFailing_31 rfl (lv_at hl 0 rfl) ?_
    exact W.zret (v := 0) hx hb hr rfl (fun t ht hW => ⟨⟨0, σ_5, rfl, h, mw_pass hH hK hA hS ht hW⟩, hS.F ht⟩) hS.2.2 d_Office_takesFailing_32
  · have h := h.2 c_4
    refine lv_iconst (v := 1) hx hb d_Office_takesFailing_13 (by decide) ?_
    refine lv_goto (tgt := 18) hx hb d_Office_takesFailing_14 (by decide) ?_
    refine lv_istore_n (lv' := [(3, .int 1), (2, .int x_1), (0, va_rf (some h0)), (1, .int p1)]) hx hb d_Office_takesFailing_18 rfl hl (by decide) rfl (fun ls hl => ?_)
    refine mr_aload_n hx hb d_Office_takesFailing_19 rfl (lv_at hl 2 rfl) ?_
    refine lv_dup hx hb d_Office_takesFailing_20 (cat_rf _) ?_
    refine ms_get (σ := σ) (r := some h0) (a := h0) (fs := fl_4 σ h0) (ci := 4) (C := R_Office) (T := T_Office) (N := 9) hx hb hts in_4 hown hK hH rfl (cell_4 t_3) rfl 5 (by decide) (hts _ wd_43) (fun _ h9 => h9) (v := .int (st_I σ 165 h0)) rfl d_Office_takesFailing_21 ?_
    refine lv_iload_n hx hb d_Office_takesFailing_24 rfl (lv_at hl 1 rfl) ?_
    refine lv_iconst (v := (-1)) hx hb d_Office_takesFailing_25 (by decide) ?_
    refine lv_ixor hx hb d_Office_takesFailing_26 ?_
    refine lv_iand hx hb d_Office_takesFailing_27 ?_
    obtain ⟨σ_8, z_9⟩ : ∃ y : ST, y = st_sI σ 165 h0 ((((st_I σ 165 h0)) &&& ((x_1 ^^^ ((-1)))))) := ⟨_, rfl⟩
    have h := h σ_8 z_9
    refine ms_put (σ := σ) (r := some h0) (a := h0) (fs := fl_4 σ h0) (ci := 4) (C := R_Office) (T := T_Office) (N := 9) (v := .int (((st_I σ 165 h0)) &&& ((x_1 ^^^ ((-1)))))) (ty := .int) hx hb hts in_4 ty_Office ty_Office_ok nm_Office hown hK hH hS rfl (cell_4 t_3) rfl 5 (by decide) (hts _ wd_43) (fun _ h9 => h9) rfl (by decide +kernel) rfl rfl (Nat.le_of_ble_eq_true rfl) d_Office_takesFailing_28 (σ1 := σ_8) (by rw [z_9]; exact put_4_5 σ h0 ((((st_I σ 165 h0)) &&& ((x_1 ^^^ ((-1)))))) t_3) (by rw [z_9]; rfl) (by rw [z_9]; rfl) (fun H locs hH hK hS => ?_)
    have t_10 : st_tg σ_8 h0 = some 4 := by rw [z_9]; exact t_3
    refine lv_iload_n hx hb d_Office_takesFailing_31 rfl (lv_at hl 0 rfl) ?_
    exact W.zret (v := 1) hx hb hr rfl (fun t ht hW => ⟨⟨1, σ_8, rfl, h, mw_pass hH hK hA hS ht hW⟩, hS.F ht⟩) hS.2.2 d_Office_takesFailing_32
def wp_Order_sum (σ : ST) (h0 : Nat) (K : Int64 → ST → Prop) : Prop :=
  st_tg σ h0 = some 5 ∧ (∃ a_2 : Nat, (st_R σ 204 h0) = some a_2 ∧ st_tg σ a_2 = some 3 ∧ (K ((((((st_J σ 202 h0)) * ((st_J σ 120 a_2)))) / 1000)) σ))
abbrev ROOM_Order_sum : Room := { frames := 0, cells := 0, slots := 0, locals := 0 }
set_option maxHeartbeats 4000000 in
set_option maxRecDepth 100000 in
theorem mc_Order_sum (l : Launch) (D : va_G) (A : Nat → Prop) (σ : ST) (h0 : Nat) (K : Int64 → ST → Prop) : Met l y_Order_sum ws_Order_sum ROOM_Order_sum (va_Pc [.ref h0] (fun U => mw D A σ U ∧ mn U ∧ wp_Order_sum σ h0 K)) (va_Ql K (mw D A) A) 0 0 A := by
  refine Met.ofW (cc := c_Order_sum) (maxL := 1) (ret := (some .long)) (by decide) rfl ?_
  intro p e s m args below meth c s₁ B hml hv
  obtain ⟨rfl, ⟨hH, hK, hA⟩, hn, h⟩ := hv
  have hx := B.exec
  have hb := B.bytes
  have hr := B.returns
  have hts := atoms_spec (ws := ws_Order_sum) B.pre
  have hown : s.vm.findClass R_Order = some m.cls := findClass_of_methodNamed B.named
  have hlocks := B.notSynchronized
  have hts : ∀ w ∈ lw_g, w.before ([.ref h0] : List Value).toArray s = true := fun w hw => hts w (List.mem_cons_of_mem _ hw)
  have hS : va_S A s.heap s.heap [] := va_S.rf
  have hl := lv_entry ([.ref h0]) (n := 1) (Nat.le_of_ble_eq_true rfl)
  rw [lg_entry_eq]
  generalize (lg_sl ([.ref h0]) ++ List.replicate (1 - (lg_sl ([.ref h0])).length) Slot.unset).toArray = ls at hl ⊢
  have hl : lv_has ls 1 [(0, va_rf (some h0))] := hl
  unfold wp_Order_sum at h
  refine mr_aload_n hx hb d_Order_sum_0 rfl (lv_at hl 0 rfl) ?_
  obtain ⟨t_1, h⟩ := h
  refine ms_get (σ := σ) (r := some h0) (a := h0) (fs := fl_5 σ h0) (ci := 5) (C := R_Order) (T := T_Order) (N := 11) hx hb hts in_5 hown hK hH rfl (cell_5 t_1) rfl 2 (by decide) (hts _ wd_143) (fun _ h9 => h9) (v := .long (st_J σ 202 h0)) rfl d_Order_sum_1 ?_
  refine mr_aload_n hx hb d_Order_sum_4 rfl (lv_at hl 0 rfl) ?_
  refine ms_get (σ := σ) (r := some h0) (a := h0) (fs := fl_5 σ h0) (ci := 5) (C := R_Order) (T := T_Order) (N := 11) hx hb hts in_5 hown hK hH rfl (cell_5 t_1) rfl 4 (by decide) (hts _ wd_147) (fun _ h9 => h9) (v := va_rf (st_R σ 204 h0)) rfl d_Order_sum_5 ?_
  obtain ⟨a_2, e_3, t_4, h⟩ := h
  refine ms_getN (σ := σ) (r := (st_R σ 204 h0)) (a := a_2) (fs := fl_3 σ a_2) (ci := 3) (C := R_Currency) (T := T_Currency) (N := 1) hx hb hts in_3 hown hK hH e_3 (cell_3 t_4) rfl 0 (by decide) (va_Nw.use rfl (hn _ wd_74 rfl)) (fun _ h9 => h9) (v := .long (st_J σ 120 a_2)) rfl d_Order_sum_8 ?_
  refine lv_lmul hx hb d_Order_sum_11 ?_
  refine lv_ldc2 (v := 1000) hx hb hown (hts _ wd_214) d_Order_sum_12 ?_
  refine lv_ldiv hx hb d_Order_sum_15 (by decide) ?_
  exact W.lret (v := (((((st_J σ 202 h0)) * ((st_J σ 120 a_2)))) / 1000)) hx hb hr (fun t ht hW => ⟨⟨(((((st_J σ 202 h0)) * ((st_J σ 120 a_2)))) / 1000), σ, rfl, h, mw_pass hH hK hA hS ht hW⟩, hS.F ht⟩) hS.2.2 d_Order_sum_16
def wb_Office_keepsLimit_17 (h0 : Nat) (K : Int32 → ST → Prop) (σ : ST) (v1 : Int64) (s0 : Int64) : Prop :=
  st_tg σ h0 = some 4 ∧ ((((((lg_cmp ((st_J σ 162 h0)) ((-1)))) = 0) → K 1 σ) ∧
  ((¬ ((lg_cmp ((st_J σ 162 h0)) ((-1)))) = 0) → (((0 < ((lg_cmp ((s0 + v1)) ((st_J σ 162 h0))))) → K 0 σ) ∧
  ((¬ 0 < ((lg_cmp ((s0 + v1)) ((st_J σ 162 h0))))) → K 1 σ)))))
def wp_Office_keepsLimit (σ : ST) (h0 : Nat) (p1 : Int64) (p3 : Int64) (K : Int32 → ST → Prop) : Prop :=
  st_tg σ h0 = some 4 ∧ ((((¬ ((lg_cmp p3 ((st_J σ 166 h0)))) = 0) → wb_Office_keepsLimit_17 h0 K σ p1 0) ∧
  ((((lg_cmp p3 ((st_J σ 166 h0)))) = 0) → wb_Office_keepsLimit_17 h0 K σ p1 ((st_J σ 167 h0)))))
abbrev ROOM_Office_keepsLimit : Room := { frames := 0, cells := 0, slots := 0, locals := 0 }
set_option maxHeartbeats 4000000 in
set_option maxRecDepth 100000 in
theorem mc_Office_keepsLimit (l : Launch) (D : va_G) (A : Nat → Prop) (σ : ST) (h0 : Nat) (p1 : Int64) (p3 : Int64) (K : Int32 → ST → Prop) : Met l y_Office_keepsLimit ws_Office_keepsLimit ROOM_Office_keepsLimit (va_Pc [.ref h0, .long p1, .long p3] (fun U => mw D A σ U ∧ mn U ∧ wp_Office_keepsLimit σ h0 p1 p3 K)) (va_Qi K (mw D A) A) 0 0 A := by
  refine Met.ofW (cc := c_Office_keepsLimit) (maxL := 7) (ret := (some .boolean)) (by decide) rfl ?_
  intro p e s m args below meth c s₁ B hml hv
  obtain ⟨rfl, ⟨hH, hK, hA⟩, hn, h⟩ := hv
  have hx := B.exec
  have hb := B.bytes
  have hr := B.returns
  have hts := atoms_spec (ws := ws_Office_keepsLimit) B.pre
  have hown : s.vm.findClass R_Office = some m.cls := findClass_of_methodNamed B.named
  have hlocks := B.notSynchronized
  have hts : ∀ w ∈ lw_g, w.before ([.ref h0, .long p1, .long p3] : List Value).toArray s = true := fun w hw => hts w (List.mem_cons_of_mem _ hw)
  have b_17 : ∀ (σ : ST) (v1 : Int64) (s0 : Int64) (H : Heap) (locs : List Loc) (ls : Array Slot), mg_H D vwCl A (st_cell σ) H → mk_K D σ s → va_S A s.heap H locs → lv_has ls 7 [(0, va_rf (some h0)), (1, .long v1)] → wb_Office_keepsLimit_17 h0 K σ v1 s0 → W p l e (headSpec ws_Office_keepsLimit ROOM_Office_keepsLimit).room s m ([.ref h0, .long p1, .long p3] : List Value).toArray below meth c H locs 0 0 (MQ below (va_Qi K (mw D A) A) ([.ref h0, .long p1, .long p3] : List Value).toArray s 0 0 A) (F0 m 17 ls [.long s0]) := by
    intro σ v1 s0 H locs ls hH hK hS hl h
    unfold wb_Office_keepsLimit_17 at h
    refine lv_lstore (lv' := [(5, .long s0), (0, va_rf (some h0)), (1, .long v1)]) hx hb d_Office_keepsLimit_17 hl (by decide) rfl (fun ls hl => ?_)
    refine mr_aload_n hx hb d_Office_keepsLimit_19 rfl (lv_at hl 1 rfl) ?_
    obtain ⟨t_3, h⟩ := h
    refine ms_get (σ := σ) (r := some h0) (a := h0) (fs := fl_4 σ h0) (ci := 4) (C := R_Office) (T := T_Office) (N := 9) hx hb hts in_4 hown hK hH rfl (cell_4 t_3) rfl 2 (by decide) (hts _ wd_37) (fun _ h9 => h9) (v := .long (st_J σ 162 h0)) rfl d_Office_keepsLimit_20 ?_
    refine lv_ldc2 (v := (-1)) hx hb hown (hts _ wd_32) d_Office_keepsLimit_23 ?_
    refine W.lcmp hx hb d_Office_keepsLimit_26 ?_
    refine lv_if_eq (tgt := 42) hx hb d_Office_keepsLimit_27 (by decide) (fun c_4 => ?_) (fun c_4 => ?_)
    · have h := h.1 c_4
      refine lv_iconst (v := 1) hx hb d_Office_keepsLimit_42 (by decide) ?_
      refine lv_goto (tgt := 47) hx hb d_Office_keepsLimit_43 (by decide) ?_
      exact W.zret (v := 1) hx hb hr rfl (fun t ht hW => ⟨⟨1, σ, rfl, h, mw_pass hH hK hA hS ht hW⟩, hS.F ht⟩) hS.2.2 d_Office_keepsLimit_47
    · have h := h.2 c_4
      refine lv_lload hx hb d_Office_keepsLimit_30 (lv_at hl 0 rfl) ?_
      refine lv_lload_n hx hb d_Office_keepsLimit_32 rfl (lv_at hl 2 rfl) ?_
      refine lv_ladd hx hb d_Office_keepsLimit_33 ?_
      refine mr_aload_n hx hb d_Office_keepsLimit_34 rfl (lv_at hl 1 rfl) ?_
      refine ms_get (σ := σ) (r := some h0) (a := h0) (fs := fl_4 σ h0) (ci := 4) (C := R_Office) (T := T_Office) (N := 9) hx hb hts in_4 hown hK hH rfl (cell_4 t_3) rfl 2 (by decide) (hts _ wd_37) (fun _ h9 => h9) (v := .long (st_J σ 162 h0)) rfl d_Office_keepsLimit_35 ?_
      refine W.lcmp hx hb d_Office_keepsLimit_38 ?_
      refine lv_if_gt (tgt := 46) hx hb d_Office_keepsLimit_39 (by decide) (fun c_5 => ?_) (fun c_5 => ?_)
      · have h := h.1 c_5
        refine lv_iconst (v := 0) hx hb d_Office_keepsLimit_46 (by decide) ?_
        exact W.zret (v := 0) hx hb hr rfl (fun t ht hW => ⟨⟨0, σ, rfl, h, mw_pass hH hK hA hS ht hW⟩, hS.F ht⟩) hS.2.2 d_Office_keepsLimit_47
      · have h := h.2 c_5
        refine lv_iconst (v := 1) hx hb d_Office_keepsLimit_42 (by decide) ?_
        refine lv_goto (tgt := 47) hx hb d_Office_keepsLimit_43 (by decide) ?_
        exact W.zret (v := 1) hx hb hr rfl (fun t ht hW => ⟨⟨1, σ, rfl, h, mw_pass hH hK hA hS ht hW⟩, hS.F ht⟩) hS.2.2 d_Office_keepsLimit_47
  have hS : va_S A s.heap s.heap [] := va_S.rf
  have hl := lv_entry ([.ref h0, .long p1, .long p3]) (n := 7) (Nat.le_of_ble_eq_true rfl)
  rw [lg_entry_eq]
  generalize (lg_sl ([.ref h0, .long p1, .long p3]) ++ List.replicate (7 - (lg_sl ([.ref h0, .long p1, .long p3])).length) Slot.unset).toArray = ls at hl ⊢
  have hl : lv_has ls 7 [(0, va_rf (some h0)), (1, .long p1), (3, .long p3)] := hl
  unfold wp_Office_keepsLimit at h
  refine lv_lload_n hx hb d_Office_keepsLimit_0 rfl (lv_at hl 2 rfl) ?_
  refine mr_aload_n hx hb d_Office_keepsLimit_1 rfl (lv_at hl 0 rfl) ?_
  obtain ⟨t_1, h⟩ := h
  refine ms_get (σ := σ) (r := some h0) (a := h0) (fs := fl_4 σ h0) (ci := 4) (C := R_Office) (T := T_Office) (N := 9) hx hb hts in_4 hown hK hH rfl (cell_4 t_1) rfl 6 (by decide) (hts _ wd_44) (fun _ h9 => h9) (v := .long (st_J σ 166 h0)) rfl d_Office_keepsLimit_2 ?_
  refine W.lcmp hx hb d_Office_keepsLimit_5 ?_
  refine lv_if_ne (tgt := 16) hx hb d_Office_keepsLimit_6 (by decide) (fun c_2 => ?_) (fun c_2 => ?_)
  · have h := h.1 c_2
    refine lv_lconst (v := 0) hx hb d_Office_keepsLimit_16 rfl ?_
    exact b_17 _ _ _ _ _ _ hH hK hS (lv_sub hl [0, 1] rfl) h
  · have h := h.2 c_2
    refine mr_aload_n hx hb d_Office_keepsLimit_9 rfl (lv_at hl 0 rfl) ?_
    refine ms_get (σ := σ) (r := some h0) (a := h0) (fs := fl_4 σ h0) (ci := 4) (C := R_Office) (T := T_Office) (N := 9) hx hb hts in_4 hown hK hH rfl (cell_4 t_1) rfl 7 (by decide) (hts _ wd_45) (fun _ h9 => h9) (v := .long (st_J σ 167 h0)) rfl d_Office_keepsLimit_10 ?_
    refine lv_goto (tgt := 17) hx hb d_Office_keepsLimit_13 (by decide) ?_
    exact b_17 _ _ _ _ _ _ hH hK hS (lv_sub hl [0, 1] rfl) h
def wp_Office_giveOut (σ : ST) (h0 : Nat) (p1 : Int64) (K : Int32 → ST → Prop) : Prop :=
  st_tg σ h0 = some 4 ∧ ((((0 ≤ ((lg_cmp ((st_J σ 161 h0)) p1))) → ∀ σ_3 : ST, σ_3 = st_sJ σ 161 h0 ((((st_J σ 161 h0)) - p1)) → (K 1 σ_3)) ∧
  ((¬ 0 ≤ ((lg_cmp ((st_J σ 161 h0)) p1))) → K 0 σ)))
abbrev ROOM_Office_giveOut : Room := { frames := 0, cells := 0, slots := 0, locals := 0 }
set_option maxHeartbeats 4000000 in
set_option maxRecDepth 100000 in
theorem mc_Office_giveOut (l : Launch) (D : va_G) (A : Nat → Prop) (σ : ST) (h0 : Nat) (p1 : Int64) (K : Int32 → ST → Prop) : Met l y_Office_giveOut ws_Office_giveOut ROOM_Office_giveOut (va_Pc [.ref h0, .long p1] (fun U => mw D A σ U ∧ mn U ∧ wp_Office_giveOut σ h0 p1 K)) (va_Qi K (mw D A) A) 0 0 A := by
  refine Met.ofW (cc := c_Office_giveOut) (maxL := 3) (ret := (some .boolean)) (by decide) rfl ?_
  intro p e s m args below meth c s₁ B hml hv
  obtain ⟨rfl, ⟨hH, hK, hA⟩, hn, h⟩ := hv
  have hx := B.exec
  have hb := B.bytes
  have hr := B.returns
  have hts := atoms_spec (ws := ws_Office_giveOut) B.pre
  have hown : s.vm.findClass R_Office = some m.cls := findClass_of_methodNamed B.named
  have hlocks := B.notSynchronized
  have hts : ∀ w ∈ lw_g, w.before ([.ref h0, .long p1] : List Value).toArray s = true := fun w hw => hts w (List.mem_cons_of_mem _ hw)
  have hS : va_S A s.heap s.heap [] := va_S.rf
  have hl := lv_entry ([.ref h0, .long p1]) (n := 3) (Nat.le_of_ble_eq_true rfl)
  rw [lg_entry_eq]
  generalize (lg_sl ([.ref h0, .long p1]) ++ List.replicate (3 - (lg_sl ([.ref h0, .long p1])).length) Slot.unset).toArray = ls at hl ⊢
  have hl : lv_has ls 3 [(0, va_rf (some h0)), (1, .long p1)] := hl
  unfold wp_Office_giveOut at h
  refine mr_aload_n hx hb d_Office_giveOut_0 rfl (lv_at hl 0 rfl) ?_
  obtain ⟨t_1, h⟩ := h
  refine ms_get (σ := σ) (r := some h0) (a := h0) (fs := fl_4 σ h0) (ci := 4) (C := R_Office) (T := T_Office) (N := 9) hx hb hts in_4 hown hK hH rfl (cell_4 t_1) rfl 1 (by decide) (hts _ wd_36) (fun _ h9 => h9) (v := .long (st_J σ 161 h0)) rfl d_Office_giveOut_1 ?_
  refine lv_lload_n hx hb d_Office_giveOut_4 rfl (lv_at hl 1 rfl) ?_
  refine W.lcmp hx hb d_Office_giveOut_5 ?_
  refine lv_if_ge (tgt := 11) hx hb d_Office_giveOut_6 (by decide) (fun c_2 => ?_) (fun c_2 => ?_)
  · have h := h.1 c_2
    refine mr_aload_n hx hb d_Office_giveOut_11 rfl (lv_at hl 0 rfl) ?_
    refine lv_dup hx hb d_Office_giveOut_12 (cat_rf _) ?_
    refine ms_get (σ := σ) (r := some h0) (a := h0) (fs := fl_4 σ h0) (ci := 4) (C := R_Office) (T := T_Office) (N := 9) hx hb hts in_4 hown hK hH rfl (cell_4 t_1) rfl 1 (by decide) (hts _ wd_36) (fun _ h9 => h9) (v := .long (st_J σ 161 h0)) rfl d_Office_giveOut_13 ?_
    refine lv_lload_n hx hb d_Office_giveOut_16 rfl (lv_at hl 1 rfl) ?_
    refine lv_lsub hx hb d_Office_giveOut_17 ?_
    obtain ⟨σ_3, z_4⟩ : ∃ y : ST, y = st_sJ σ 161 h0 ((((st_J σ 161 h0)) - p1)) := ⟨_, rfl⟩
    have h := h σ_3 z_4
    refine ms_put (σ := σ) (r := some h0) (a := h0) (fs := fl_4 σ h0) (ci := 4) (C := R_Office) (T := T_Office) (N := 9) (v := .long (((st_J σ 161 h0)) - p1)) (ty := .long) hx hb hts in_4 ty_Office ty_Office_ok nm_Office hown hK hH hS rfl (cell_4 t_1) rfl 1 (by decide) (hts _ wd_36) (fun _ h9 => h9) rfl (by decide +kernel) rfl rfl (Nat.le_of_ble_eq_true rfl) d_Office_giveOut_18 (σ1 := σ_3) (by rw [z_4]; exact put_4_1 σ h0 ((((st_J σ 161 h0)) - p1)) t_1) (by rw [z_4]; rfl) (by rw [z_4]; rfl) (fun H locs hH hK hS => ?_)
    have t_5 : st_tg σ_3 h0 = some 4 := by rw [z_4]; exact t_1
    refine lv_iconst (v := 1) hx hb d_Office_giveOut_21 (by decide) ?_
    exact W.zret (v := 1) hx hb hr rfl (fun t ht hW => ⟨⟨1, σ_3, rfl, h, mw_pass hH hK hA hS ht hW⟩, hS.F ht⟩) hS.2.2 d_Office_giveOut_22
  · have h := h.2 c_2
    refine lv_iconst (v := 0) hx hb d_Office_giveOut_9 (by decide) ?_
    exact W.zret (v := 0) hx hb hr rfl (fun t ht hW => ⟨⟨0, σ, rfl, h, mw_pass hH hK hA hS ht hW⟩, hS.F ht⟩) hS.2.2 d_Office_giveOut_10
def wp_Order_leaveList (σ : ST) (h0 : Nat) (K : ST → Prop) : Prop :=
  st_tg σ h0 = some 5 ∧ ((((((st_R σ 208 h0)) = none) → K σ) ∧
  ((¬ ((st_R σ 208 h0)) = none) → ∃ a_3 : Nat, (st_R σ 208 h0) = some a_3 ∧ st_tg σ a_3 = some 4 ∧ (∀ σ_6 : ST, σ_6 = st_sI σ 164 a_3 ((((st_I σ 164 a_3)) - 1)) → (∀ σ_10 : ST, σ_10 = st_sR σ_6 208 h0 none → (K σ_10))))))
abbrev ROOM_Order_leaveList : Room := { frames := 0, cells := 0, slots := 0, locals := 0 }
set_option maxHeartbeats 4000000 in
set_option maxRecDepth 100000 in
theorem mc_Order_leaveList (l : Launch) (D : va_G) (A : Nat → Prop) (σ : ST) (h0 : Nat) (K : ST → Prop) : Met l y_Order_leaveList ws_Order_leaveList ROOM_Order_leaveList (va_Pc [.ref h0] (fun U => mw D A σ U ∧ mn U ∧ wp_Order_leaveList σ h0 K)) (va_Qv K (mw D A) A) 0 0 A := by
  refine Met.ofW (cc := c_Order_leaveList) (maxL := 1) (ret := none) (by decide) rfl ?_
  intro p e s m args below meth c s₁ B hml hv
  obtain ⟨rfl, ⟨hH, hK, hA⟩, hn, h⟩ := hv
  have hx := B.exec
  have hb := B.bytes
  have hr := B.returns
  have hts := atoms_spec (ws := ws_Order_leaveList) B.pre
  have hown : s.vm.findClass R_Order = some m.cls := findClass_of_methodNamed B.named
  have hlocks := B.notSynchronized
  have hts : ∀ w ∈ lw_g, w.before ([.ref h0] : List Value).toArray s = true := fun w hw => hts w (List.mem_cons_of_mem _ hw)
  have hS : va_S A s.heap s.heap [] := va_S.rf
  have hl := lv_entry ([.ref h0]) (n := 1) (Nat.le_of_ble_eq_true rfl)
  rw [lg_entry_eq]
  generalize (lg_sl ([.ref h0]) ++ List.replicate (1 - (lg_sl ([.ref h0])).length) Slot.unset).toArray = ls at hl ⊢
  have hl : lv_has ls 1 [(0, va_rf (some h0))] := hl
  unfold wp_Order_leaveList at h
  refine mr_aload_n hx hb d_Order_leaveList_0 rfl (lv_at hl 0 rfl) ?_
  obtain ⟨t_1, h⟩ := h
  refine ms_get (σ := σ) (r := some h0) (a := h0) (fs := fl_5 σ h0) (ci := 5) (C := R_Order) (T := T_Order) (N := 11) hx hb hts in_5 hown hK hH rfl (cell_5 t_1) rfl 8 (by decide) (hts _ wd_157) (fun _ h9 => h9) (v := va_rf (st_R σ 208 h0)) rfl d_Order_leaveList_1 ?_
  refine mr_ifnull (x := (st_R σ 208 h0)) (tgt := 25) hx hb d_Order_leaveList_4 (by decide) (fun c_2 => ?_) (fun c_2 => ?_)
  · have h := h.1 c_2
    exact W.vret hx hb hr (fun t ht hW => ⟨⟨σ, rfl, h, mw_pass hH hK hA hS ht hW⟩, hS.F ht⟩) hS.2.2 d_Order_leaveList_25
  · have h := h.2 c_2
    refine mr_aload_n hx hb d_Order_leaveList_7 rfl (lv_at hl 0 rfl) ?_
    refine ms_get (σ := σ) (r := some h0) (a := h0) (fs := fl_5 σ h0) (ci := 5) (C := R_Order) (T := T_Order) (N := 11) hx hb hts in_5 hown hK hH rfl (cell_5 t_1) rfl 8 (by decide) (hts _ wd_157) (fun _ h9 => h9) (v := va_rf (st_R σ 208 h0)) rfl d_Order_leaveList_8 ?_
    refine lv_dup hx hb d_Order_leaveList_11 (cat_rf _) ?_
    obtain ⟨a_3, e_4, t_5, h⟩ := h
    refine ms_getN (σ := σ) (r := (st_R σ 208 h0)) (a := a_3) (fs := fl_4 σ a_3) (ci := 4) (C := R_Office) (T := T_Office) (N := 9) hx hb hts in_4 hown hK hH e_4 (cell_4 t_5) rfl 4 (by decide) (va_Nw.use rfl (hn _ wd_41 rfl)) (fun _ h9 => h9) (v := .int (st_I σ 164 a_3)) rfl d_Order_leaveList_12 ?_
    refine lv_iconst (v := 1) hx hb d_Order_leaveList_15 (by decide) ?_
    refine lv_isub hx hb d_Order_leaveList_16 ?_
    obtain ⟨σ_6, z_7⟩ : ∃ y : ST, y = st_sI σ 164 a_3 ((((st_I σ 164 a_3)) - 1)) := ⟨_, rfl⟩
    have h := h σ_6 z_7
    refine ms_putN (σ := σ) (r := (st_R σ 208 h0)) (a := a_3) (fs := fl_4 σ a_3) (ci := 4) (C := R_Office) (T := T_Office) (N := 9) (v := .int (((st_I σ 164 a_3)) - 1)) (ty := .int) hx hb hts in_4 ty_Office ty_Office_ok nm_Office hown hK hH hS e_4 (cell_4 t_5) rfl 4 (by decide) (va_Nw.use rfl (hn _ wd_41 rfl)) (fun _ h9 => h9) rfl (by decide +kernel) rfl rfl (Nat.le_of_ble_eq_true rfl) d_Order_leaveList_17 (σ1 := σ_6) (by rw [z_7]; exact put_4_4 σ a_3 ((((st_I σ 164 a_3)) - 1)) t_5) (by rw [z_7]; rfl) (by rw [z_7]; rfl) (fun H locs hH hK hS => ?_)
    have t_8 : st_tg σ_6 h0 = some 5 := by rw [z_7]; exact t_1
    have t_9 : st_tg σ_6 a_3 = some 4 := by rw [z_7]; exact t_5
    refine mr_aload_n hx hb d_Order_leaveList_20 rfl (lv_at hl 0 rfl) ?_
    refine mr_null hx hb d_Order_leaveList_21 ?_
    obtain ⟨σ_10, z_11⟩ : ∃ y : ST, y = st_sR σ_6 208 h0 none := ⟨_, rfl⟩
    have h := h σ_10 z_11
    refine ms_put (σ := σ_6) (r := some h0) (a := h0) (fs := fl_5 σ_6 h0) (ci := 5) (C := R_Order) (T := T_Order) (N := 11) (v := va_rf none) (ty := (.object "OrderMoney$Office")) hx hb hts in_5 ty_Order ty_Order_ok nm_Order hown hK hH hS rfl (cell_5 t_8) rfl 8 (by decide) (hts _ wd_157) (fun _ h9 => h9) rfl (by decide +kernel) (nar_rf _ _) (fit_rf _ _) (Nat.le_of_ble_eq_true rfl) d_Order_leaveList_22 (σ1 := σ_10) (by rw [z_11]; exact put_5_8 σ_6 h0 none t_8) (by rw [z_11]; rfl) (by rw [z_11]; rfl) (fun H locs hH hK hS => ?_)
    have t_12 : st_tg σ_10 h0 = some 5 := by rw [z_11]; exact t_8
    have t_13 : st_tg σ_10 a_3 = some 4 := by rw [z_11]; exact t_9
    exact W.vret hx hb hr (fun t ht hW => ⟨⟨σ_10, rfl, h, mw_pass hH hK hA hS ht hW⟩, hS.F ht⟩) hS.2.2 d_Order_leaveList_25
def wp_Order_become (σ : ST) (h0 : Nat) (p1 : Int32) (K : ST → Prop) : Prop :=
  st_tg σ h0 = some 5 ∧ (∀ σ_2 : ST, σ_2 = st_sI σ 206 h0 p1 → (wp_Order_leaveList σ_2 h0 (fun σ_6 =>
  K σ_6)))
abbrev ROOM_Order_become : Room := { frames := 1, cells := 0, slots := 0, locals := 20 }
set_option maxHeartbeats 4000000 in
set_option maxRecDepth 100000 in
theorem mc_Order_become (l : Launch) (D : va_G) (A : Nat → Prop) (σ : ST) (h0 : Nat) (p1 : Int32) (K : ST → Prop) : Met l y_Order_become ws_Order_become ROOM_Order_become (va_Pc [.ref h0, .int p1] (fun U => mw D A σ U ∧ mn U ∧ wp_Order_become σ h0 p1 K)) (va_Qv K (mw D A) A) 0 0 A := by
  refine Met.ofW (cc := c_Order_become) (maxL := 2) (ret := none) (by decide) rfl ?_
  intro p e s m args below meth c s₁ B hml hv
  obtain ⟨rfl, ⟨hH, hK, hA⟩, hn, h⟩ := hv
  have hx := B.exec
  have hb := B.bytes
  have hr := B.returns
  have hts := atoms_spec (ws := ws_Order_become) B.pre
  have hown : s.vm.findClass R_Order = some m.cls := findClass_of_methodNamed B.named
  have hlocks := B.notSynchronized
  have hts : ∀ w ∈ lw_g, w.before ([.ref h0, .int p1] : List Value).toArray s = true := fun w hw => hts w (List.mem_cons_of_mem _ hw)
  have hS : va_S A s.heap s.heap [] := va_S.rf
  have hl := lv_entry ([.ref h0, .int p1]) (n := 2) (Nat.le_of_ble_eq_true rfl)
  rw [lg_entry_eq]
  generalize (lg_sl ([.ref h0, .int p1]) ++ List.replicate (2 - (lg_sl ([.ref h0, .int p1])).length) Slot.unset).toArray = ls at hl ⊢
  have hl : lv_has ls 2 [(0, va_rf (some h0)), (1, .int p1)] := hl
  unfold wp_Order_become at h
  refine mr_aload_n hx hb d_Order_become_0 rfl (lv_at hl 0 rfl) ?_
  refine lv_iload_n hx hb d_Order_become_1 rfl (lv_at hl 1 rfl) ?_
  obtain ⟨t_1, h⟩ := h
  obtain ⟨σ_2, z_3⟩ : ∃ y : ST, y = st_sI σ 206 h0 p1 := ⟨_, rfl⟩
  have h := h σ_2 z_3
  refine ms_put (σ := σ) (r := some h0) (a := h0) (fs := fl_5 σ h0) (ci := 5) (C := R_Order) (T := T_Order) (N := 11) (v := .int p1) (ty := .int) hx hb hts in_5 ty_Order ty_Order_ok nm_Order hown hK hH hS rfl (cell_5 t_1) rfl 6 (by decide) (hts _ wd_152) (fun _ h9 => h9) rfl (by decide +kernel) rfl rfl (Nat.le_of_ble_eq_true rfl) d_Order_become_2 (σ1 := σ_2) (by rw [z_3]; exact put_5_6 σ h0 p1 t_1) (by rw [z_3]; rfl) (by rw [z_3]; rfl) (fun H locs hH hK hS => ?_)
  have t_4 : st_tg σ_2 h0 = some 5 := by rw [z_3]; exact t_1
  refine mr_aload_n hx hb d_Order_become_5 rfl (lv_at hl 0 rfl) ?_
  refine ms_callv (va_runV (As := []) (rest := []) ⟨hx, hb, hml, hown, hts⟩ (mc_Order_leaveList l D A σ_2 h0 _) ⟨(callB_of 0 hts gw_Order_leaveList rfl rfl rfl (hts _ wd_5) (hts _ wd_231) (by decide +kernel) ⟨by decide, by decide⟩), (hts _ wd_232), (hts _ wd_233)⟩ ⟨mw_blind, mg_recv hK.1 hH (ci := 5) rfl (cell_5 t_4), fun U hU hW => ⟨rfl, mw_pass hH hK hA hS hU hW, mn_warm hW hn, h⟩⟩ rfl rfl hl.1 rfl (lv_room (Nat.le_of_ble_eq_true rfl)) d_Order_become_6 ⟨by decide, by decide⟩) hS (fun σ_6 H locs h hH hK hS => ?_)
  exact W.vret hx hb hr (fun t ht hW => ⟨⟨σ_6, rfl, h, mw_pass hH hK hA hS ht hW⟩, hS.F ht⟩) hS.2.2 d_Order_become_9
def wp_Office_know (σ : ST) (h0 : Nat) (p1 : Option Nat) (p2 : Int64) (K : ST → Prop) : Prop :=
  st_tg σ h0 = some 4 ∧ ((((((lg_cmp p2 ((st_J σ 166 h0)))) = 0) → ∃ a_3 : Nat, p1 = some a_3 ∧ st_tg σ a_3 = some 5 ∧ (wp_Order_sum σ a_3 (fun (r_6 : Int64) σ_7 =>
  st_tg σ_7 h0 = some 4 ∧ (∀ σ_9 : ST, σ_9 = st_sJ σ_7 167 h0 ((((st_J σ 167 h0)) + r_6)) → (st_tg σ_9 a_3 = some 5 ∧ (∀ σ_13 : ST, σ_13 = st_sR σ_9 210 a_3 ((st_R σ_9 168 h0)) → (∀ σ_17 : ST, σ_17 = st_sR σ_13 168 h0 p1 → (K σ_17)))))))) ∧
  ((¬ ((lg_cmp p2 ((st_J σ 166 h0)))) = 0) → ∀ σ_21 : ST, σ_21 = st_sJ σ 166 h0 p2 → (∀ σ_24 : ST, σ_24 = st_sJ σ_21 167 h0 0 → (∀ σ_27 : ST, σ_27 = st_sR σ_24 168 h0 none → (∃ a_30 : Nat, p1 = some a_30 ∧ st_tg σ_27 a_30 = some 5 ∧ (wp_Order_sum σ_27 a_30 (fun (r_33 : Int64) σ_34 =>
  st_tg σ_34 h0 = some 4 ∧ (∀ σ_36 : ST, σ_36 = st_sJ σ_34 167 h0 ((((st_J σ_27 167 h0)) + r_33)) → (st_tg σ_36 a_30 = some 5 ∧ (∀ σ_40 : ST, σ_40 = st_sR σ_36 210 a_30 ((st_R σ_36 168 h0)) → (∀ σ_44 : ST, σ_44 = st_sR σ_40 168 h0 p1 → (K σ_44)))))))))))))
abbrev ROOM_Office_know : Room := { frames := 1, cells := 0, slots := 0, locals := 20 }
set_option maxHeartbeats 4000000 in
set_option maxRecDepth 100000 in
theorem mc_Office_know (l : Launch) (D : va_G) (A : Nat → Prop) (σ : ST) (h0 : Nat) (p1 : Option Nat) (p2 : Int64) (K : ST → Prop) : Met l y_Office_know ws_Office_know ROOM_Office_know (va_Pc [.ref h0, va_rf p1, .long p2] (fun U => mw D A σ U ∧ mn U ∧ wp_Office_know σ h0 p1 p2 K)) (va_Qv K (mw D A) A) 0 0 A := by
  refine Met.ofW (cc := c_Office_know) (maxL := 4) (ret := none) (by decide) rfl ?_
  intro p e s m args below meth c s₁ B hml hv
  obtain ⟨rfl, ⟨hH, hK, hA⟩, hn, h⟩ := hv
  have hx := B.exec
  have hb := B.bytes
  have hr := B.returns
  have hts := atoms_spec (ws := ws_Office_know) B.pre
  have hown : s.vm.findClass R_Office = some m.cls := findClass_of_methodNamed B.named
  have hlocks := B.notSynchronized
  have hts : ∀ w ∈ lw_g, w.before ([.ref h0, va_rf p1, .long p2] : List Value).toArray s = true := fun w hw => hts w (List.mem_cons_of_mem _ hw)
  have hS : va_S A s.heap s.heap [] := va_S.rf
  have hl := lv_entry ([.ref h0, va_rf p1, .long p2]) (n := 4) (by simp [lg_sl, cat_rf, cat_i, cat_l, cat_r])
  rw [lg_entry_eq]
  generalize (lg_sl ([.ref h0, va_rf p1, .long p2]) ++ List.replicate (4 - (lg_sl ([.ref h0, va_rf p1, .long p2])).length) Slot.unset).toArray = ls at hl ⊢
  have hle : lv_args 0 [.ref h0, va_rf p1, .long p2] = [(0, .ref h0), (1, va_rf p1), (2, .long p2)] := by simp [lv_args, cat_rf, cat_i, cat_l, cat_r]
  rw [hle] at hl
  have hl : lv_has ls 4 [(0, va_rf (some h0)), (1, va_rf p1), (2, .long p2)] := hl
  unfold wp_Office_know at h
  refine lv_lload_n hx hb d_Office_know_0 rfl (lv_at hl 2 rfl) ?_
  refine mr_aload_n hx hb d_Office_know_1 rfl (lv_at hl 0 rfl) ?_
  obtain ⟨t_1, h⟩ := h
  refine ms_get (σ := σ) (r := some h0) (a := h0) (fs := fl_4 σ h0) (ci := 4) (C := R_Office) (T := T_Office) (N := 9) hx hb hts in_4 hown hK hH rfl (cell_4 t_1) rfl 6 (by decide) (hts _ wd_44) (fun _ h9 => h9) (v := .long (st_J σ 166 h0)) rfl d_Office_know_2 ?_
  refine W.lcmp hx hb d_Office_know_5 ?_
  refine lv_if_eq (tgt := 24) hx hb d_Office_know_6 (by decide) (fun c_2 => ?_) (fun c_2 => ?_)
  · have h := h.1 c_2
    refine mr_aload_n hx hb d_Office_know_24 rfl (lv_at hl 0 rfl) ?_
    refine lv_dup hx hb d_Office_know_25 (cat_rf _) ?_
    refine ms_get (σ := σ) (r := some h0) (a := h0) (fs := fl_4 σ h0) (ci := 4) (C := R_Office) (T := T_Office) (N := 9) hx hb hts in_4 hown hK hH rfl (cell_4 t_1) rfl 7 (by decide) (hts _ wd_45) (fun _ h9 => h9) (v := .long (st_J σ 167 h0)) rfl d_Office_know_26 ?_
    refine mr_aload_n hx hb d_Office_know_29 rfl (lv_at hl 1 rfl) ?_
    obtain ⟨a_3, e_4, t_5, h⟩ := h
    refine ms_calll (va_runV (As := []) (rest := [.long (st_J σ 167 h0), va_rf (some h0)]) ⟨hx, hb, hml, hown, hts⟩ (mc_Order_sum l D A σ a_3 _) ⟨(callB_of 0 hts gw_Order_sum rfl rfl rfl (hts _ wd_5) (hts _ wd_239) (by decide +kernel) ⟨by decide, by decide⟩), (hts _ wd_211), (hts _ wd_212)⟩ ⟨mw_blind, mg_recv hK.1 hH (ci := 5) rfl (cell_5 t_5), fun U hU hW => ⟨rfl, mw_pass hH hK hA hS hU hW, mn_warm hW hn, h⟩⟩ rfl rfl hl.1 (by rw [e_4]; rfl) (lv_room (Nat.le_of_ble_eq_true rfl)) d_Office_know_30 ⟨by decide, by decide⟩) hS (fun r_6 σ_7 H locs h hH hK hS => ?_)
    refine lv_ladd hx hb d_Office_know_33 ?_
    obtain ⟨t_8, h⟩ := h
    obtain ⟨σ_9, z_10⟩ : ∃ y : ST, y = st_sJ σ_7 167 h0 ((((st_J σ 167 h0)) + r_6)) := ⟨_, rfl⟩
    have h := h σ_9 z_10
    refine ms_put (σ := σ_7) (r := some h0) (a := h0) (fs := fl_4 σ_7 h0) (ci := 4) (C := R_Office) (T := T_Office) (N := 9) (v := .long (((st_J σ 167 h0)) + r_6)) (ty := .long) hx hb hts in_4 ty_Office ty_Office_ok nm_Office hown hK hH hS rfl (cell_4 t_8) rfl 7 (by decide) (hts _ wd_45) (fun _ h9 => h9) rfl (by decide +kernel) rfl rfl (Nat.le_of_ble_eq_true rfl) d_Office_know_34 (σ1 := σ_9) (by rw [z_10]; exact put_4_7 σ_7 h0 ((((st_J σ 167 h0)) + r_6)) t_8) (by rw [z_10]; rfl) (by rw [z_10]; rfl) (fun H locs hH hK hS => ?_)
    have t_11 : st_tg σ_9 h0 = some 4 := by rw [z_10]; exact t_8
    refine mr_aload_n hx hb d_Office_know_37 rfl (lv_at hl 1 rfl) ?_
    refine mr_aload_n hx hb d_Office_know_38 rfl (lv_at hl 0 rfl) ?_
    refine ms_get (σ := σ_9) (r := some h0) (a := h0) (fs := fl_4 σ_9 h0) (ci := 4) (C := R_Office) (T := T_Office) (N := 9) hx hb hts in_4 hown hK hH rfl (cell_4 t_11) rfl 8 (by decide) (hts _ wd_46) (fun _ h9 => h9) (v := va_rf (st_R σ_9 168 h0)) rfl d_Office_know_39 ?_
    obtain ⟨t_12, h⟩ := h
    obtain ⟨σ_13, z_14⟩ : ∃ y : ST, y = st_sR σ_9 210 a_3 ((st_R σ_9 168 h0)) := ⟨_, rfl⟩
    have h := h σ_13 z_14
    refine ms_putN (σ := σ_9) (r := p1) (a := a_3) (fs := fl_5 σ_9 a_3) (ci := 5) (C := R_Order) (T := T_Order) (N := 11) (v := va_rf (st_R σ_9 168 h0)) (ty := (.object "OrderMoney$Order")) hx hb hts in_5 ty_Order ty_Order_ok nm_Order hown hK hH hS e_4 (cell_5 t_12) rfl 10 (by decide) (va_Nw.use rfl (hn _ wd_160 rfl)) (fun _ h9 => h9) rfl (by decide +kernel) (nar_rf _ _) (fit_rf _ _) (Nat.le_of_ble_eq_true rfl) d_Office_know_42 (σ1 := σ_13) (by rw [z_14]; exact put_5_10 σ_9 a_3 ((st_R σ_9 168 h0)) t_12) (by rw [z_14]; rfl) (by rw [z_14]; rfl) (fun H locs hH hK hS => ?_)
    have t_15 : st_tg σ_13 h0 = some 4 := by rw [z_14]; exact t_11
    have t_16 : st_tg σ_13 a_3 = some 5 := by rw [z_14]; exact t_12
    refine mr_aload_n hx hb d_Office_know_45 rfl (lv_at hl 0 rfl) ?_
    refine mr_aload_n hx hb d_Office_know_46 rfl (lv_at hl 1 rfl) ?_
    obtain ⟨σ_17, z_18⟩ : ∃ y : ST, y = st_sR σ_13 168 h0 p1 := ⟨_, rfl⟩
    have h := h σ_17 z_18
    refine ms_put (σ := σ_13) (r := some h0) (a := h0) (fs := fl_4 σ_13 h0) (ci := 4) (C := R_Office) (T := T_Office) (N := 9) (v := va_rf p1) (ty := (.object "OrderMoney$Order")) hx hb hts in_4 ty_Office ty_Office_ok nm_Office hown hK hH hS rfl (cell_4 t_15) rfl 8 (by decide) (hts _ wd_46) (fun _ h9 => h9) rfl (by decide +kernel) (nar_rf _ _) (fit_rf _ _) (Nat.le_of_ble_eq_true rfl) d_Office_know_47 (σ1 := σ_17) (by rw [z_18]; exact put_4_8 σ_13 h0 p1 t_15) (by rw [z_18]; rfl) (by rw [z_18]; rfl) (fun H locs hH hK hS => ?_)
    have t_19 : st_tg σ_17 h0 = some 4 := by rw [z_18]; exact t_15
    have t_20 : st_tg σ_17 a_3 = some 5 := by rw [z_18]; exact t_16
    exact W.vret hx hb hr (fun t ht hW => ⟨⟨σ_17, rfl, h, mw_pass hH hK hA hS ht hW⟩, hS.F ht⟩) hS.2.2 d_Office_know_50
  · have h := h.2 c_2
    refine mr_aload_n hx hb d_Office_know_9 rfl (lv_at hl 0 rfl) ?_
    refine lv_lload_n hx hb d_Office_know_10 rfl (lv_at hl 2 rfl) ?_
    obtain ⟨σ_21, z_22⟩ : ∃ y : ST, y = st_sJ σ 166 h0 p2 := ⟨_, rfl⟩
    have h := h σ_21 z_22
    refine ms_put (σ := σ) (r := some h0) (a := h0) (fs := fl_4 σ h0) (ci := 4) (C := R_Office) (T := T_Office) (N := 9) (v := .long p2) (ty := .long) hx hb hts in_4 ty_Office ty_Office_ok nm_Office hown hK hH hS rfl (cell_4 t_1) rfl 6 (by decide) (hts _ wd_44) (fun _ h9 => h9) rfl (by decide +kernel) rfl rfl (Nat.le_of_ble_eq_true rfl) d_Office_know_11 (σ1 := σ_21) (by rw [z_22]; exact put_4_6 σ h0 p2 t_1) (by rw [z_22]; rfl) (by rw [z_22]; rfl) (fun H locs hH hK hS => ?_)
    have t_23 : st_tg σ_21 h0 = some 4 := by rw [z_22]; exact t_1
    refine mr_aload_n hx hb d_Office_know_14 rfl (lv_at hl 0 rfl) ?_
    refine lv_lconst (v := 0) hx hb d_Office_know_15 rfl ?_
    obtain ⟨σ_24, z_25⟩ : ∃ y : ST, y = st_sJ σ_21 167 h0 0 := ⟨_, rfl⟩
    have h := h σ_24 z_25
    refine ms_put (σ := σ_21) (r := some h0) (a := h0) (fs := fl_4 σ_21 h0) (ci := 4) (C := R_Office) (T := T_Office) (N := 9) (v := .long 0) (ty := .long) hx hb hts in_4 ty_Office ty_Office_ok nm_Office hown hK hH hS rfl (cell_4 t_23) rfl 7 (by decide) (hts _ wd_45) (fun _ h9 => h9) rfl (by decide +kernel) rfl rfl (Nat.le_of_ble_eq_true rfl) d_Office_know_16 (σ1 := σ_24) (by rw [z_25]; exact put_4_7 σ_21 h0 0 t_23) (by rw [z_25]; rfl) (by rw [z_25]; rfl) (fun H locs hH hK hS => ?_)
    have t_26 : st_tg σ_24 h0 = some 4 := by rw [z_25]; exact t_23
    refine mr_aload_n hx hb d_Office_know_19 rfl (lv_at hl 0 rfl) ?_
    refine mr_null hx hb d_Office_know_20 ?_
    obtain ⟨σ_27, z_28⟩ : ∃ y : ST, y = st_sR σ_24 168 h0 none := ⟨_, rfl⟩
    have h := h σ_27 z_28
    refine ms_put (σ := σ_24) (r := some h0) (a := h0) (fs := fl_4 σ_24 h0) (ci := 4) (C := R_Office) (T := T_Office) (N := 9) (v := va_rf none) (ty := (.object "OrderMoney$Order")) hx hb hts in_4 ty_Office ty_Office_ok nm_Office hown hK hH hS rfl (cell_4 t_26) rfl 8 (by decide) (hts _ wd_46) (fun _ h9 => h9) rfl (by decide +kernel) (nar_rf _ _) (fit_rf _ _) (Nat.le_of_ble_eq_true rfl) d_Office_know_21 (σ1 := σ_27) (by rw [z_28]; exact put_4_8 σ_24 h0 none t_26) (by rw [z_28]; rfl) (by rw [z_28]; rfl) (fun H locs hH hK hS => ?_)
    have t_29 : st_tg σ_27 h0 = some 4 := by rw [z_28]; exact t_26
    refine mr_aload_n hx hb d_Office_know_24 rfl (lv_at hl 0 rfl) ?_
    refine lv_dup hx hb d_Office_know_25 (cat_rf _) ?_
    refine ms_get (σ := σ_27) (r := some h0) (a := h0) (fs := fl_4 σ_27 h0) (ci := 4) (C := R_Office) (T := T_Office) (N := 9) hx hb hts in_4 hown hK hH rfl (cell_4 t_29) rfl 7 (by decide) (hts _ wd_45) (fun _ h9 => h9) (v := .long (st_J σ_27 167 h0)) rfl d_Office_know_26 ?_
    refine mr_aload_n hx hb d_Office_know_29 rfl (lv_at hl 1 rfl) ?_
    obtain ⟨a_30, e_31, t_32, h⟩ := h
    refine ms_calll (va_runV (As := []) (rest := [.long (st_J σ_27 167 h0), va_rf (some h0)]) ⟨hx, hb, hml, hown, hts⟩ (mc_Order_sum l D A σ_27 a_30 _) ⟨(callB_of 0 hts gw_Order_sum rfl rfl rfl (hts _ wd_5) (hts _ wd_239) (by decide +kernel) ⟨by decide, by decide⟩), (hts _ wd_211), (hts _ wd_212)⟩ ⟨mw_blind, mg_recv hK.1 hH (ci := 5) rfl (cell_5 t_32), fun U hU hW => ⟨rfl, mw_pass hH hK hA hS hU hW, mn_warm hW hn, h⟩⟩ rfl rfl hl.1 (by rw [e_31]; rfl) (lv_room (Nat.le_of_ble_eq_true rfl)) d_Office_know_30 ⟨by decide, by decide⟩) hS (fun r_33 σ_34 H locs h hH hK hS => ?_)
    refine lv_ladd hx hb d_Office_know_33 ?_
    obtain ⟨t_35, h⟩ := h
    obtain ⟨σ_36, z_37⟩ : ∃ y : ST, y = st_sJ σ_34 167 h0 ((((st_J σ_27 167 h0)) + r_33)) := ⟨_, rfl⟩
    have h := h σ_36 z_37
    refine ms_put (σ := σ_34) (r := some h0) (a := h0) (fs := fl_4 σ_34 h0) (ci := 4) (C := R_Office) (T := T_Office) (N := 9) (v := .long (((st_J σ_27 167 h0)) + r_33)) (ty := .long) hx hb hts in_4 ty_Office ty_Office_ok nm_Office hown hK hH hS rfl (cell_4 t_35) rfl 7 (by decide) (hts _ wd_45) (fun _ h9 => h9) rfl (by decide +kernel) rfl rfl (Nat.le_of_ble_eq_true rfl) d_Office_know_34 (σ1 := σ_36) (by rw [z_37]; exact put_4_7 σ_34 h0 ((((st_J σ_27 167 h0)) + r_33)) t_35) (by rw [z_37]; rfl) (by rw [z_37]; rfl) (fun H locs hH hK hS => ?_)
    have t_38 : st_tg σ_36 h0 = some 4 := by rw [z_37]; exact t_35
    refine mr_aload_n hx hb d_Office_know_37 rfl (lv_at hl 1 rfl) ?_
    refine mr_aload_n hx hb d_Office_know_38 rfl (lv_at hl 0 rfl) ?_
    refine ms_get (σ := σ_36) (r := some h0) (a := h0) (fs := fl_4 σ_36 h0) (ci := 4) (C := R_Office) (T := T_Office) (N := 9) hx hb hts in_4 hown hK hH rfl (cell_4 t_38) rfl 8 (by decide) (hts _ wd_46) (fun _ h9 => h9) (v := va_rf (st_R σ_36 168 h0)) rfl d_Office_know_39 ?_
    obtain ⟨t_39, h⟩ := h
    obtain ⟨σ_40, z_41⟩ : ∃ y : ST, y = st_sR σ_36 210 a_30 ((st_R σ_36 168 h0)) := ⟨_, rfl⟩
    have h := h σ_40 z_41
    refine ms_putN (σ := σ_36) (r := p1) (a := a_30) (fs := fl_5 σ_36 a_30) (ci := 5) (C := R_Order) (T := T_Order) (N := 11) (v := va_rf (st_R σ_36 168 h0)) (ty := (.object "OrderMoney$Order")) hx hb hts in_5 ty_Order ty_Order_ok nm_Order hown hK hH hS e_31 (cell_5 t_39) rfl 10 (by decide) (va_Nw.use rfl (hn _ wd_160 rfl)) (fun _ h9 => h9) rfl (by decide +kernel) (nar_rf _ _) (fit_rf _ _) (Nat.le_of_ble_eq_true rfl) d_Office_know_42 (σ1 := σ_40) (by rw [z_41]; exact put_5_10 σ_36 a_30 ((st_R σ_36 168 h0)) t_39) (by rw [z_41]; rfl) (by rw [z_41]; rfl) (fun H locs hH hK hS => ?_)
    have t_42 : st_tg σ_40 h0 = some 4 := by rw [z_41]; exact t_38
    have t_43 : st_tg σ_40 a_30 = some 5 := by rw [z_41]; exact t_39
    refine mr_aload_n hx hb d_Office_know_45 rfl (lv_at hl 0 rfl) ?_
    refine mr_aload_n hx hb d_Office_know_46 rfl (lv_at hl 1 rfl) ?_
    obtain ⟨σ_44, z_45⟩ : ∃ y : ST, y = st_sR σ_40 168 h0 p1 := ⟨_, rfl⟩
    have h := h σ_44 z_45
    refine ms_put (σ := σ_40) (r := some h0) (a := h0) (fs := fl_4 σ_40 h0) (ci := 4) (C := R_Office) (T := T_Office) (N := 9) (v := va_rf p1) (ty := (.object "OrderMoney$Order")) hx hb hts in_4 ty_Office ty_Office_ok nm_Office hown hK hH hS rfl (cell_4 t_42) rfl 8 (by decide) (hts _ wd_46) (fun _ h9 => h9) rfl (by decide +kernel) (nar_rf _ _) (fit_rf _ _) (Nat.le_of_ble_eq_true rfl) d_Office_know_47 (σ1 := σ_44) (by rw [z_45]; exact put_4_8 σ_40 h0 p1 t_42) (by rw [z_45]; rfl) (by rw [z_45]; rfl) (fun H locs hH hK hS => ?_)
    have t_46 : st_tg σ_44 h0 = some 4 := by rw [z_45]; exact t_42
    have t_47 : st_tg σ_44 a_30 = some 5 := by rw [z_45]; exact t_43
    exact W.vret hx hb hr (fun t ht hW => ⟨⟨σ_44, rfl, h, mw_pass hH hK hA hS ht hW⟩, hS.F ht⟩) hS.2.2 d_Office_know_50
def wb_Office_knownWith_7 (h0 : Nat) (K : Int32 → ST → Prop) : Nat → ST → Int32 → Int32 → Option Nat → Prop
  | 0, _, _, _, _ => False
  | n + 1, σ, v1, v2, v3 =>
  (((v3 = none) → K v2 σ) ∧
  ((¬ v3 = none) → ∃ a_3 : Nat, v3 = some a_3 ∧ st_tg σ a_3 = some 5 ∧ ((((¬ ((st_I σ 205 a_3)) = v1) → wb_Office_knownWith_7 h0 K n σ v1 v2 ((st_R σ 210 a_3))) ∧
  ((((st_I σ 205 a_3)) = v1) → ∀ x_7 : Int32, x_7 = v2 + 1 → (wb_Office_knownWith_7 h0 K n σ v1 x_7 ((st_R σ 210 a_3))))))))
def wp_Office_knownWith (σ : ST) (h0 : Nat) (p1 : Int32) (K : Int32 → ST → Prop) : Prop :=
  st_tg σ h0 = some 4 ∧ (∃ n : Nat, wb_Office_knownWith_7 h0 K n σ p1 0 ((st_R σ 168 h0)))
abbrev ROOM_Office_knownWith : Room := { frames := 0, cells := 0, slots := 0, locals := 0 }
set_option maxHeartbeats 4000000 in
set_option maxRecDepth 100000 in
theorem mc_Office_knownWith (l : Launch) (D : va_G) (A : Nat → Prop) (σ : ST) (h0 : Nat) (p1 : Int32) (K : Int32 → ST → Prop) : Met l y_Office_knownWith ws_Office_knownWith ROOM_Office_knownWith (va_Pc [.ref h0, .int p1] (fun U => mw D A σ U ∧ mn U ∧ wp_Office_knownWith σ h0 p1 K)) (va_Qi K (mw D A) A) 0 0 A := by
  refine Met.ofW (cc := c_Office_knownWith) (maxL := 4) (ret := (some .int)) (by decide) rfl ?_
  intro p e s m args below meth c s₁ B hml hv
  obtain ⟨rfl, ⟨hH, hK, hA⟩, hn, h⟩ := hv
  have hx := B.exec
  have hb := B.bytes
  have hr := B.returns
  have hts := atoms_spec (ws := ws_Office_knownWith) B.pre
  have hown : s.vm.findClass R_Office = some m.cls := findClass_of_methodNamed B.named
  have hlocks := B.notSynchronized
  have hts : ∀ w ∈ lw_g, w.before ([.ref h0, .int p1] : List Value).toArray s = true := fun w hw => hts w (List.mem_cons_of_mem _ hw)
  have b_7 : ∀ (n : Nat), ∀ (σ : ST) (v1 : Int32) (v2 : Int32) (v3 : Option Nat) (H : Heap) (locs : List Loc) (ls : Array Slot), mg_H D vwCl A (st_cell σ) H → mk_K D σ s → va_S A s.heap H locs → lv_has ls 4 [(1, .int v1), (2, .int v2), (3, va_rf v3)] → wb_Office_knownWith_7 h0 K n σ v1 v2 v3 → W p l e (headSpec ws_Office_knownWith ROOM_Office_knownWith).room s m ([.ref h0, .int p1] : List Value).toArray below meth c H locs 0 0 (MQ below (va_Qi K (mw D A) A) ([.ref h0, .int p1] : List Value).toArray s 0 0 A) (F0 m 7 ls []) := by
    intro n
    induction n with
    | zero =>
      intro σ v1 v2 v3 H locs ls hH hK hS hl h
      exact h.elim
    | succ n ih =>
      intro σ v1 v2 v3 H locs ls hH hK hS hl h
      unfold wb_Office_knownWith_7 at h
      refine mr_aload_n hx hb d_Office_knownWith_7 rfl (lv_at hl 2 rfl) ?_
      refine mr_ifnull (x := v3) (tgt := 30) hx hb d_Office_knownWith_8 (by decide) (fun c_2 => ?_) (fun c_2 => ?_)
      · have h := h.1 c_2
        refine lv_iload_n hx hb d_Office_knownWith_30 rfl (lv_at hl 1 rfl) ?_
        exact W.iret (v := v2) hx hb hr (fun t ht hW => ⟨⟨v2, σ, rfl, h, mw_pass hH hK hA hS ht hW⟩, hS.F ht⟩) hS.2.2 d_Office_knownWith_31
      · have h := h.2 c_2
        refine mr_aload_n hx hb d_Office_knownWith_11 rfl (lv_at hl 2 rfl) ?_
        obtain ⟨a_3, e_4, t_5, h⟩ := h
        refine ms_getN (σ := σ) (r := v3) (a := a_3) (fs := fl_5 σ a_3) (ci := 5) (C := R_Order) (T := T_Order) (N := 11) hx hb hts in_5 hown hK hH e_4 (cell_5 t_5) rfl 5 (by decide) (va_Nw.use rfl (hn _ wd_150 rfl)) (fun _ h9 => h9) (v := .int (st_I σ 205 a_3)) rfl d_Office_knownWith_12 ?_
        refine lv_iload_n hx hb d_Office_knownWith_15 rfl (lv_at hl 0 rfl) ?_
        refine lv_icmp_ne (tgt := 22) hx hb d_Office_knownWith_16 (by decide) (fun c_6 => ?_) (fun c_6 => ?_)
        · have h := h.1 c_6
          refine mr_aload_n hx hb d_Office_knownWith_22 rfl (lv_at hl 2 rfl) ?_
          refine ms_getN (σ := σ) (r := v3) (a := a_3) (fs := fl_5 σ a_3) (ci := 5) (C := R_Order) (T := T_Order) (N := 11) hx hb hts in_5 hown hK hH e_4 (cell_5 t_5) rfl 10 (by decide) (va_Nw.use rfl (hn _ wd_160 rfl)) (fun _ h9 => h9) (v := va_rf (st_R σ 210 a_3)) rfl d_Office_knownWith_23 ?_
          refine mr_astore_n (lv' := [(3, va_rf (st_R σ 210 a_3)), (1, .int v1), (2, .int v2)]) hx hb d_Office_knownWith_26 rfl hl (by decide) rfl (fun ls hl => ?_)
          refine lv_goto (tgt := 7) hx hb d_Office_knownWith_27 (by decide) ?_
          exact ih _ _ _ _ _ _ _ hH hK hS (lv_sub hl [1, 2, 0] rfl) h
        · have h := h.2 c_6
          obtain ⟨x_7, q_8⟩ : ∃ y : Int32, y = v2 + 1 := ⟨_, rfl⟩
          have h := h x_7 q_8
          refine lv_iinc (v := x_7) (lv' := [(2, .int x_7), (1, .int v1), (3, va_rf v3)]) hx hb d_Office_knownWith_19 hl (k := 1) rfl (by rw [q_8]; rfl) (by decide) rfl (fun ls hl => ?_)
          refine mr_aload_n hx hb d_Office_knownWith_22 rfl (lv_at hl 2 rfl) ?_
          refine ms_getN (σ := σ) (r := v3) (a := a_3) (fs := fl_5 σ a_3) (ci := 5) (C := R_Order) (T := T_Order) (N := 11) hx hb hts in_5 hown hK hH e_4 (cell_5 t_5) rfl 10 (by decide) (va_Nw.use rfl (hn _ wd_160 rfl)) (fun _ h9 => h9) (v := va_rf (st_R σ 210 a_3)) rfl d_Office_knownWith_23 ?_
          refine mr_astore_n (lv' := [(3, va_rf (st_R σ 210 a_3)), (2, .int x_7), (1, .int v1)]) hx hb d_Office_knownWith_26 rfl hl (by decide) rfl (fun ls hl => ?_)
          refine lv_goto (tgt := 7) hx hb d_Office_knownWith_27 (by decide) ?_
          exact ih _ _ _ _ _ _ _ hH hK hS (lv_sub hl [2, 1, 0] rfl) h
  have hS : va_S A s.heap s.heap [] := va_S.rf
  have hl := lv_entry ([.ref h0, .int p1]) (n := 4) (Nat.le_of_ble_eq_true rfl)
  rw [lg_entry_eq]
  generalize (lg_sl ([.ref h0, .int p1]) ++ List.replicate (4 - (lg_sl ([.ref h0, .int p1])).length) Slot.unset).toArray = ls at hl ⊢
  have hl : lv_has ls 4 [(0, va_rf (some h0)), (1, .int p1)] := hl
  unfold wp_Office_knownWith at h
  refine lv_iconst (v := 0) hx hb d_Office_knownWith_0 (by decide) ?_
  refine lv_istore_n (lv' := [(2, .int 0), (0, va_rf (some h0)), (1, .int p1)]) hx hb d_Office_knownWith_1 rfl hl (by decide) rfl (fun ls hl => ?_)
  refine mr_aload_n hx hb d_Office_knownWith_2 rfl (lv_at hl 1 rfl) ?_
  obtain ⟨t_1, h⟩ := h
  refine ms_get (σ := σ) (r := some h0) (a := h0) (fs := fl_4 σ h0) (ci := 4) (C := R_Office) (T := T_Office) (N := 9) hx hb hts in_4 hown hK hH rfl (cell_4 t_1) rfl 8 (by decide) (hts _ wd_46) (fun _ h9 => h9) (v := va_rf (st_R σ 168 h0)) rfl d_Office_knownWith_3 ?_
  refine mr_astore_n (lv' := [(3, va_rf (st_R σ 168 h0)), (2, .int 0), (0, va_rf (some h0)), (1, .int p1)]) hx hb d_Office_knownWith_6 rfl hl (by decide) rfl (fun ls hl => ?_)
  obtain ⟨n, h⟩ := h
  exact b_7 n _ _ _ _ _ _ _ hH hK hS (lv_sub hl [3, 1, 0] rfl) h
