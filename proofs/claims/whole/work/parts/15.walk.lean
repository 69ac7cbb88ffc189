def wb_X_pass_20 (h0 : Nat) (K : Int32 → ST → Prop) : Nat → ST → Int32 → Int32 → Int32 → Int32 → Prop
  | 0, _, _, _, _, _ => False
  | n + 1, σ, v1, v2, v3, v4 =>
  (((v2 ≤ v4) → st_tg σ h0 = some 0 ∧ (∀ σ_9 : ST, σ_9 = st_sI σ 8 h0 v3 → (K ((v2 - v3)) σ_9))) ∧
  ((¬ v2 ≤ v4) → st_tg σ h0 = some 0 ∧ (∃ a_13 : Nat, (st_R σ 7 h0) = some a_13 ∧ st_tg σ a_13 = some 312 ∧ (vp_in v4 (st_ln σ a_13) ∧ (vp_in v4 (st_ln σ a_13) ∧ (∀ σ_18 : ST, σ_18 = st_uR σ a_13 (Int32.toNatClampNeg v4) none → ((((((st_eR σ a_13 (Int32.toNatClampNeg v4))) = none) → ∀ x_23 : Int32, x_23 = v4 + 1 → (wb_X_pass_20 h0 K n σ_18 v1 v2 v3 x_23)) ∧
  ((¬ ((st_eR σ a_13 (Int32.toNatClampNeg v4))) = none) → wp_X_passOn σ_18 h0 ((st_eR σ a_13 (Int32.toNatClampNeg v4))) v1 (fun (r_25 : Int32) σ_26 =>
  (((¬ r_25 = 0) → ∀ x_28 : Int32, x_28 = v4 + 1 → (wb_X_pass_20 h0 K n σ_26 v1 v2 v3 x_28)) ∧
  ((r_25 = 0) → st_tg σ_26 h0 = some 0 ∧ (∃ a_31 : Nat, (st_R σ_26 7 h0) = some a_31 ∧ st_tg σ_26 a_31 = some 312 ∧ (vp_in v3 (st_ln σ_26 a_31) ∧ ((∀ y : Nat, (st_eR σ a_13 (Int32.toNatClampNeg v4)) = some y → st_tg σ_26 y = some 2) ∧ (∀ σ_36 : ST, σ_36 = st_uR σ_26 a_31 (Int32.toNatClampNeg v3) ((st_eR σ a_13 (Int32.toNatClampNeg v4))) → (∀ x_40 : Int32, x_40 = v3 + 1 → (∀ x_42 : Int32, x_42 = v4 + 1 → (wb_X_pass_20 h0 K n σ_36 v1 v2 x_40 x_42)))))))))))))))))))
def wp_X_pass (σ : ST) (h0 : Nat) (p1 : Int32) (K : Int32 → ST → Prop) : Prop :=
  wp_X_isCollectDay σ p1 (fun (r_1 : Int32) σ_2 =>
  (((¬ r_1 = 0) → st_tg σ_2 h0 = some 0 ∧ (∀ x_5 : Int32, x_5 = (st_I σ_2 8 h0) → (∃ n : Nat, wb_X_pass_20 h0 K n σ_2 p1 x_5 0 0))) ∧
  ((r_1 = 0) → K ((-102)) σ_2)))
abbrev ROOM_X_pass : Room := { frames := 2, cells := 0, slots := 0, locals := 44 }
set_option maxHeartbeats 4000000 in
set_option maxRecDepth 100000 in
theorem mc_X_pass (l : Launch) (D : va_G) (A : Nat → Prop) (σ : ST) (h0 : Nat) (p1 : Int32) (K : Int32 → ST → Prop) : Met l y_X_pass ws_X_pass ROOM_X_pass (va_Pc [.ref h0, .int p1] (fun U => mw D A σ U ∧ mn U ∧ wp_X_pass σ h0 p1 K)) (va_Qi K (mw D A) A) 0 0 A := by
  refine Met.ofW (cc := c_X_pass) (maxL := 6) (ret := (some .int)) (by decide) rfl ?_
  intro p e s m args below meth c s₁ B hml hv
  obtain ⟨rfl, ⟨hH, hK, hA⟩, hn, h⟩ := hv
  have hx := B.exec
  have hb := B.bytes
  have hr := B.returns
  have hts := atoms_spec (ws := ws_X_pass) B.pre
  have hown : s.vm.findClass R_X = some m.cls := findClass_of_methodNamed B.named
  have hlocks := B.notSynchronized
  have hts : ∀ w ∈ lw_g, w.before ([.ref h0, .int p1] : List Value).toArray s = true := fun w hw => hts w (List.mem_cons_of_mem _ hw)
  have b_20 : ∀ (n : Nat), ∀ (σ : ST) (v1 : Int32) (v2 : Int32) (v3 : Int32) (v4 : Int32) (H : Heap) (locs : List Loc) (ls : Array Slot), mg_H D vwCl A (st_cell σ) H → mk_K D σ s → va_S A s.heap H locs → lv_has ls 6 [(0, va_rf (some h0)), (1, .int v1), (2, .int v2), (3, .int v3), (4, .int v4)] → wb_X_pass_20 h0 K n σ v1 v2 v3 v4 → W p l e (headSpec ws_X_pass ROOM_X_pass).room s m ([.ref h0, .int p1] : List Value).toArray below meth c H locs 0 0 (MQ below (va_Qi K (mw D A) A) ([.ref h0, .int p1] : List Value).toArray s 0 0 A) (F0 m 20 ls []) := by
    intro n
    induction n with
    | zero =>
      intro σ v1 v2 v3 v4 H locs ls hH hK hS hl h
      exact h.elim
    | succ n ih =>
      intro σ v1 v2 v3 v4 H locs ls hH hK hS hl h
      unfold wb_X_pass_20 at h
      refine lv_iload hx hb d_X_pass_20 (lv_at hl 4 rfl) ?_
      refine lv_iload_n hx hb d_X_pass_22 rfl (lv_at hl 2 rfl) ?_
      refine lv_icmp_ge (tgt := 75) hx hb d_X_pass_23 (by decide) (fun c_7 => ?_) (fun c_7 => ?_)
      · have h := h.1 c_7
        refine mr_aload_n hx hb d_X_pass_75 rfl (lv_at hl 0 rfl) ?_
        refine lv_iload_n hx hb d_X_pass_76 rfl (lv_at hl 3 rfl) ?_
        obtain ⟨t_8, h⟩ := h
        obtain ⟨σ_9, z_10⟩ : ∃ y : ST, y = st_sI σ 8 h0 v3 := ⟨_, rfl⟩
        have h := h σ_9 z_10
        refine ms_put (σ := σ) (r := some h0) (a := h0) (fs := fl_0 σ h0) (ci := 0) (C := R_X) (T := T_X) (N := 10) (v := .int v3) (ty := .int) hx hb hts in_0 ty_X ty_X_ok nm_X hown hK hH hS rfl (cell_0 t_8) rfl 8 (by decide) (hts _ wd_87) (fun _ h9 => h9) rfl (by decide +kernel) rfl rfl (Nat.le_of_ble_eq_true rfl) d_X_pass_77 (σ1 := σ_9) (by rw [z_10]; exact put_0_8 σ h0 v3 t_8) (by rw [z_10]; rfl) (by rw [z_10]; rfl) (fun H locs hH hK hS => ?_)
        have t_11 : st_tg σ_9 h0 = some 0 := by rw [z_10]; exact t_8
        refine lv_iload_n hx hb d_X_pass_80 rfl (lv_at hl 2 rfl) ?_
        refine lv_iload_n hx hb d_X_pass_81 rfl (lv_at hl 3 rfl) ?_
        refine lv_isub hx hb d_X_pass_82 ?_
        exact W.iret (v := (v2 - v3)) hx hb hr (fun t ht hW => ⟨⟨(v2 - v3), σ_9, rfl, h, mw_pass hH hK hA hS ht hW⟩, hS.F ht⟩) hS.2.2 d_X_pass_83
      · have h := h.2 c_7
        refine mr_aload_n hx hb d_X_pass_26 rfl (lv_at hl 0 rfl) ?_
        obtain ⟨t_12, h⟩ := h
        refine ms_get (σ := σ) (r := some h0) (a := h0) (fs := fl_0 σ h0) (ci := 0) (C := R_X) (T := T_X) (N := 10) hx hb hts in_0 hown hK hH rfl (cell_0 t_12) rfl 7 (by decide) (hts _ wd_86) (fun _ h9 => h9) (v := va_rf (st_R σ 7 h0)) rfl d_X_pass_27 ?_
        refine lv_iload hx hb d_X_pass_30 (lv_at hl 4 rfl) ?_
        obtain ⟨a_13, e_14, t_15, h⟩ := h
        obtain ⟨b_16, h⟩ := h
        refine ms_aald (σ := σ) (r := (st_R σ 7 h0)) (a := a_13) hx hb hK hH e_14 t_15 rfl (cell_312 t_15) b_16 d_X_pass_32 ?_
        refine mr_astore (lv' := [(5, va_rf (st_eR σ a_13 (Int32.toNatClampNeg v4))), (0, va_rf (some h0)), (1, .int v1), (2, .int v2), (3, .int v3), (4, .int v4)]) hx hb d_X_pass_33 hl (by decide) rfl (fun ls hl => ?_)
        refine mr_aload_n hx hb d_X_pass_35 rfl (lv_at hl 1 rfl) ?_
        refine ms_get (σ := σ) (r := some h0) (a := h0) (fs := fl_0 σ h0) (ci := 0) (C := R_X) (T := T_X) (N := 10) hx hb hts in_0 hown hK hH rfl (cell_0 t_12) rfl 7 (by decide) (hts _ wd_86) (fun _ h9 => h9) (v := va_rf (st_R σ 7 h0)) rfl d_X_pass_36 ?_
        refine lv_iload hx hb d_X_pass_39 (lv_at hl 5 rfl) ?_
        refine mr_null hx hb d_X_pass_41 ?_
        obtain ⟨b_17, h⟩ := h
        obtain ⟨σ_18, z_19⟩ : ∃ y : ST, y = st_uR σ a_13 (Int32.toNatClampNeg v4) none := ⟨_, rfl⟩
        have h := h σ_18 z_19
        refine ms_aast (σ := σ) (r := (st_R σ 7 h0)) (a := a_13) (x := none) (w := (R_Collected, T_Collected, 3)) (ci := 2) hx hb rfl hK hH hS e_14 t_15 rfl (cell_312 t_15) (fun y hy => by cases hy) b_17 d_X_pass_42 (σ1 := σ_18) (by rw [z_19]; exact uput_312 σ a_13 _ none t_15) (by rw [z_19]; rfl) (by rw [z_19]; rfl) (fun H locs hH hK hS => ?_)
        have t_20 : st_tg σ_18 h0 = some 0 := by rw [z_19]; exact t_12
        have t_21 : st_tg σ_18 a_13 = some 312 := by rw [z_19]; exact t_15
        refine mr_aload hx hb d_X_pass_43 (lv_at hl 0 rfl) ?_
        refine mr_ifnull (x := (st_eR σ a_13 (Int32.toNatClampNeg v4))) (tgt := 69) hx hb d_X_pass_45 (by decide) (fun c_22 => ?_) (fun c_22 => ?_)
        · have h := h.1 c_22
          obtain ⟨x_23, q_24⟩ : ∃ y : Int32, y = v4 + 1 := ⟨_, rfl⟩
          have h := h x_23 q_24
          refine lv_iinc (v := x_23) (lv' := [(4, .int x_23), (5, va_rf (st_eR σ a_13 (Int32.toNatClampNeg v4))), (0, va_rf (some h0)), (1, .int v1), (2, .int v2), (3, .int v3)]) hx hb d_X_pass_69 hl (k := 5) rfl (by rw [q_24]; rfl) (by decide) rfl (fun ls hl => ?_)
          refine lv_goto (tgt := 20) hx hb d_X_pass_72 (by decide) ?_
          exact ih _ _ _ _ _ _ _ _ hH hK hS (lv_sub hl [2, 3, 4, 5, 0] rfl) h
        · have h := h.2 c_22
          refine mr_aload_n hx hb d_X_pass_48 rfl (lv_at hl 1 rfl) ?_
          refine mr_aload hx hb d_X_pass_49 (lv_at hl 0 rfl) ?_
          refine lv_iload_n hx hb d_X_pass_51 rfl (lv_at hl 2 rfl) ?_
          refine ms_calli (va_runV (As := [va_rf (st_eR σ a_13 (Int32.toNatClampNeg v4)), .int v1]) (rest := []) ⟨hx, hb, hml, hown, hts⟩ (mc_X_passOn l D A σ_18 h0 ((st_eR σ a_13 (Int32.toNatClampNeg v4))) v1 _) ⟨(callB_of 2 hts gw_X_passOn rfl rfl rfl (hts _ wd_1) (hts _ wd_381) (by decide +kernel) ⟨by decide, by decide⟩), (hts _ wd_383), (hts _ wq_10)⟩ ⟨mw_blind, mg_recv hK.1 hH (ci := 0) rfl (cell_0 t_20), fun U hU hW => ⟨rfl, mw_pass hH hK hA hS hU hW, mn_warm hW hn, h⟩⟩ rfl rfl hl.1 rfl (lv_room (Nat.le_of_ble_eq_true rfl)) d_X_pass_52 ⟨by decide, by decide⟩) hS (fun r_25 σ_26 H locs h hH hK hS => ?_)
          refine lv_if_ne (tgt := 69) hx hb d_X_pass_55 (by decide) (fun c_27 => ?_) (fun c_27 => ?_)
          · have h := h.1 c_27
            obtain ⟨x_28, q_29⟩ : ∃ y : Int32, y = v4 + 1 := ⟨_, rfl⟩
            have h := h x_28 q_29
            refine lv_iinc (v := x_28) (lv' := [(4, .int x_28), (5, va_rf (st_eR σ a_13 (Int32.toNatClampNeg v4))), (0, va_rf (some h0)), (1, .int v1), (2, .int v2), (3, .int v3)]) hx hb d_X_pass_69 hl (k := 5) rfl (by rw [q_29]; rfl) (by decide) rfl (fun ls hl => ?_)
            refine lv_goto (tgt := 20) hx hb d_X_pass_72 (by decide) ?_
            exact ih _ _ _ _ _ _ _ _ hH hK hS (lv_sub hl [2, 3, 4, 5, 0] rfl) h
          · have h := h.2 c_27
            refine mr_aload_n hx hb d_X_pass_58 rfl (lv_at hl 1 rfl) ?_
            obtain ⟨t_30, h⟩ := h
            refine ms_get (σ := σ_26) (r := some h0) (a := h0) (fs := fl_0 σ_26 h0) (ci := 0) (C := R_X) (T := T_X) (N := 10) hx hb hts in_0 hown hK hH rfl (cell_0 t_30) rfl 7 (by decide) (hts _ wd_86) (fun _ h9 => h9) (v := va_rf (st_R σ_26 7 h0)) rfl d_X_pass_59 ?_
            refine lv_iload_n hx hb d_X_pass_62 rfl (lv_at hl 4 rfl) ?_
            refine mr_aload hx hb d_X_pass_63 (lv_at hl 0 rfl) ?_
            obtain ⟨a_31, e_32, t_33, h⟩ := h
            obtain ⟨b_34, h⟩ := h
            obtain ⟨o_35, h⟩ := h
            obtain ⟨σ_36, z_37⟩ : ∃ y : ST, y = st_uR σ_26 a_31 (Int32.toNatClampNeg v3) ((st_eR σ a_13 (Int32.toNatClampNeg v4))) := ⟨_, rfl⟩
            have h := h σ_36 z_37
            refine ms_aast (σ := σ_26) (r := (st_R σ_26 7 h0)) (a := a_31) (x := (st_eR σ a_13 (Int32.toNatClampNeg v4))) (w := (R_Collected, T_Collected, 3)) (ci := 2) hx hb rfl hK hH hS e_32 t_33 rfl (cell_312 t_33) (fun y hy => ⟨_, cell_2 (o_35 y hy)⟩) b_34 d_X_pass_65 (σ1 := σ_36) (by rw [z_37]; exact uput_312 σ_26 a_31 _ ((st_eR σ a_13 (Int32.toNatClampNeg v4))) t_33) (by rw [z_37]; rfl) (by rw [z_37]; rfl) (fun H locs hH hK hS => ?_)
            have t_38 : st_tg σ_36 h0 = some 0 := by rw [z_37]; exact t_30
            have t_39 : st_tg σ_36 a_31 = some 312 := by rw [z_37]; exact t_33
            obtain ⟨x_40, q_41⟩ : ∃ y : Int32, y = v3 + 1 := ⟨_, rfl⟩
            have h := h x_40 q_41
            refine lv_iinc (v := x_40) (lv' := [(3, .int x_40), (5, va_rf (st_eR σ a_13 (Int32.toNatClampNeg v4))), (0, va_rf (some h0)), (1, .int v1), (2, .int v2), (4, .int v4)]) hx hb d_X_pass_66 hl (k := 4) rfl (by rw [q_41]; rfl) (by decide) rfl (fun ls hl => ?_)
            obtain ⟨x_42, q_43⟩ : ∃ y : Int32, y = v4 + 1 := ⟨_, rfl⟩
            have h := h x_42 q_43
            refine lv_iinc (v := x_42) (lv' := [(4, .int x_42), (3, .int x_40), (5, va_rf (st_eR σ a_13 (Int32.toNatClampNeg v4))), (0, va_rf (some h0)), (1, .int v1), (2, .int v2)]) hx hb d_X_pass_69 hl (k := 5) rfl (by rw [q_43]; rfl) (by decide) rfl (fun ls hl => ?_)
            refine lv_goto (tgt := 20) hx hb d_X_pass_72 (by decide) ?_
            exact ih _ _ _ _ _ _ _ _ hH hK hS (lv_sub hl [3, 4, 5, 1, 0] rfl) h
  have hS : va_S A s.heap s.heap [] := va_S.rf
  have hl := lv_entry ([.ref h0, .int p1]) (n := 6) (Nat.le_of_ble_eq_true rfl)
  rw [lg_entry_eq]
  generalize (lg_sl ([.ref h0, .int p1]) ++ List.replicate (6 - (lg_sl ([.ref h0, .int p1])).length) Slot.unset).toArray = ls at hl ⊢
  have hl : lv_has ls 6 [(0, va_rf (some h0)), (1, .int p1)] := hl
  unfold wp_X_pass at h
  refine lv_iload_n hx hb d_X_pass_0 rfl (lv_at hl 1 rfl) ?_
  refine ms_calli (va_runS (As := [.int p1]) (rest := []) ⟨hx, hb, hml, hown, hts⟩ (mc_X_isCollectDay l D A σ p1 _) ⟨(callB_of 1 hts gw_X_isCollectDay rfl rfl rfl (hts _ wd_1) (hts _ wd_356) (by decide +kernel) ⟨by decide, by decide⟩), (hts _ wd_357)⟩ ⟨mw_blind, fun U hU hW => ⟨rfl, mw_pass hH hK hA hS hU hW, mn_warm hW hn, h⟩⟩ rfl rfl hl.1 rfl (lv_room (Nat.le_of_ble_eq_true rfl)) d_X_pass_1 ⟨by decide, by decide⟩) hS (fun r_1 σ_2 H locs h hH hK hS => ?_)
  refine lv_if_ne (tgt := 10) hx hb d_X_pass_4 (by decide) (fun c_3 => ?_) (fun c_3 => ?_)
  · have h := h.1 c_3
    refine mr_aload_n hx hb d_X_pass_10 rfl (lv_at hl 0 rfl) ?_
    obtain ⟨t_4, h⟩ := h
    refine ms_get (σ := σ_2) (r := some h0) (a := h0) (fs := fl_0 σ_2 h0) (ci := 0) (C := R_X) (T := T_X) (N := 10) hx hb hts in_0 hown hK hH rfl (cell_0 t_4) rfl 8 (by decide) (hts _ wd_87) (fun _ h9 => h9) (v := .int (st_I σ_2 8 h0)) rfl d_X_pass_11 ?_
    refine lv_topi (fun x_5 q_6 => ?_)
    have h := h x_5 q_6
    refine lv_istore_n (lv' := [(2, .int x_5), (0, va_rf (some h0)), (1, .int p1)]) hx hb d_X_pass_14 rfl hl (by decide) rfl (fun ls hl => ?_)
    refine lv_iconst (v := 0) hx hb d_X_pass_15 (by decide) ?_
    refine lv_istore_n (lv' := [(3, .int 0), (2, .int x_5), (0, va_rf (some h0)), (1, .int p1)]) hx hb d_X_pass_16 rfl hl (by decide) rfl (fun ls hl => ?_)
    refine lv_iconst (v := 0) hx hb d_X_pass_17 (by decide) ?_
    refine lv_istore (lv' := [(4, .int 0), (3, .int 0), (2, .int x_5), (0, va_rf (some h0)), (1, .int p1)]) hx hb d_X_pass_18 hl (by decide) rfl (fun ls hl => ?_)
    obtain ⟨n, h⟩ := h
    exact b_20 n _ _ _ _ _ _ _ _ hH hK hS (lv_sub hl [3, 4, 2, 1, 0] rfl) h
  · have h := h.2 c_3
    refine lv_bipush (v := (-102)) hx hb d_X_pass_7 (by decide) ?_
    exact W.iret (v := (-102)) hx hb hr (fun t ht hW => ⟨⟨(-102), σ_2, rfl, h, mw_pass hH hK hA hS ht hW⟩, hS.F ht⟩) hS.2.2 d_X_pass_9
def wp_X_sendBack (σ : ST) (h0 : Nat) (p1 : Option Nat) (K : Int32 → ST → Prop) : Prop :=
  ∃ a_1 : Nat, p1 = some a_1 ∧ st_tg σ a_1 = some 5 ∧ (wp_Order_isUnpaid σ a_1 (fun (r_4 : Int32) σ_5 =>
  (((r_4 = 0) → K 0 σ_5) ∧
  ((¬ r_4 = 0) → st_tg σ_5 a_1 = some 5 ∧ (∃ a_8 : Nat, (st_R σ_5 201 a_1) = some a_8 ∧ st_tg σ_5 a_8 = some 4 ∧ (wp_Office_giveOut σ_5 a_8 ((st_J σ_5 202 a_1)) (fun (r_11 : Int32) σ_12 =>
  (((¬ r_11 = 0) → st_tg σ_12 h0 = some 0 ∧ (∃ a_15 : Nat, (st_R σ_12 9 h0) = some a_15 ∧ st_tg σ_12 a_15 = some 302 ∧ (vp_in 4 (st_ln σ_12 a_15) ∧ (st_tg σ_12 a_1 = some 5 ∧ (vp_in 4 (st_ln σ_12 a_15) ∧ (∀ σ_21 : ST, σ_21 = st_uJ σ_12 a_15 (Int32.toNatClampNeg 4) ((((st_eJ σ_12 a_15 (Int32.toNatClampNeg 4))) + ((st_J σ_12 202 a_1)))) → (wp_Order_become σ_21 a_1 3 (fun σ_27 =>
  K 1 σ_27)))))))) ∧
  ((r_11 = 0) → K 0 σ_12)))))))))
abbrev ROOM_X_sendBack : Room := { frames := 2, cells := 0, slots := 0, locals := 41 }
set_option maxHeartbeats 4000000 in
set_option maxRecDepth 100000 in
theorem mc_X_sendBack (l : Launch) (D : va_G) (A : Nat → Prop) (σ : ST) (h0 : Nat) (p1 : Option Nat) (K : Int32 → ST → Prop) : Met l y_X_sendBack ws_X_sendBack ROOM_X_sendBack (va_Pc [.ref h0, va_rf p1] (fun U => mw D A σ U ∧ mn U ∧ wp_X_sendBack σ h0 p1 K)) (va_Qi K (mw D A) A) 0 0 A := by
  refine Met.ofW (cc := c_X_sendBack) (maxL := 2) (ret := (some .boolean)) (by decide) rfl ?_
  intro p e s m args below meth c s₁ B hml hv
  obtain ⟨rfl, ⟨hH, hK, hA⟩, hn, h⟩ := hv
  have hx := B.exec
  have hb := B.bytes
  have hr := B.returns
  have hts := atoms_spec (ws := ws_X_sendBack) B.pre
  have hown : s.vm.findClass R_X = some m.cls := findClass_of_methodNamed B.named
  have hlocks := B.notSynchronized
  have hts : ∀ w ∈ lw_g, w.before ([.ref h0, va_rf p1] : List Value).toArray s = true := fun w hw => hts w (List.mem_cons_of_mem _ hw)
  have hS : va_S A s.heap s.heap [] := va_S.rf
  have hl := lv_entry ([.ref h0, va_rf p1]) (n := 2) (by simp [lg_sl, cat_rf, cat_i, cat_l, cat_r])
  rw [lg_entry_eq]
  generalize (lg_sl ([.ref h0, va_rf p1]) ++ List.replicate (2 - (lg_sl ([.ref h0, va_rf p1])).length) Slot.unset).toArray = ls at hl ⊢
  have hle : lv_args 0 [.ref h0, va_rf p1] = [(0, .ref h0), (1, va_rf p1)] := by simp [lv_args, cat_rf, cat_i, cat_l, cat_r]
  rw [hle] at hl
  have hl : lv_has ls 2 [(0, va_rf (some h0)), (1, va_rf p1)] := hl
  unfold wp_X_sendBack at h
  refine mr_aload_n hx hb d_X_sendBack_0 rfl (lv_at hl 1 rfl) ?_
  obtain ⟨a_1, e_2, t_3, h⟩ := h
  refine ms_calli (va_runV (As := []) (rest := []) ⟨hx, hb, hml, hown, hts⟩ (mc_Order_isUnpaid l D A σ a_1 _) ⟨(callB_of 0 hts gw_Order_isUnpaid rfl rfl rfl (hts _ wd_5) (hts _ wd_317) (by decide +kernel) ⟨by decide, by decide⟩), (hts _ wd_318), (hts _ wd_319)⟩ ⟨mw_blind, mg_recv hK.1 hH (ci := 5) rfl (cell_5 t_3), fun U hU hW => ⟨rfl, mw_pass hH hK hA hS hU hW, mn_warm hW hn, h⟩⟩ rfl rfl hl.1 (by rw [e_2]; rfl) (lv_room (Nat.le_of_ble_eq_true rfl)) d_X_sendBack_1 ⟨by decide, by decide⟩) hS (fun r_4 σ_5 H locs h hH hK hS => ?_)
  refine lv_if_eq (tgt := 21) hx hb d_X_sendBack_4 (by decide) (fun c_6 => ?_) (fun c_6 => ?_)
  · have h := h.1 c_6
    refine lv_iconst (v := 0) hx hb d_X_sendBack_21 (by decide) ?_
    exact W.zret (v := 0) hx hb hr rfl (fun t ht hW => ⟨⟨0, σ_5, rfl, h, mw_pass hH hK hA hS ht hW⟩, hS.F ht⟩) hS.2.2 d_X_sendBack_22
  · have h := h.2 c_6
    refine mr_aload_n hx hb d_X_sendBack_7 rfl (lv_at hl 1 rfl) ?_
    obtain ⟨t_7, h⟩ := h
    refine ms_getN (σ := σ_5) (r := p1) (a := a_1) (fs := fl_5 σ_5 a_1) (ci := 5) (C := R_Order) (T := T_Order) (N := 11) hx hb hts in_5 hown hK hH e_2 (cell_5 t_7) rfl 1 (by decide) (va_Nw.use rfl (hn _ wd_142 rfl)) (fun _ h9 => h9) (v := va_rf (st_R σ_5 201 a_1)) rfl d_X_sendBack_8 ?_
    refine mr_aload_n hx hb d_X_sendBack_11 rfl (lv_at hl 1 rfl) ?_
    refine ms_getN (σ := σ_5) (r := p1) (a := a_1) (fs := fl_5 σ_5 a_1) (ci := 5) (C := R_Order) (T := T_Order) (N := 11) hx hb hts in_5 hown hK hH e_2 (cell_5 t_7) rfl 2 (by decide) (va_Nw.use rfl (hn _ wd_144 rfl)) (fun _ h9 => h9) (v := .long (st_J σ_5 202 a_1)) rfl d_X_sendBack_12 ?_
    obtain ⟨a_8, e_9, t_10, h⟩ := h
    refine ms_calli (va_runV (As := [.long (st_J σ_5 202 a_1)]) (rest := []) ⟨hx, hb, hml, hown, hts⟩ (mc_Office_giveOut l D A σ_5 a_8 ((st_J σ_5 202 a_1)) _) ⟨(callB_of 1 hts gw_Office_giveOut rfl rfl rfl (hts _ wd_2) (hts _ wd_219) (by decide +kernel) ⟨by decide, by decide⟩), (hts _ wd_220), (hts _ wd_221)⟩ ⟨mw_blind, mg_recv hK.1 hH (ci := 4) rfl (cell_4 t_10), fun U hU hW => ⟨rfl, mw_pass hH hK hA hS hU hW, mn_warm hW hn, h⟩⟩ rfl rfl hl.1 (by rw [e_9]; rfl) (lv_room (Nat.le_of_ble_eq_true rfl)) d_X_sendBack_15 ⟨by decide, by decide⟩) hS (fun r_11 σ_12 H locs h hH hK hS => ?_)
    refine lv_if_ne (tgt := 23) hx hb d_X_sendBack_18 (by decide) (fun c_13 => ?_) (fun c_13 => ?_)
    · have h := h.1 c_13
      refine mr_aload_n hx hb d_X_sendBack_23 rfl (lv_at hl 0 rfl) ?_
      obtain ⟨t_14, h⟩ := h
      refine ms_get (σ := σ_12) (r := some h0) (a := h0) (fs := fl_0 σ_12 h0) (ci := 0) (C := R_X) (T := T_X) (N := 10) hx hb hts in_0 hown hK hH rfl (cell_0 t_14) rfl 9 (by decide) (hts _ wd_88) (fun _ h9 => h9) (v := va_rf (st_R σ_12 9 h0)) rfl d_X_sendBack_24 ?_
      refine lv_iconst (v := 4) hx hb d_X_sendBack_27 (by decide) ?_
      refine lv_dup2_11 hx hb d_X_sendBack_28 rfl (cat_rf _) ?_
      obtain ⟨a_15, e_16, t_17, h⟩ := h
      obtain ⟨b_18, h⟩ := h
      refine ms_lald (σ := σ_12) (r := (st_R σ_12 9 h0)) (a := a_15) hx hb hK hH e_16 t_17 rfl (cell_302 t_17) b_18 d_X_sendBack_29 ?_
      refine mr_aload_n hx hb d_X_sendBack_30 rfl (lv_at hl 1 rfl) ?_
      obtain ⟨t_19, h⟩ := h
      refine ms_getN (σ := σ_12) (r := p1) (a := a_1) (fs := fl_5 σ_12 a_1) (ci := 5) (C := R_Order) (T := T_Order) (N := 11) hx hb hts in_5 hown hK hH e_2 (cell_5 t_19) rfl 2 (by decide) (va_Nw.use rfl (hn _ wd_144 rfl)) (fun _ h9 => h9) (v := .long (st_J σ_12 202 a_1)) rfl d_X_sendBack_31 ?_
      refine lv_ladd hx hb d_X_sendBack_34 ?_
      obtain ⟨b_20, h⟩ := h
      obtain ⟨σ_21, z_22⟩ : ∃ y : ST, y = st_uJ σ_12 a_15 (Int32.toNatClampNeg 4) ((((st_eJ σ_12 a_15 (Int32.toNatClampNeg 4))) + ((st_J σ_12 202 a_1)))) := ⟨_, rfl⟩
      have h := h σ_21 z_22
      refine ms_last (σ := σ_12) (r := (st_R σ_12 9 h0)) (a := a_15) (x := (((st_eJ σ_12 a_15 (Int32.toNatClampNeg 4))) + ((st_J σ_12 202 a_1)))) hx hb hK hH hS e_16 t_17 rfl (cell_302 t_17)  b_20 d_X_sendBack_35 (σ1 := σ_21) (by rw [z_22]; exact uput_302 σ_12 a_15 _ ((((st_eJ σ_12 a_15 (Int32.toNatClampNeg 4))) + ((st_J σ_12 202 a_1)))) t_17) (by rw [z_22]; rfl) (by rw [z_22]; rfl) (fun H locs hH hK hS => ?_)
      have t_23 : st_tg σ_21 h0 = some 0 := by rw [z_22]; exact t_14
      have t_24 : st_tg σ_21 a_15 = some 302 := by rw [z_22]; exact t_17
      have t_25 : st_tg σ_21 a_1 = some 5 := by rw [z_22]; exact t_19
      refine mr_aload_n hx hb d_X_sendBack_36 rfl (lv_at hl 1 rfl) ?_
      refine lv_iconst (v := 3) hx hb d_X_sendBack_37 (by decide) ?_
      refine ms_callv (va_runV (As := [.int 3]) (rest := []) ⟨hx, hb, hml, hown, hts⟩ (mc_Order_become l D A σ_21 a_1 3 _) ⟨(callB_of 1 hts gw_Order_become rfl rfl rfl (hts _ wd_5) (hts _ wd_227) (by decide +kernel) ⟨by decide, by decide⟩), (hts _ wd_228), (hts _ wd_229)⟩ ⟨mw_blind, mg_recv hK.1 hH (ci := 5) rfl (cell_5 t_25), fun U hU hW => ⟨rfl, mw_pass hH hK hA hS hU hW, mn_warm hW hn, h⟩⟩ rfl rfl hl.1 (by rw [e_2]; rfl) (lv_room (Nat.le_of_ble_eq_true rfl)) d_X_sendBack_38 ⟨by decide, by decide⟩) hS (fun σ_27 H locs h hH hK hS => ?_)
      refine lv_iconst (v := 1) hx hb d_X_sendBack_41 (by decide) ?_
      exact W.zret (v := 1) hx hb hr rfl (fun t ht hW => ⟨⟨1, σ_27, rfl, h, mw_pass hH hK hA hS ht hW⟩, hS.F ht⟩) hS.2.2 d_X_sendBack_42
    · have h := h.2 c_13
      refine lv_iconst (v := 0) hx hb d_X_sendBack_21 (by decide) ?_
      exact W.zret (v := 0) hx hb hr rfl (fun t ht hW => ⟨⟨0, σ_12, rfl, h, mw_pass hH hK hA hS ht hW⟩, hS.F ht⟩) hS.2.2 d_X_sendBack_22
def wb_X_tick_14 (h0 : Nat) (K : Int32 → ST → Prop) : Nat → ST → Int64 → Int32 → Int32 → Prop
  | 0, _, _, _, _ => False
  | n + 1, σ, v1, v3, v4 =>
  st_tg σ h0 = some 0 ∧ ((((((st_I σ 3 h0)) ≤ v4) → K v3 σ) ∧
  ((¬ ((st_I σ 3 h0)) ≤ v4) → ∃ a_4 : Nat, (st_R σ 2 h0) = some a_4 ∧ st_tg σ a_4 = some 315 ∧ (vp_in v4 (st_ln σ a_4) ∧ ((((((st_eR σ a_4 (Int32.toNatClampNeg v4))) = none) → ∀ x_9 : Int32, x_9 = v4 + 1 → (wb_X_tick_14 h0 K n σ v1 v3 x_9)) ∧
  ((¬ ((st_eR σ a_4 (Int32.toNatClampNeg v4))) = none) → ∃ a_11 : Nat, (st_eR σ a_4 (Int32.toNatClampNeg v4)) = some a_11 ∧ st_tg σ a_11 = some 5 ∧ ((((0 ≤ ((lg_cmp ((st_J σ 203 a_11)) v1))) → ∀ x_15 : Int32, x_15 = v4 + 1 → (wb_X_tick_14 h0 K n σ v1 v3 x_15)) ∧
  ((¬ 0 ≤ ((lg_cmp ((st_J σ 203 a_11)) v1))) → wp_X_sendBack σ h0 ((st_eR σ a_4 (Int32.toNatClampNeg v4))) (fun (r_17 : Int32) σ_18 =>
  (((r_17 = 0) → ∀ x_20 : Int32, x_20 = v4 + 1 → (wb_X_tick_14 h0 K n σ_18 v1 v3 x_20)) ∧
  ((¬ r_17 = 0) → ∀ x_22 : Int32, x_22 = v3 + 1 → (∀ x_24 : Int32, x_24 = v4 + 1 → (wb_X_tick_14 h0 K n σ_18 v1 x_22 x_24)))))))))))))))
def wp_X_tick (σ : ST) (h0 : Nat) (p1 : Int64) (K : Int32 → ST → Prop) : Prop :=
  (((0 ≤ ((lg_cmp p1 0))) → ∃ n : Nat, wb_X_tick_14 h0 K n σ p1 0 0) ∧
  ((¬ 0 ≤ ((lg_cmp p1 0))) → K ((-102)) σ))
abbrev ROOM_X_tick : Room := { frames := 3, cells := 0, slots := 0, locals := 62 }
set_option maxHeartbeats 4000000 in
set_option maxRecDepth 100000 in
theorem mc_X_tick (l : Launch) (D : va_G) (A : Nat → Prop) (σ : ST) (h0 : Nat) (p1 : Int64) (K : Int32 → ST → Prop) : Met l y_X_tick ws_X_tick ROOM_X_tick (va_Pc [.ref h0, .long p1] (fun U => mw D A σ U ∧ mn U ∧ wp_X_tick σ h0 p1 K)) (va_Qi K (mw D A) A) 0 0 A := by
  refine Met.ofW (cc := c_X_tick) (maxL := 6) (ret := (some .int)) (by decide) rfl ?_
  intro p e s m args below meth c s₁ B hml hv
  obtain ⟨rfl, ⟨hH, hK, hA⟩, hn, h⟩ := hv
  have hx := B.exec
  have hb := B.bytes
  have hr := B.returns
  have hts := atoms_spec (ws := ws_X_tick) B.pre
  have hown : s.vm.findClass R_X = some m.cls := findClass_of_methodNamed B.named
  have hlocks := B.notSynchronized
  have hts : ∀ w ∈ lw_g, w.before ([.ref h0, .long p1] : List Value).toArray s = true := fun w hw => hts w (List.mem_cons_of_mem _ hw)
  have b_14 : ∀ (n : Nat), ∀ (σ : ST) (v1 : Int64) (v3 : Int32) (v4 : Int32) (H : Heap) (locs : List Loc) (ls : Array Slot), mg_H D vwCl A (st_cell σ) H → mk_K D σ s → va_S A s.heap H locs → lv_has ls 6 [(0, va_rf (some h0)), (1, .long v1), (3, .int v3), (4, .int v4)] → wb_X_tick_14 h0 K n σ v1 v3 v4 → W p l e (headSpec ws_X_tick ROOM_X_tick).room s m ([.ref h0, .long p1] : List Value).toArray below meth c H locs 0 0 (MQ below (va_Qi K (mw D A) A) ([.ref h0, .long p1] : List Value).toArray s 0 0 A) (F0 m 14 ls []) := by
    intro n
    induction n with
    | zero =>
      intro σ v1 v3 v4 H locs ls hH hK hS hl h
      exact h.elim
    | succ n ih =>
      intro σ v1 v3 v4 H locs ls hH hK hS hl h
      unfold wb_X_tick_14 at h
      refine lv_iload hx hb d_X_tick_14 (lv_at hl 3 rfl) ?_
      refine mr_aload_n hx hb d_X_tick_16 rfl (lv_at hl 0 rfl) ?_
      obtain ⟨t_2, h⟩ := h
      refine ms_get (σ := σ) (r := some h0) (a := h0) (fs := fl_0 σ h0) (ci := 0) (C := R_X) (T := T_X) (N := 10) hx hb hts in_0 hown hK hH rfl (cell_0 t_2) rfl 3 (by decide) (hts _ wd_82) (fun _ h9 => h9) (v := .int (st_I σ 3 h0)) rfl d_X_tick_17 ?_
      refine lv_icmp_ge (tgt := 65) hx hb d_X_tick_20 (by decide) (fun c_3 => ?_) (fun c_3 => ?_)
      · have h := h.1 c_3
        refine lv_iload_n hx hb d_X_tick_65 rfl (lv_at hl 2 rfl) ?_
        exact W.iret (v := v3) hx hb hr (fun t ht hW => ⟨⟨v3, σ, rfl, h, mw_pass hH hK hA hS ht hW⟩, hS.F ht⟩) hS.2.2 d_X_tick_66
      · have h := h.2 c_3
        refine mr_aload_n hx hb d_X_tick_23 rfl (lv_at hl 0 rfl) ?_
        refine ms_get (σ := σ) (r := some h0) (a := h0) (fs := fl_0 σ h0) (ci := 0) (C := R_X) (T := T_X) (N := 10) hx hb hts in_0 hown hK hH rfl (cell_0 t_2) rfl 2 (by decide) (hts _ wd_81) (fun _ h9 => h9) (v := va_rf (st_R σ 2 h0)) rfl d_X_tick_24 ?_
        refine lv_iload hx hb d_X_tick_27 (lv_at hl 3 rfl) ?_
        obtain ⟨a_4, e_5, t_6, h⟩ := h
        obtain ⟨b_7, h⟩ := h
        refine ms_aald (σ := σ) (r := (st_R σ 2 h0)) (a := a_4) hx hb hK hH e_5 t_6 rfl (cell_315 t_6) b_7 d_X_tick_29 ?_
        refine mr_astore (lv' := [(5, va_rf (st_eR σ a_4 (Int32.toNatClampNeg v4))), (0, va_rf (some h0)), (1, .long v1), (3, .int v3), (4, .int v4)]) hx hb d_X_tick_30 hl (by decide) rfl (fun ls hl => ?_)
        refine mr_aload hx hb d_X_tick_32 (lv_at hl 0 rfl) ?_
        refine mr_ifnull (x := (st_eR σ a_4 (Int32.toNatClampNeg v4))) (tgt := 59) hx hb d_X_tick_34 (by decide) (fun c_8 => ?_) (fun c_8 => ?_)
        · have h := h.1 c_8
          obtain ⟨x_9, q_10⟩ : ∃ y : Int32, y = v4 + 1 := ⟨_, rfl⟩
          have h := h x_9 q_10
          refine lv_iinc (v := x_9) (lv' := [(4, .int x_9), (5, va_rf (st_eR σ a_4 (Int32.toNatClampNeg v4))), (0, va_rf (some h0)), (1, .long v1), (3, .int v3)]) hx hb d_X_tick_59 hl (k := 4) rfl (by rw [q_10]; rfl) (by decide) rfl (fun ls hl => ?_)
          refine lv_goto (tgt := 14) hx hb d_X_tick_62 (by decide) ?_
          exact ih _ _ _ _ _ _ _ hH hK hS (lv_sub hl [2, 3, 4, 0] rfl) h
        · have h := h.2 c_8
          refine mr_aload hx hb d_X_tick_37 (lv_at hl 0 rfl) ?_
          obtain ⟨a_11, e_12, t_13, h⟩ := h
          refine ms_getN (σ := σ) (r := (st_eR σ a_4 (Int32.toNatClampNeg v4))) (a := a_11) (fs := fl_5 σ a_11) (ci := 5) (C := R_Order) (T := T_Order) (N := 11) hx hb hts in_5 hown hK hH e_12 (cell_5 t_13) rfl 3 (by decide) (va_Nw.use rfl (hn _ wd_146 rfl)) (fun _ h9 => h9) (v := .long (st_J σ 203 a_11)) rfl d_X_tick_39 ?_
          refine lv_lload_n hx hb d_X_tick_42 rfl (lv_at hl 2 rfl) ?_
          refine W.lcmp hx hb d_X_tick_43 ?_
          refine lv_if_ge (tgt := 59) hx hb d_X_tick_44 (by decide) (fun c_14 => ?_) (fun c_14 => ?_)
          · have h := h.1 c_14
            obtain ⟨x_15, q_16⟩ : ∃ y : Int32, y = v4 + 1 := ⟨_, rfl⟩
            have h := h x_15 q_16
            refine lv_iinc (v := x_15) (lv' := [(4, .int x_15), (5, va_rf (st_eR σ a_4 (Int32.toNatClampNeg v4))), (0, va_rf (some h0)), (1, .long v1), (3, .int v3)]) hx hb d_X_tick_59 hl (k := 4) rfl (by rw [q_16]; rfl) (by decide) rfl (fun ls hl => ?_)
            refine lv_goto (tgt := 14) hx hb d_X_tick_62 (by decide) ?_
            exact ih _ _ _ _ _ _ _ hH hK hS (lv_sub hl [2, 3, 4, 0] rfl) h
          · have h := h.2 c_14
            refine mr_aload_n hx hb d_X_tick_47 rfl (lv_at hl 1 rfl) ?_
            refine mr_aload hx hb d_X_tick_48 (lv_at hl 0 rfl) ?_
            refine ms_calli (va_runV (As := [va_rf (st_eR σ a_4 (Int32.toNatClampNeg v4))]) (rest := []) ⟨hx, hb, hml, hown, hts⟩ (mc_X_sendBack l D A σ h0 ((st_eR σ a_4 (Int32.toNatClampNeg v4))) _) ⟨(callB_of 1 hts gw_X_sendBack rfl rfl rfl (hts _ wd_1) (hts _ wd_389) (by decide +kernel) ⟨by decide, by decide⟩), (hts _ wd_391), (hts _ wq_11)⟩ ⟨mw_blind, mg_recv hK.1 hH (ci := 0) rfl (cell_0 t_2), fun U hU hW => ⟨rfl, mw_pass hH hK hA hS hU hW, mn_warm hW hn, h⟩⟩ rfl rfl hl.1 rfl (lv_room (Nat.le_of_ble_eq_true rfl)) d_X_tick_50 ⟨by decide, by decide⟩) hS (fun r_17 σ_18 H locs h hH hK hS => ?_)
            refine lv_if_eq (tgt := 59) hx hb d_X_tick_53 (by decide) (fun c_19 => ?_) (fun c_19 => ?_)
            · have h := h.1 c_19
              obtain ⟨x_20, q_21⟩ : ∃ y : Int32, y = v4 + 1 := ⟨_, rfl⟩
              have h := h x_20 q_21
              refine lv_iinc (v := x_20) (lv' := [(4, .int x_20), (5, va_rf (st_eR σ a_4 (Int32.toNatClampNeg v4))), (0, va_rf (some h0)), (1, .long v1), (3, .int v3)]) hx hb d_X_tick_59 hl (k := 4) rfl (by rw [q_21]; rfl) (by decide) rfl (fun ls hl => ?_)
              refine lv_goto (tgt := 14) hx hb d_X_tick_62 (by decide) ?_
              exact ih _ _ _ _ _ _ _ hH hK hS (lv_sub hl [2, 3, 4, 0] rfl) h
            · have h := h.2 c_19
              obtain ⟨x_22, q_23⟩ : ∃ y : Int32, y = v3 + 1 := ⟨_, rfl⟩
              have h := h x_22 q_23
              refine lv_iinc (v := x_22) (lv' := [(3, .int x_22), (5, va_rf (st_eR σ a_4 (Int32.toNatClampNeg v4))), (0, va_rf (some h0)), (1, .long v1), (4, .int v4)]) hx hb d_X_tick_56 hl (k := 3) rfl (by rw [q_23]; rfl) (by decide) rfl (fun ls hl => ?_)
              obtain ⟨x_24, q_25⟩ : ∃ y : Int32, y = v4 + 1 := ⟨_, rfl⟩
              have h := h x_24 q_25
              refine lv_iinc (v := x_24) (lv' := [(4, .int x_24), (3, .int x_22), (5, va_rf (st_eR σ a_4 (Int32.toNatClampNeg v4))), (0, va_rf (some h0)), (1, .long v1)]) hx hb d_X_tick_59 hl (k := 4) rfl (by rw [q_25]; rfl) (by decide) rfl (fun ls hl => ?_)
              refine lv_goto (tgt := 14) hx hb d_X_tick_62 (by decide) ?_
              exact ih _ _ _ _ _ _ _ hH hK hS (lv_sub hl [3, 4, 1, 0] rfl) h
  have hS : va_S A s.heap s.heap [] := va_S.rf
  have hl := lv_entry ([.ref h0, .long p1]) (n := 6) (Nat.le_of_ble_eq_true rfl)
  rw [lg_entry_eq]
  generalize (lg_sl ([.ref h0, .long p1]) ++ List.replicate (6 - (lg_sl ([.ref h0, .long p1])).length) Slot.unset).toArray = ls at hl ⊢
  have hl : lv_has ls 6 [(0, va_rf (some h0)), (1, .long p1)] := hl
  unfold wp_X_tick at h
  refine lv_lload_n hx hb d_X_tick_0 rfl (lv_at hl 1 rfl) ?_
  refine lv_lconst (v := 0) hx hb d_X_tick_1 rfl ?_
  refine W.lcmp hx hb d_X_tick_2 ?_
  refine lv_if_ge (tgt := 9) hx hb d_X_tick_3 (by decide) (fun c_1 => ?_) (fun c_1 => ?_)
  · have h := h.1 c_1
    refine lv_iconst (v := 0) hx hb d_X_tick_9 (by decide) ?_
    refine lv_istore_n (lv' := [(3, .int 0), (0, va_rf (some h0)), (1, .long p1)]) hx hb d_X_tick_10 rfl hl (by decide) rfl (fun ls hl => ?_)
    refine lv_iconst (v := 0) hx hb d_X_tick_11 (by decide) ?_
    refine lv_istore (lv' := [(4, .int 0), (3, .int 0), (0, va_rf (some h0)), (1, .long p1)]) hx hb d_X_tick_12 hl (by decide) rfl (fun ls hl => ?_)
    obtain ⟨n, h⟩ := h
    exact b_14 n _ _ _ _ _ _ _ hH hK hS (lv_sub hl [2, 3, 1, 0] rfl) h
  · have h := h.2 c_1
    refine lv_bipush (v := (-102)) hx hb d_X_tick_6 (by decide) ?_
    exact W.iret (v := (-102)) hx hb hr (fun t ht hW => ⟨⟨(-102), σ, rfl, h, mw_pass hH hK hA hS ht hW⟩, hS.F ht⟩) hS.2.2 d_X_tick_8
def wp_X_placeOf (σ : ST) (p0 : Option Nat) (K : Int64 → ST → Prop) : Prop :=
  (((¬ p0 = none) → ∃ a_2 : Nat, p0 = some a_2 ∧ st_tg σ a_2 = some 4 ∧ (K ((Int32.toInt64 ((st_I σ 160 a_2)))) σ)) ∧
  ((p0 = none) → K ((-1)) σ))
abbrev ROOM_X_placeOf : Room := { frames := 0, cells := 0, slots := 0, locals := 0 }
set_option maxHeartbeats 4000000 in
set_option maxRecDepth 100000 in
theorem mc_X_placeOf (l : Launch) (D : va_G) (A : Nat → Prop) (σ : ST) (p0 : Option Nat) (K : Int64 → ST → Prop) : Met l y_X_placeOf ws_X_placeOf ROOM_X_placeOf (va_Pc [va_rf p0] (fun U => mw D A σ U ∧ mn U ∧ wp_X_placeOf σ p0 K)) (va_Ql K (mw D A) A) 0 0 A := by
  refine Met.ofW (cc := c_X_placeOf) (maxL := 1) (ret := (some .long)) (by decide) rfl ?_
  intro p e s m args below meth c s₁ B hml hv
  obtain ⟨rfl, ⟨hH, hK, hA⟩, hn, h⟩ := hv
  have hx := B.exec
  have hb := B.bytes
  have hr := B.returns
  have hts := atoms_spec (ws := ws_X_placeOf) B.pre
  have hown : s.vm.findClass R_X = some m.cls := findClass_of_methodNamed B.named
  have hlocks := B.notSynchronized
  have hts : ∀ w ∈ lw_g, w.before ([va_rf p0] : List Value).toArray s = true := fun w hw => hts w (List.mem_cons_of_mem _ hw)
  have hS : va_S A s.heap s.heap [] := va_S.rf
  have hl := lv_entry ([va_rf p0]) (n := 1) (by simp [lg_sl, cat_rf, cat_i, cat_l, cat_r])
  rw [lg_entry_eq]
  generalize (lg_sl ([va_rf p0]) ++ List.replicate (1 - (lg_sl ([va_rf p0])).length) Slot.unset).toArray = ls at hl ⊢
  have hle : lv_args 0 [va_rf p0] = [(0, va_rf p0)] := by simp [lv_args, cat_rf, cat_i, cat_l, cat_r]
  rw [hle] at hl
  have hl : lv_has ls 1 [(0, va_rf p0)] := hl
  unfold wp_X_placeOf at h
  refine mr_aload_n hx hb d_X_placeOf_0 rfl (lv_at hl 0 rfl) ?_
  refine mr_ifnonnull (x := p0) (tgt := 10) hx hb d_X_placeOf_1 (by decide) (fun c_1 => ?_) (fun c_1 => ?_)
  · have h := h.1 c_1
    refine mr_aload_n hx hb d_X_placeOf_10 rfl (lv_at hl 0 rfl) ?_
    obtain ⟨a_2, e_3, t_4, h⟩ := h
    refine ms_getN (σ := σ) (r := p0) (a := a_2) (fs := fl_4 σ a_2) (ci := 4) (C := R_Office) (T := T_Office) (N := 9) hx hb hts in_4 hown hK hH e_3 (cell_4 t_4) rfl 0 (by decide) (va_Nw.use rfl (hn _ wd_34 rfl)) (fun _ h9 => h9) (v := .int (st_I σ 160 a_2)) rfl d_X_placeOf_11 ?_
    refine lv_i2l hx hb d_X_placeOf_14 rfl ?_
    exact W.lret (v := (Int32.toInt64 ((st_I σ 160 a_2)))) hx hb hr (fun t ht hW => ⟨⟨(Int32.toInt64 ((st_I σ 160 a_2))), σ, rfl, h, mw_pass hH hK hA hS ht hW⟩, hS.F ht⟩) hS.2.2 d_X_placeOf_15
  · have h := h.2 c_1
    refine lv_ldc2 (v := (-1)) hx hb hown (hts _ wd_347) d_X_placeOf_4 ?_
    refine lv_goto (tgt := 15) hx hb d_X_placeOf_7 (by decide) ?_
    exact W.lret (v := (-1)) hx hb hr (fun t ht hW => ⟨⟨(-1), σ, rfl, h, mw_pass hH hK hA hS ht hW⟩, hS.F ht⟩) hS.2.2 d_X_placeOf_15
def wp_X_about (σ : ST) (h0 : Nat) (p1 : Int64) (p3 : Int32) (K : Int64 → ST → Prop) : Prop :=
  st_tg σ h0 = some 0 ∧ (wp_X_find σ h0 p1 (fun (r_2 : Option Nat) σ_3 =>
  (((¬ r_2 = none) → (((p3 = 0) → ∃ a_6 : Nat, r_2 = some a_6 ∧ st_tg σ_3 a_6 = some 5 ∧ (K ((Int32.toInt64 ((st_I σ_3 206 a_6)))) σ_3)) ∧
  ((¬ p3 = 0) → ((p3 = 1) → ∃ a_10 : Nat, r_2 = some a_10 ∧ st_tg σ_3 a_10 = some 5 ∧ (K ((st_J σ_3 202 a_10)) σ_3)) ∧
  ((¬ p3 = 1) → ((p3 = 2) → ∃ a_14 : Nat, r_2 = some a_14 ∧ st_tg σ_3 a_14 = some 5 ∧ (∃ a_17 : Nat, (st_R σ_3 201 a_14) = some a_17 ∧ st_tg σ_3 a_17 = some 4 ∧ (K ((Int32.toInt64 ((st_I σ_3 160 a_17)))) σ_3))) ∧
  ((¬ p3 = 2) → ((p3 = 3) → ∃ a_21 : Nat, r_2 = some a_21 ∧ st_tg σ_3 a_21 = some 5 ∧ (wp_X_placeOf σ_3 ((st_R σ_3 209 a_21)) (fun (r_24 : Int64) σ_25 =>
  K r_24 σ_25))) ∧
  ((¬ p3 = 3) → ((p3 = 4) → ∃ a_27 : Nat, r_2 = some a_27 ∧ st_tg σ_3 a_27 = some 5 ∧ (wp_X_placeOf σ_3 ((st_R σ_3 208 a_27)) (fun (r_30 : Int64) σ_31 =>
  K r_30 σ_31))) ∧
  ((¬ p3 = 4) → ((p3 = 5) → ∃ a_33 : Nat, r_2 = some a_33 ∧ st_tg σ_3 a_33 = some 5 ∧ (wp_Order_sum σ_3 a_33 (fun (r_36 : Int64) σ_37 =>
  K r_36 σ_37))) ∧
  ((¬ p3 = 5) → K ((-102)) σ_3)))))))) ∧
  ((r_2 = none) → K ((-101)) σ_3))))
abbrev ROOM_X_about : Room := { frames := 1, cells := 0, slots := 0, locals := 25 }
set_option maxHeartbeats 4000000 in
set_option maxRecDepth 100000 in
theorem mc_X_about (l : Launch) (D : va_G) (A : Nat → Prop) (σ : ST) (h0 : Nat) (p1 : Int64) (p3 : Int32) (K : Int64 → ST → Prop) : Met l y_X_about ws_X_about ROOM_X_about (va_Pc [.ref h0, .long p1, .int p3] (fun U => mw D A σ U ∧ mn U ∧ wp_X_about σ h0 p1 p3 K)) (va_Ql K (mw D A) A) 0 0 A := by
  refine Met.ofW (cc := c_X_about) (maxL := 5) (ret := (some .long)) (by decide) rfl ?_
  intro p e s m args below meth c s₁ B hml hv
  obtain ⟨rfl, ⟨hH, hK, hA⟩, hn, h⟩ := hv
  have hx := B.exec
  have hb := B.bytes
  have hr := B.returns
  have hts := atoms_spec (ws := ws_X_about) B.pre
  have hown : s.vm.findClass R_X = some m.cls := findClass_of_methodNamed B.named
  have hlocks := B.notSynchronized
  have hts : ∀ w ∈ lw_g, w.before ([.ref h0, .long p1, .int p3] : List Value).toArray s = true := fun w hw => hts w (List.mem_cons_of_mem _ hw)
  have hS : va_S A s.heap s.heap [] := va_S.rf
  have hl := lv_entry ([.ref h0, .long p1, .int p3]) (n := 5) (Nat.le_of_ble_eq_true rfl)
  rw [lg_entry_eq]
  generalize (lg_sl ([.ref h0, .long p1, .int p3]) ++ List.replicate (5 - (lg_sl ([.ref h0, .long p1, .int p3])).length) Slot.unset).toArray = ls at hl ⊢
  have hl : lv_has ls 5 [(0, va_rf (some h0)), (1, .long p1), (3, .int p3)] := hl
  unfold wp_X_about at h
  refine mr_aload_n hx hb d_X_about_0 rfl (lv_at hl 0 rfl) ?_
  refine lv_lload_n hx hb d_X_about_1 rfl (lv_at hl 1 rfl) ?_
  obtain ⟨t_1, h⟩ := h
  refine ms_callq (va_runV (As := [.long p1]) (rest := []) ⟨hx, hb, hml, hown, hts⟩ (mc_X_find l D A σ h0 p1 _) ⟨(callB_of 1 hts gw_X_find rfl rfl rfl (hts _ wd_1) (hts _ wd_188) (by decide +kernel) ⟨by decide, by decide⟩), (hts _ wd_190), (hts _ wq_3)⟩ ⟨mw_blind, mg_recv hK.1 hH (ci := 0) rfl (cell_0 t_1), fun U hU hW => ⟨rfl, mw_pass hH hK hA hS hU hW, mn_warm hW hn, h⟩⟩ rfl rfl hl.1 rfl (lv_room (Nat.le_of_ble_eq_true rfl)) d_X_about_2 ⟨by decide, by decide⟩) hS (fun r_2 σ_3 H locs h hH hK hS => ?_)
  refine mr_astore (lv' := [(4, va_rf r_2), (0, va_rf (some h0)), (1, .long p1), (3, .int p3)]) hx hb d_X_about_5 hl (by decide) rfl (fun ls hl => ?_)
  refine mr_aload hx hb d_X_about_7 (lv_at hl 0 rfl) ?_
  refine mr_ifnonnull (x := r_2) (tgt := 16) hx hb d_X_about_9 (by decide) (fun c_4 => ?_) (fun c_4 => ?_)
  · have h := h.1 c_4
    refine lv_iload_n hx hb d_X_about_16 rfl (lv_at hl 3 rfl) ?_
    by_cases c_5 : p3 = 0
    · have h := h.1 c_5
      refine lv_tableIn (off := 39) (tgt := 56) hx hb d_X_about_17 (by rw [c_5]; decide) (by rw [c_5]; decide) (by rw [c_5]; decide) (by decide) ?_
      refine mr_aload hx hb d_X_about_56 (lv_at hl 0 rfl) ?_
      obtain ⟨a_6, e_7, t_8, h⟩ := h
      refine ms_getN (σ := σ_3) (r := r_2) (a := a_6) (fs := fl_5 σ_3 a_6) (ci := 5) (C := R_Order) (T := T_Order) (N := 11) hx hb hts in_5 hown hK hH e_7 (cell_5 t_8) rfl 6 (by decide) (va_Nw.use rfl (hn _ wd_153 rfl)) (fun _ h9 => h9) (v := .int (st_I σ_3 206 a_6)) rfl d_X_about_58 ?_
      refine lv_i2l hx hb d_X_about_61 rfl ?_
      exact W.lret (v := (Int32.toInt64 ((st_I σ_3 206 a_6)))) hx hb hr (fun t ht hW => ⟨⟨(Int32.toInt64 ((st_I σ_3 206 a_6))), σ_3, rfl, h, mw_pass hH hK hA hS ht hW⟩, hS.F ht⟩) hS.2.2 d_X_about_62
    · have h := h.2 c_5
      by_cases c_9 : p3 = 1
      · have h := h.1 c_9
        refine lv_tableIn (off := 46) (tgt := 63) hx hb d_X_about_17 (by rw [c_9]; decide) (by rw [c_9]; decide) (by rw [c_9]; decide) (by decide) ?_
        refine mr_aload hx hb d_X_about_63 (lv_at hl 0 rfl) ?_
        obtain ⟨a_10, e_11, t_12, h⟩ := h
        refine ms_getN (σ := σ_3) (r := r_2) (a := a_10) (fs := fl_5 σ_3 a_10) (ci := 5) (C := R_Order) (T := T_Order) (N := 11) hx hb hts in_5 hown hK hH e_11 (cell_5 t_12) rfl 2 (by decide) (va_Nw.use rfl (hn _ wd_144 rfl)) (fun _ h9 => h9) (v := .long (st_J σ_3 202 a_10)) rfl d_X_about_65 ?_
        exact W.lret (v := (st_J σ_3 202 a_10)) hx hb hr (fun t ht hW => ⟨⟨(st_J σ_3 202 a_10), σ_3, rfl, h, mw_pass hH hK hA hS ht hW⟩, hS.F ht⟩) hS.2.2 d_X_about_68
      · have h := h.2 c_9
        by_cases c_13 : p3 = 2
        · have h := h.1 c_13
          refine lv_tableIn (off := 52) (tgt := 69) hx hb d_X_about_17 (by rw [c_13]; decide) (by rw [c_13]; decide) (by rw [c_13]; decide) (by decide) ?_
          refine mr_aload hx hb d_X_about_69 (lv_at hl 0 rfl) ?_
          obtain ⟨a_14, e_15, t_16, h⟩ := h
          refine ms_getN (σ := σ_3) (r := r_2) (a := a_14) (fs := fl_5 σ_3 a_14) (ci := 5) (C := R_Order) (T := T_Order) (N := 11) hx hb hts in_5 hown hK hH e_15 (cell_5 t_16) rfl 1 (by decide) (va_Nw.use rfl (hn _ wd_142 rfl)) (fun _ h9 => h9) (v := va_rf (st_R σ_3 201 a_14)) rfl d_X_about_71 ?_
          obtain ⟨a_17, e_18, t_19, h⟩ := h
          refine ms_getN (σ := σ_3) (r := (st_R σ_3 201 a_14)) (a := a_17) (fs := fl_4 σ_3 a_17) (ci := 4) (C := R_Office) (T := T_Office) (N := 9) hx hb hts in_4 hown hK hH e_18 (cell_4 t_19) rfl 0 (by decide) (va_Nw.use rfl (hn _ wd_34 rfl)) (fun _ h9 => h9) (v := .int (st_I σ_3 160 a_17)) rfl d_X_about_74 ?_
          refine lv_i2l hx hb d_X_about_77 rfl ?_
          exact W.lret (v := (Int32.toInt64 ((st_I σ_3 160 a_17)))) hx hb hr (fun t ht hW => ⟨⟨(Int32.toInt64 ((st_I σ_3 160 a_17))), σ_3, rfl, h, mw_pass hH hK hA hS ht hW⟩, hS.F ht⟩) hS.2.2 d_X_about_78
        · have h := h.2 c_13
          by_cases c_20 : p3 = 3
          · have h := h.1 c_20
            refine lv_tableIn (off := 62) (tgt := 79) hx hb d_X_about_17 (by rw [c_20]; decide) (by rw [c_20]; decide) (by rw [c_20]; decide) (by decide) ?_
            refine mr_aload hx hb d_X_about_79 (lv_at hl 0 rfl) ?_
            obtain ⟨a_21, e_22, t_23, h⟩ := h
            refine ms_getN (σ := σ_3) (r := r_2) (a := a_21) (fs := fl_5 σ_3 a_21) (ci := 5) (C := R_Order) (T := T_Order) (N := 11) hx hb hts in_5 hown hK hH e_22 (cell_5 t_23) rfl 9 (by decide) (va_Nw.use rfl (hn _ wd_159 rfl)) (fun _ h9 => h9) (v := va_rf (st_R σ_3 209 a_21)) rfl d_X_about_81 ?_
            refine ms_calll (va_runS (As := [va_rf (st_R σ_3 209 a_21)]) (rest := []) ⟨hx, hb, hml, hown, hts⟩ (mc_X_placeOf l D A σ_3 ((st_R σ_3 209 a_21)) _) ⟨(callB_of 1 hts gw_X_placeOf rfl rfl rfl (hts _ wd_1) (hts _ wd_397) (by decide +kernel) ⟨by decide, by decide⟩), (hts _ wd_398)⟩ ⟨mw_blind, fun U hU hW => ⟨rfl, mw_pass hH hK hA hS hU hW, mn_warm hW hn, h⟩⟩ rfl rfl hl.1 rfl (lv_room (Nat.le_of_ble_eq_true rfl)) d_X_about_84 ⟨by decide, by decide⟩) hS (fun r_24 σ_25 H locs h hH hK hS => ?_)
            exact W.lret (v := r_24) hx hb hr (fun t ht hW => ⟨⟨r_24, σ_25, rfl, h, mw_pass hH hK hA hS ht hW⟩, hS.F ht⟩) hS.2.2 d_X_about_87
          · have h := h.2 c_20
            by_cases c_26 : p3 = 4
            · have h := h.1 c_26
              refine lv_tableIn (off := 71) (tgt := 88) hx hb d_X_about_17 (by rw [c_26]; decide) (by rw [c_26]; decide) (by rw [c_26]; decide) (by decide) ?_
              refine mr_aload hx hb d_X_about_88 (lv_at hl 0 rfl) ?_
              obtain ⟨a_27, e_28, t_29, h⟩ := h
              refine ms_getN (σ := σ_3) (r := r_2) (a := a_27) (fs := fl_5 σ_3 a_27) (ci := 5) (C := R_Order) (T := T_Order) (N := 11) hx hb hts in_5 hown hK hH e_28 (cell_5 t_29) rfl 8 (by decide) (va_Nw.use rfl (hn _ wd_158 rfl)) (fun _ h9 => h9) (v := va_rf (st_R σ_3 208 a_27)) rfl d_X_about_90 ?_
              refine ms_calll (va_runS (As := [va_rf (st_R σ_3 208 a_27)]) (rest := []) ⟨hx, hb, hml, hown, hts⟩ (mc_X_placeOf l D A σ_3 ((st_R σ_3 208 a_27)) _) ⟨(callB_of 1 hts gw_X_placeOf rfl rfl rfl (hts _ wd_1) (hts _ wd_397) (by decide +kernel) ⟨by decide, by decide⟩), (hts _ wd_398)⟩ ⟨mw_blind, fun U hU hW => ⟨rfl, mw_pass hH hK hA hS hU hW, mn_warm hW hn, h⟩⟩ rfl rfl hl.1 rfl (lv_room (Nat.le_of_ble_eq_true rfl)) d_X_about_93 ⟨by decide, by decide⟩) hS (fun r_30 σ_31 H locs h hH hK hS => ?_)
              exact W.lret (v := r_30) hx hb hr (fun t ht hW => ⟨⟨r_30, σ_31, rfl, h, mw_pass hH hK hA hS ht hW⟩, hS.F ht⟩) hS.2.2 d_X_about_96
            · have h := h.2 c_26
              by_cases c_32 : p3 = 5
              · have h := h.1 c_32
                refine lv_tableIn (off := 80) (tgt := 97) hx hb d_X_about_17 (by rw [c_32]; decide) (by rw [c_32]; decide) (by rw [c_32]; decide) (by decide) ?_
                refine mr_aload hx hb d_X_about_97 (lv_at hl 0 rfl) ?_
                obtain ⟨a_33, e_34, t_35, h⟩ := h
                refine ms_calll (va_runV (As := []) (rest := []) ⟨hx, hb, hml, hown, hts⟩ (mc_Order_sum l D A σ_3 a_33 _) ⟨(callB_of 0 hts gw_Order_sum rfl rfl rfl (hts _ wd_5) (hts _ wd_210) (by decide +kernel) ⟨by decide, by decide⟩), (hts _ wd_211), (hts _ wd_212)⟩ ⟨mw_blind, mg_recv hK.1 hH (ci := 5) rfl (cell_5 t_35), fun U hU hW => ⟨rfl, mw_pass hH hK hA hS hU hW, mn_warm hW hn, h⟩⟩ rfl rfl hl.1 (by rw [e_34]; rfl) (lv_room (Nat.le_of_ble_eq_true rfl)) d_X_about_99 ⟨by decide, by decide⟩) hS (fun r_36 σ_37 H locs h hH hK hS => ?_)
                exact W.lret (v := r_36) hx hb hr (fun t ht hW => ⟨⟨r_36, σ_37, rfl, h, mw_pass hH hK hA hS ht hW⟩, hS.F ht⟩) hS.2.2 d_X_about_102
              · have h := h.2 c_32
                have c_5n := lv_neT (k := 0) (a := 0) c_5 rfl
                have c_9n := lv_neT (k := 1) (a := 1) c_9 rfl
                have c_13n := lv_neT (k := 2) (a := 2) c_13 rfl
                have c_20n := lv_neT (k := 3) (a := 3) c_20 rfl
                have c_26n := lv_neT (k := 4) (a := 4) c_26 rfl
                have c_32n := lv_neT (k := 5) (a := 5) c_32 rfl
                refine lv_tableOut (tgt := 103) hx hb d_X_about_17 (by omega) (by decide) ?_
                refine lv_ldc2 (v := (-102)) hx hb hown (hts _ wd_400) d_X_about_103 ?_
                exact W.lret (v := (-102)) hx hb hr (fun t ht hW => ⟨⟨(-102), σ_3, rfl, h, mw_pass hH hK hA hS ht hW⟩, hS.F ht⟩) hS.2.2 d_X_about_106
  · have h := h.2 c_4
    refine lv_ldc2 (v := (-101)) hx hb hown (hts _ wd_312) d_X_about_12 ?_
    exact W.lret (v := (-101)) hx hb hr (fun t ht hW => ⟨⟨(-101), σ_3, rfl, h, mw_pass hH hK hA hS ht hW⟩, hS.F ht⟩) hS.2.2 d_X_about_15
def wp_X_till (σ : ST) (h0 : Nat) (p1 : Int32) (K : Int64 → ST → Prop) : Prop :=
  st_tg σ h0 = some 0 ∧ (wp_X_officeAt σ h0 p1 (fun (r_2 : Option Nat) σ_3 =>
  (((¬ r_2 = none) → ∃ a_5 : Nat, r_2 = some a_5 ∧ st_tg σ_3 a_5 = some 4 ∧ (K ((st_J σ_3 161 a_5)) σ_3)) ∧
  ((r_2 = none) → K ((-102)) σ_3))))
abbrev ROOM_X_till : Room := { frames := 1, cells := 0, slots := 0, locals := 21 }
set_option maxHeartbeats 4000000 in
set_option maxRecDepth 100000 in
theorem mc_X_till (l : Launch) (D : va_G) (A : Nat → Prop) (σ : ST) (h0 : Nat) (p1 : Int32) (K : Int64 → ST → Prop) : Met l y_X_till ws_X_till ROOM_X_till (va_Pc [.ref h0, .int p1] (fun U => mw D A σ U ∧ mn U ∧ wp_X_till σ h0 p1 K)) (va_Ql K (mw D A) A) 0 0 A := by
  refine Met.ofW (cc := c_X_till) (maxL := 3) (ret := (some .long)) (by decide) rfl ?_
  intro p e s m args below meth c s₁ B hml hv
  obtain ⟨rfl, ⟨hH, hK, hA⟩, hn, h⟩ := hv
  have hx := B.exec
  have hb := B.bytes
  have hr := B.returns
  have hts := atoms_spec (ws := ws_X_till) B.pre
  have hown : s.vm.findClass R_X = some m.cls := findClass_of_methodNamed B.named
  have hlocks := B.notSynchronized
  have hts : ∀ w ∈ lw_g, w.before ([.ref h0, .int p1] : List Value).toArray s = true := fun w hw => hts w (List.mem_cons_of_mem _ hw)
  have hS : va_S A s.heap s.heap [] := va_S.rf
  have hl := lv_entry ([.ref h0, .int p1]) (n := 3) (Nat.le_of_ble_eq_true rfl)
  rw [lg_entry_eq]
  generalize (lg_sl ([.ref h0, .int p1]) ++ List.replicate (3 - (lg_sl ([.ref h0, .int p1])).length) Slot.unset).toArray = ls at hl ⊢
  have hl : lv_has ls 3 [(0, va_rf (some h0)), (1, .int p1)] := hl
  unfold wp_X_till at h
  refine mr_aload_n hx hb d_X_till_0 rfl (lv_at hl 0 rfl) ?_
  refine lv_iload_n hx hb d_X_till_1 rfl (lv_at hl 1 rfl) ?_
  obtain ⟨t_1, h⟩ := h
  refine ms_callq (va_runV (As := [.int p1]) (rest := []) ⟨hx, hb, hml, hown, hts⟩ (mc_X_officeAt l D A σ h0 p1 _) ⟨(callB_of 1 hts gw_X_officeAt rfl rfl rfl (hts _ wd_1) (hts _ wd_114) (by decide +kernel) ⟨by decide, by decide⟩), (hts _ wd_116), (hts _ wq_0)⟩ ⟨mw_blind, mg_recv hK.1 hH (ci := 0) rfl (cell_0 t_1), fun U hU hW => ⟨rfl, mw_pass hH hK hA hS hU hW, mn_warm hW hn, h⟩⟩ rfl rfl hl.1 rfl (lv_room (Nat.le_of_ble_eq_true rfl)) d_X_till_2 ⟨by decide, by decide⟩) hS (fun r_2 σ_3 H locs h hH hK hS => ?_)
  refine mr_astore_n (lv' := [(2, va_rf r_2), (0, va_rf (some h0)), (1, .int p1)]) hx hb d_X_till_5 rfl hl (by decide) rfl (fun ls hl => ?_)
  refine mr_aload_n hx hb d_X_till_6 rfl (lv_at hl 0 rfl) ?_
  refine mr_ifnonnull (x := r_2) (tgt := 16) hx hb d_X_till_7 (by decide) (fun c_4 => ?_) (fun c_4 => ?_)
  · have h := h.1 c_4
    refine mr_aload_n hx hb d_X_till_16 rfl (lv_at hl 0 rfl) ?_
    obtain ⟨a_5, e_6, t_7, h⟩ := h
    refine ms_getN (σ := σ_3) (r := r_2) (a := a_5) (fs := fl_4 σ_3 a_5) (ci := 4) (C := R_Office) (T := T_Office) (N := 9) hx hb hts in_4 hown hK hH e_6 (cell_4 t_7) rfl 1 (by decide) (va_Nw.use rfl (hn _ wd_35 rfl)) (fun _ h9 => h9) (v := .long (st_J σ_3 161 a_5)) rfl d_X_till_17 ?_
    exact W.lret (v := (st_J σ_3 161 a_5)) hx hb hr (fun t ht hW => ⟨⟨(st_J σ_3 161 a_5), σ_3, rfl, h, mw_pass hH hK hA hS ht hW⟩, hS.F ht⟩) hS.2.2 d_X_till_20
  · have h := h.2 c_4
    refine lv_ldc2 (v := (-102)) hx hb hown (hts _ wd_400) d_X_till_10 ?_
    refine lv_goto (tgt := 20) hx hb d_X_till_13 (by decide) ?_
    exact W.lret (v := (-102)) hx hb hr (fun t ht hW => ⟨⟨(-102), σ_3, rfl, h, mw_pass hH hK hA hS ht hW⟩, hS.F ht⟩) hS.2.2 d_X_till_20
def wp_X_all (σ : ST) (h0 : Nat) (p1 : Int32) (K : Int64 → ST → Prop) : Prop :=
  (((p1 < 0) → K ((-102)) σ) ∧
  ((¬ p1 < 0) → (((p1 < (9 : Int32)) → st_tg σ h0 = some 0 ∧ (∃ a_4 : Nat, (st_R σ 9 h0) = some a_4 ∧ st_tg σ a_4 = some 302 ∧ (vp_in p1 (st_ln σ a_4) ∧ (K ((st_eJ σ a_4 (Int32.toNatClampNeg p1))) σ)))) ∧
  ((¬ p1 < (9 : Int32)) → K ((-102)) σ))))
abbrev ROOM_X_all : Room := { frames := 0, cells := 0, slots := 0, locals := 0 }
set_option maxHeartbeats 4000000 in
set_option maxRecDepth 100000 in
theorem mc_X_all (l : Launch) (D : va_G) (A : Nat → Prop) (σ : ST) (h0 : Nat) (p1 : Int32) (K : Int64 → ST → Prop) : Met l y_X_all ws_X_all ROOM_X_all (va_Pc [.ref h0, .int p1] (fun U => mw D A σ U ∧ mn U ∧ wp_X_all σ h0 p1 K)) (va_Ql K (mw D A) A) 0 0 A := by
  refine Met.ofW (cc := c_X_all) (maxL := 2) (ret := (some .long)) (by decide) rfl ?_
  intro p e s m args below meth c s₁ B hml hv
  obtain ⟨rfl, ⟨hH, hK, hA⟩, hn, h⟩ := hv
  have hx := B.exec
  have hb := B.bytes
  have hr := B.returns
  have hts := atoms_spec (ws := ws_X_all) B.pre
  have hown : s.vm.findClass R_X = some m.cls := findClass_of_methodNamed B.named
  have hlocks := B.notSynchronized
  have hts : ∀ w ∈ lw_g, w.before ([.ref h0, .int p1] : List Value).toArray s = true := fun w hw => hts w (List.mem_cons_of_mem _ hw)
  have hS : va_S A s.heap s.heap [] := va_S.rf
  have hl := lv_entry ([.ref h0, .int p1]) (n := 2) (Nat.le_of_ble_eq_true rfl)
  rw [lg_entry_eq]
  generalize (lg_sl ([.ref h0, .int p1]) ++ List.replicate (2 - (lg_sl ([.ref h0, .int p1])).length) Slot.unset).toArray = ls at hl ⊢
  have hl : lv_has ls 2 [(0, va_rf (some h0)), (1, .int p1)] := hl
  unfold wp_X_all at h
  refine lv_iload_n hx hb d_X_all_0 rfl (lv_at hl 1 rfl) ?_
  refine lv_if_lt (tgt := 10) hx hb d_X_all_1 (by decide) (fun c_1 => ?_) (fun c_1 => ?_)
  · have h := h.1 c_1
    refine lv_ldc2 (v := (-102)) hx hb hown (hts _ wd_400) d_X_all_10 ?_
    refine lv_goto (tgt := 22) hx hb d_X_all_13 (by decide) ?_
    exact W.lret (v := (-102)) hx hb hr (fun t ht hW => ⟨⟨(-102), σ, rfl, h, mw_pass hH hK hA hS ht hW⟩, hS.F ht⟩) hS.2.2 d_X_all_22
  · have h := h.2 c_1
    refine lv_iload_n hx hb d_X_all_4 rfl (lv_at hl 1 rfl) ?_
    refine lv_bipush (v := 9) hx hb d_X_all_5 (by decide) ?_
    refine lv_icmp_lt (tgt := 16) hx hb d_X_all_7 (by decide) (fun c_2 => ?_) (fun c_2 => ?_)
    · have h := h.1 c_2
      refine mr_aload_n hx hb d_X_all_16 rfl (lv_at hl 0 rfl) ?_
      obtain ⟨t_3, h⟩ := h
      refine ms_get (σ := σ) (r := some h0) (a := h0) (fs := fl_0 σ h0) (ci := 0) (C := R_X) (T := T_X) (N := 10) hx hb hts in_0 hown hK hH rfl (cell_0 t_3) rfl 9 (by decide) (hts _ wd_88) (fun _ h9 => h9) (v := va_rf (st_R σ 9 h0)) rfl d_X_all_17 ?_
      refine lv_iload_n hx hb d_X_all_20 rfl (lv_at hl 1 rfl) ?_
      obtain ⟨a_4, e_5, t_6, h⟩ := h
      obtain ⟨b_7, h⟩ := h
      refine ms_lald (σ := σ) (r := (st_R σ 9 h0)) (a := a_4) hx hb hK hH e_5 t_6 rfl (cell_302 t_6) b_7 d_X_all_21 ?_
      exact W.lret (v := (st_eJ σ a_4 (Int32.toNatClampNeg p1))) hx hb hr (fun t ht hW => ⟨⟨(st_eJ σ a_4 (Int32.toNatClampNeg p1)), σ, rfl, h, mw_pass hH hK hA hS ht hW⟩, hS.F ht⟩) hS.2.2 d_X_all_22
    · have h := h.2 c_2
      refine lv_ldc2 (v := (-102)) hx hb hown (hts _ wd_400) d_X_all_10 ?_
      refine lv_goto (tgt := 22) hx hb d_X_all_13 (by decide) ?_
      exact W.lret (v := (-102)) hx hb hr (fun t ht hW => ⟨⟨(-102), σ, rfl, h, mw_pass hH hK hA hS ht hW⟩, hS.F ht⟩) hS.2.2 d_X_all_22
