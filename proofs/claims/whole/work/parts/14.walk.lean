def wp_X_cut (σ : ST) (h0 : Nat) (p1 : Int32) (p2 : Int32) (K : Int32 → ST → Prop) : Prop :=
  st_tg σ h0 = some 0 ∧ (wp_X_officeAt σ h0 p1 (fun (r_2 : Option Nat) σ_3 =>
  (((¬ r_2 = none) → ∃ a_5 : Nat, r_2 = some a_5 ∧ st_tg σ_3 a_5 = some 4 ∧ ((((¬ ((st_I σ_3 163 a_5)) = p2) → (p2 = 0 ∨ p2 = 1) ∧ (∀ σ_10 : ST, σ_10 = st_sI σ_3 163 a_5 p2 → ((((¬ p2 = 0) → K 1 σ_10) ∧
  ((p2 = 0) → st_tg σ_10 h0 = some 0 ∧ (wp_X_emptyListOf σ_10 h0 r_2 (fun σ_16 =>
  K 1 σ_16))))))) ∧
  ((((st_I σ_3 163 a_5)) = p2) → K 0 σ_3)))) ∧
  ((r_2 = none) → K ((-102)) σ_3))))
abbrev ROOM_X_cut : Room := { frames := 2, cells := 0, slots := 0, locals := 43 }
set_option maxHeartbeats 4000000 in
set_option maxRecDepth 100000 in
theorem mc_X_cut (l : Launch) (D : va_G) (A : Nat → Prop) (σ : ST) (h0 : Nat) (p1 : Int32) (p2 : Int32) (K : Int32 → ST → Prop) : Met l y_X_cut ws_X_cut ROOM_X_cut (va_Pc [.ref h0, .int p1, .int p2] (fun U => mw D A σ U ∧ mn U ∧ wp_X_cut σ h0 p1 p2 K)) (va_Qi K (mw D A) A) 0 0 A := by
  refine Met.ofW (cc := c_X_cut) (maxL := 4) (ret := (some .int)) (by decide) rfl ?_
  intro p e s m args below meth c s₁ B hml hv
  obtain ⟨rfl, ⟨hH, hK, hA⟩, hn, h⟩ := hv
  have hx := B.exec
  have hb := B.bytes
  have hr := B.returns
  have hts := atoms_spec (ws := ws_X_cut) B.pre
  have hown : s.vm.findClass R_X = some m.cls := findClass_of_methodNamed B.named
  have hlocks := B.notSynchronized
  have hts : ∀ w ∈ lw_g, w.before ([.ref h0, .int p1, .int p2] : List Value).toArray s = true := fun w hw => hts w (List.mem_cons_of_mem _ hw)
  have hS : va_S A s.heap s.heap [] := va_S.rf
  have hl := lv_entry ([.ref h0, .int p1, .int p2]) (n := 4) (Nat.le_of_ble_eq_true rfl)
  rw [lg_entry_eq]
  generalize (lg_sl ([.ref h0, .int p1, .int p2]) ++ List.replicate (4 - (lg_sl ([.ref h0, .int p1, .int p2])).length) Slot.unset).toArray = ls at hl ⊢
  have hl : lv_has ls 4 [(0, va_rf (some h0)), (1, .int p1), (2, .int p2)] := hl
  unfold wp_X_cut at h
  refine mr_aload_n hx hb d_X_cut_0 rfl (lv_at hl 0 rfl) ?_
  refine lv_iload_n hx hb d_X_cut_1 rfl (lv_at hl 1 rfl) ?_
  obtain ⟨t_1, h⟩ := h
  refine ms_callq (va_runV (As := [.int p1]) (rest := []) ⟨hx, hb, hml, hown, hts⟩ (mc_X_officeAt l D A σ h0 p1 _) ⟨(callB_of 1 hts gw_X_officeAt rfl rfl rfl (hts _ wd_1) (hts _ wd_114) (by decide +kernel) ⟨by decide, by decide⟩), (hts _ wd_116), (hts _ wq_0)⟩ ⟨mw_blind, mg_recv hK.1 hH (ci := 0) rfl (cell_0 t_1), fun U hU hW => ⟨rfl, mw_pass hH hK hA hS hU hW, mn_warm hW hn, h⟩⟩ rfl rfl hl.1 rfl (lv_room (Nat.le_of_ble_eq_true rfl)) d_X_cut_2 ⟨by decide, by decide⟩) hS (fun r_2 σ_3 H locs h hH hK hS => ?_)
  refine mr_astore_n (lv' := [(3, va_rf r_2), (0, va_rf (some h0)), (1, .int p1), (2, .int p2)]) hx hb d_X_cut_5 rfl hl (by decide) rfl (fun ls hl => ?_)
  refine mr_aload_n hx hb d_X_cut_6 rfl (lv_at hl 0 rfl) ?_
  refine mr_ifnonnull (x := r_2) (tgt := 13) hx hb d_X_cut_7 (by decide) (fun c_4 => ?_) (fun c_4 => ?_)
  · have h := h.1 c_4
    refine mr_aload_n hx hb d_X_cut_13 rfl (lv_at hl 0 rfl) ?_
    obtain ⟨a_5, e_6, t_7, h⟩ := h
    refine ms_getN (σ := σ_3) (r := r_2) (a := a_5) (fs := fl_4 σ_3 a_5) (ci := 4) (C := R_Office) (T := T_Office) (N := 9) hx hb hts in_4 hown hK hH e_6 (cell_4 t_7) rfl 3 (by decide) (va_Nw.use rfl (hn _ wd_40 rfl)) (fun _ h9 => h9) (v := .int (st_I σ_3 163 a_5)) rfl d_X_cut_14 ?_
    refine lv_iload_n hx hb d_X_cut_17 rfl (lv_at hl 3 rfl) ?_
    refine lv_icmp_ne (tgt := 23) hx hb d_X_cut_18 (by decide) (fun c_8 => ?_) (fun c_8 => ?_)
    · have h := h.1 c_8
      refine mr_aload_n hx hb d_X_cut_23 rfl (lv_at hl 0 rfl) ?_
      refine lv_iload_n hx hb d_X_cut_24 rfl (lv_at hl 3 rfl) ?_
      obtain ⟨n_9, h⟩ := h
      obtain ⟨σ_10, z_11⟩ : ∃ y : ST, y = st_sI σ_3 163 a_5 p2 := ⟨_, rfl⟩
      have h := h σ_10 z_11
      refine ms_putN (σ := σ_3) (r := r_2) (a := a_5) (fs := fl_4 σ_3 a_5) (ci := 4) (C := R_Office) (T := T_Office) (N := 9) (v := .int p2) (ty := .boolean) hx hb hts in_4 ty_Office ty_Office_ok nm_Office hown hK hH hS e_6 (cell_4 t_7) rfl 3 (by decide) (va_Nw.use rfl (hn _ wd_40 rfl)) (fun _ h9 => h9) rfl (by decide +kernel) (narb n_9) (fitb n_9) (Nat.le_of_ble_eq_true rfl) d_X_cut_25 (σ1 := σ_10) (by rw [z_11]; exact put_4_3 σ_3 a_5 p2 t_7) (by rw [z_11]; rfl) (by rw [z_11]; rfl) (fun H locs hH hK hS => ?_)
      have t_12 : st_tg σ_10 a_5 = some 4 := by rw [z_11]; exact t_7
      refine lv_iload_n hx hb d_X_cut_28 rfl (lv_at hl 3 rfl) ?_
      refine lv_if_ne (tgt := 37) hx hb d_X_cut_29 (by decide) (fun c_13 => ?_) (fun c_13 => ?_)
      · have h := h.1 c_13
        refine lv_iconst (v := 1) hx hb d_X_cut_37 (by decide) ?_
        exact W.iret (v := 1) hx hb hr (fun t ht hW => ⟨⟨1, σ_10, rfl, h, mw_pass hH hK hA hS ht hW⟩, hS.F ht⟩) hS.2.2 d_X_cut_38
      · have h := h.2 c_13
        refine mr_aload_n hx hb d_X_cut_32 rfl (lv_at hl 1 rfl) ?_
        refine mr_aload_n hx hb d_X_cut_33 rfl (lv_at hl 0 rfl) ?_
        obtain ⟨t_14, h⟩ := h
        refine ms_callv (va_runV (As := [va_rf r_2]) (rest := []) ⟨hx, hb, hml, hown, hts⟩ (mc_X_emptyListOf l D A σ_10 h0 r_2 _) ⟨(callB_of 1 hts gw_X_emptyListOf rfl rfl rfl (hts _ wd_1) (hts _ wd_325) (by decide +kernel) ⟨by decide, by decide⟩), (hts _ wd_327), (hts _ wq_8)⟩ ⟨mw_blind, mg_recv hK.1 hH (ci := 0) rfl (cell_0 t_14), fun U hU hW => ⟨rfl, mw_pass hH hK hA hS hU hW, mn_warm hW hn, h⟩⟩ rfl rfl hl.1 rfl (lv_room (Nat.le_of_ble_eq_true rfl)) d_X_cut_34 ⟨by decide, by decide⟩) hS (fun σ_16 H locs h hH hK hS => ?_)
        refine lv_iconst (v := 1) hx hb d_X_cut_37 (by decide) ?_
        exact W.iret (v := 1) hx hb hr (fun t ht hW => ⟨⟨1, σ_16, rfl, h, mw_pass hH hK hA hS ht hW⟩, hS.F ht⟩) hS.2.2 d_X_cut_38
    · have h := h.2 c_8
      refine lv_iconst (v := 0) hx hb d_X_cut_21 (by decide) ?_
      exact W.iret (v := 0) hx hb hr (fun t ht hW => ⟨⟨0, σ_3, rfl, h, mw_pass hH hK hA hS ht hW⟩, hS.F ht⟩) hS.2.2 d_X_cut_22
  · have h := h.2 c_4
    refine lv_bipush (v := (-102)) hx hb d_X_cut_10 (by decide) ?_
    exact W.iret (v := (-102)) hx hb hr (fun t ht hW => ⟨⟨(-102), σ_3, rfl, h, mw_pass hH hK hA hS ht hW⟩, hS.F ht⟩) hS.2.2 d_X_cut_12
def wp_X_list (σ : ST) (h0 : Nat) (p1 : Int32) (p2 : Int64) (K : Int32 → ST → Prop) : Prop :=
  st_tg σ h0 = some 0 ∧ (wp_X_find σ h0 p2 (fun (r_2 : Option Nat) σ_3 =>
  (((¬ r_2 = none) → st_tg σ_3 h0 = some 0 ∧ (wp_X_officeAt σ_3 h0 p1 (fun (r_6 : Option Nat) σ_7 =>
  (((¬ r_6 = none) → ∃ a_9 : Nat, r_2 = some a_9 ∧ st_tg σ_7 a_9 = some 5 ∧ ((((¬ ((st_I σ_7 206 a_9)) = 0) → K ((-103)) σ_7) ∧
  ((((st_I σ_7 206 a_9)) = 0) → (((¬ ((st_R σ_7 208 a_9)) = none) → K ((-103)) σ_7) ∧
  ((((st_R σ_7 208 a_9)) = none) → ∃ a_14 : Nat, r_6 = some a_14 ∧ st_tg σ_7 a_14 = some 4 ∧ ((((((st_I σ_7 163 a_14)) = 0) → (((((st_I σ_7 164 a_14)) < (8 : Int32)) → ∀ σ_19 : ST, σ_19 = st_sR σ_7 208 a_9 r_6 → (∀ σ_23 : ST, σ_23 = st_sI σ_19 164 a_14 ((((st_I σ_19 164 a_14)) + 1)) → (K ((st_I σ_23 164 a_14)) σ_23))) ∧
  ((¬ ((st_I σ_7 164 a_14)) < (8 : Int32)) → K ((-104)) σ_7))) ∧
  ((¬ ((st_I σ_7 163 a_14)) = 0) → K ((-103)) σ_7))))))))) ∧
  ((r_6 = none) → K ((-102)) σ_7))))) ∧
  ((r_2 = none) → K ((-101)) σ_3))))
abbrev ROOM_X_list : Room := { frames := 1, cells := 0, slots := 0, locals := 25 }
set_option maxHeartbeats 4000000 in
set_option maxRecDepth 100000 in
theorem mc_X_list (l : Launch) (D : va_G) (A : Nat → Prop) (σ : ST) (h0 : Nat) (p1 : Int32) (p2 : Int64) (K : Int32 → ST → Prop) : Met l y_X_list ws_X_list ROOM_X_list (va_Pc [.ref h0, .int p1, .long p2] (fun U => mw D A σ U ∧ mn U ∧ wp_X_list σ h0 p1 p2 K)) (va_Qi K (mw D A) A) 0 0 A := by
  refine Met.ofW (cc := c_X_list) (maxL := 6) (ret := (some .int)) (by decide) rfl ?_
  intro p e s m args below meth c s₁ B hml hv
  obtain ⟨rfl, ⟨hH, hK, hA⟩, hn, h⟩ := hv
  have hx := B.exec
  have hb := B.bytes
  have hr := B.returns
  have hts := atoms_spec (ws := ws_X_list) B.pre
  have hown : s.vm.findClass R_X = some m.cls := findClass_of_methodNamed B.named
  have hlocks := B.notSynchronized
  have hts : ∀ w ∈ lw_g, w.before ([.ref h0, .int p1, .long p2] : List Value).toArray s = true := fun w hw => hts w (List.mem_cons_of_mem _ hw)
  have hS : va_S A s.heap s.heap [] := va_S.rf
  have hl := lv_entry ([.ref h0, .int p1, .long p2]) (n := 6) (Nat.le_of_ble_eq_true rfl)
  rw [lg_entry_eq]
  generalize (lg_sl ([.ref h0, .int p1, .long p2]) ++ List.replicate (6 - (lg_sl ([.ref h0, .int p1, .long p2])).length) Slot.unset).toArray = ls at hl ⊢
  have hl : lv_has ls 6 [(0, va_rf (some h0)), (1, .int p1), (2, .long p2)] := hl
  unfold wp_X_list at h
  refine mr_aload_n hx hb d_X_list_0 rfl (lv_at hl 0 rfl) ?_
  refine lv_lload_n hx hb d_X_list_1 rfl (lv_at hl 2 rfl) ?_
  obtain ⟨t_1, h⟩ := h
  refine ms_callq (va_runV (As := [.long p2]) (rest := []) ⟨hx, hb, hml, hown, hts⟩ (mc_X_find l D A σ h0 p2 _) ⟨(callB_of 1 hts gw_X_find rfl rfl rfl (hts _ wd_1) (hts _ wd_188) (by decide +kernel) ⟨by decide, by decide⟩), (hts _ wd_190), (hts _ wq_3)⟩ ⟨mw_blind, mg_recv hK.1 hH (ci := 0) rfl (cell_0 t_1), fun U hU hW => ⟨rfl, mw_pass hH hK hA hS hU hW, mn_warm hW hn, h⟩⟩ rfl rfl hl.1 rfl (lv_room (Nat.le_of_ble_eq_true rfl)) d_X_list_2 ⟨by decide, by decide⟩) hS (fun r_2 σ_3 H locs h hH hK hS => ?_)
  refine mr_astore (lv' := [(4, va_rf r_2), (0, va_rf (some h0)), (1, .int p1), (2, .long p2)]) hx hb d_X_list_5 hl (by decide) rfl (fun ls hl => ?_)
  refine mr_aload hx hb d_X_list_7 (lv_at hl 0 rfl) ?_
  refine mr_ifnonnull (x := r_2) (tgt := 15) hx hb d_X_list_9 (by decide) (fun c_4 => ?_) (fun c_4 => ?_)
  · have h := h.1 c_4
    refine mr_aload_n hx hb d_X_list_15 rfl (lv_at hl 1 rfl) ?_
    refine lv_iload_n hx hb d_X_list_16 rfl (lv_at hl 2 rfl) ?_
    obtain ⟨t_5, h⟩ := h
    refine ms_callq (va_runV (As := [.int p1]) (rest := []) ⟨hx, hb, hml, hown, hts⟩ (mc_X_officeAt l D A σ_3 h0 p1 _) ⟨(callB_of 1 hts gw_X_officeAt rfl rfl rfl (hts _ wd_1) (hts _ wd_114) (by decide +kernel) ⟨by decide, by decide⟩), (hts _ wd_116), (hts _ wq_0)⟩ ⟨mw_blind, mg_recv hK.1 hH (ci := 0) rfl (cell_0 t_5), fun U hU hW => ⟨rfl, mw_pass hH hK hA hS hU hW, mn_warm hW hn, h⟩⟩ rfl rfl hl.1 rfl (lv_room (Nat.le_of_ble_eq_true rfl)) d_X_list_17 ⟨by decide, by decide⟩) hS (fun r_6 σ_7 H locs h hH hK hS => ?_)
    refine mr_astore (lv' := [(5, va_rf r_6), (4, va_rf r_2), (0, va_rf (some h0)), (1, .int p1), (2, .long p2)]) hx hb d_X_list_20 hl (by decide) (by simp [List.filter, cat_rf, cat_i, cat_l, cat_r]) (fun ls hl => ?_)
    refine mr_aload hx hb d_X_list_22 (lv_at hl 0 rfl) ?_
    refine mr_ifnonnull (x := r_6) (tgt := 30) hx hb d_X_list_24 (by decide) (fun c_8 => ?_) (fun c_8 => ?_)
    · have h := h.1 c_8
      refine mr_aload hx hb d_X_list_30 (lv_at hl 1 rfl) ?_
      obtain ⟨a_9, e_10, t_11, h⟩ := h
      refine ms_getN (σ := σ_7) (r := r_2) (a := a_9) (fs := fl_5 σ_7 a_9) (ci := 5) (C := R_Order) (T := T_Order) (N := 11) hx hb hts in_5 hown hK hH e_10 (cell_5 t_11) rfl 6 (by decide) (va_Nw.use rfl (hn _ wd_153 rfl)) (fun _ h9 => h9) (v := .int (st_I σ_7 206 a_9)) rfl d_X_list_32 ?_
      refine lv_if_ne (tgt := 54) hx hb d_X_list_35 (by decide) (fun c_12 => ?_) (fun c_12 => ?_)
      · have h := h.1 c_12
        refine lv_bipush (v := (-103)) hx hb d_X_list_54 (by decide) ?_
        exact W.iret (v := (-103)) hx hb hr (fun t ht hW => ⟨⟨(-103), σ_7, rfl, h, mw_pass hH hK hA hS ht hW⟩, hS.F ht⟩) hS.2.2 d_X_list_56
      · have h := h.2 c_12
        refine mr_aload hx hb d_X_list_38 (lv_at hl 1 rfl) ?_
        refine ms_getN (σ := σ_7) (r := r_2) (a := a_9) (fs := fl_5 σ_7 a_9) (ci := 5) (C := R_Order) (T := T_Order) (N := 11) hx hb hts in_5 hown hK hH e_10 (cell_5 t_11) rfl 8 (by decide) (va_Nw.use rfl (hn _ wd_158 rfl)) (fun _ h9 => h9) (v := va_rf (st_R σ_7 208 a_9)) rfl d_X_list_40 ?_
        refine mr_ifnonnull (x := (st_R σ_7 208 a_9)) (tgt := 54) hx hb d_X_list_43 (by decide) (fun c_13 => ?_) (fun c_13 => ?_)
        · have h := h.1 c_13
          refine lv_bipush (v := (-103)) hx hb d_X_list_54 (by decide) ?_
          exact W.iret (v := (-103)) hx hb hr (fun t ht hW => ⟨⟨(-103), σ_7, rfl, h, mw_pass hH hK hA hS ht hW⟩, hS.F ht⟩) hS.2.2 d_X_list_56
        · have h := h.2 c_13
          refine mr_aload hx hb d_X_list_46 (lv_at hl 0 rfl) ?_
          obtain ⟨a_14, e_15, t_16, h⟩ := h
          refine ms_getN (σ := σ_7) (r := r_6) (a := a_14) (fs := fl_4 σ_7 a_14) (ci := 4) (C := R_Office) (T := T_Office) (N := 9) hx hb hts in_4 hown hK hH e_15 (cell_4 t_16) rfl 3 (by decide) (va_Nw.use rfl (hn _ wd_40 rfl)) (fun _ h9 => h9) (v := .int (st_I σ_7 163 a_14)) rfl d_X_list_48 ?_
          refine lv_if_eq (tgt := 57) hx hb d_X_list_51 (by decide) (fun c_17 => ?_) (fun c_17 => ?_)
          · have h := h.1 c_17
            refine mr_aload hx hb d_X_list_57 (lv_at hl 0 rfl) ?_
            refine ms_getN (σ := σ_7) (r := r_6) (a := a_14) (fs := fl_4 σ_7 a_14) (ci := 4) (C := R_Office) (T := T_Office) (N := 9) hx hb hts in_4 hown hK hH e_15 (cell_4 t_16) rfl 4 (by decide) (va_Nw.use rfl (hn _ wd_42 rfl)) (fun _ h9 => h9) (v := .int (st_I σ_7 164 a_14)) rfl d_X_list_59 ?_
            refine lv_bipush (v := 8) hx hb d_X_list_62 (by decide) ?_
            refine lv_icmp_lt (tgt := 70) hx hb d_X_list_64 (by decide) (fun c_18 => ?_) (fun c_18 => ?_)
            · have h := h.1 c_18
              refine mr_aload hx hb d_X_list_70 (lv_at hl 1 rfl) ?_
              refine mr_aload hx hb d_X_list_72 (lv_at hl 0 rfl) ?_
              obtain ⟨σ_19, z_20⟩ : ∃ y : ST, y = st_sR σ_7 208 a_9 r_6 := ⟨_, rfl⟩
              have h := h σ_19 z_20
              refine ms_putN (σ := σ_7) (r := r_2) (a := a_9) (fs := fl_5 σ_7 a_9) (ci := 5) (C := R_Order) (T := T_Order) (N := 11) (v := va_rf r_6) (ty := (.object "OrderMoney$Office")) hx hb hts in_5 ty_Order ty_Order_ok nm_Order hown hK hH hS e_10 (cell_5 t_11) rfl 8 (by decide) (va_Nw.use rfl (hn _ wd_158 rfl)) (fun _ h9 => h9) rfl (by decide +kernel) (nar_rf _ _) (fit_rf _ _) (Nat.le_of_ble_eq_true rfl) d_X_list_74 (σ1 := σ_19) (by rw [z_20]; exact put_5_8 σ_7 a_9 r_6 t_11) (by rw [z_20]; rfl) (by rw [z_20]; rfl) (fun H locs hH hK hS => ?_)
              have t_21 : st_tg σ_19 a_9 = some 5 := by rw [z_20]; exact t_11
              have t_22 : st_tg σ_19 a_14 = some 4 := by rw [z_20]; exact t_16
              refine mr_aload hx hb d_X_list_77 (lv_at hl 0 rfl) ?_
              refine lv_dup hx hb d_X_list_79 (cat_rf _) ?_
              refine ms_getN (σ := σ_19) (r := r_6) (a := a_14) (fs := fl_4 σ_19 a_14) (ci := 4) (C := R_Office) (T := T_Office) (N := 9) hx hb hts in_4 hown hK hH e_15 (cell_4 t_22) rfl 4 (by decide) (va_Nw.use rfl (hn _ wd_42 rfl)) (fun _ h9 => h9) (v := .int (st_I σ_19 164 a_14)) rfl d_X_list_80 ?_
              refine lv_iconst (v := 1) hx hb d_X_list_83 (by decide) ?_
              refine lv_iadd hx hb d_X_list_84 ?_
              obtain ⟨σ_23, z_24⟩ : ∃ y : ST, y = st_sI σ_19 164 a_14 ((((st_I σ_19 164 a_14)) + 1)) := ⟨_, rfl⟩
              have h := h σ_23 z_24
              refine ms_putN (σ := σ_19) (r := r_6) (a := a_14) (fs := fl_4 σ_19 a_14) (ci := 4) (C := R_Office) (T := T_Office) (N := 9) (v := .int (((st_I σ_19 164 a_14)) + 1)) (ty := .int) hx hb hts in_4 ty_Office ty_Office_ok nm_Office hown hK hH hS e_15 (cell_4 t_22) rfl 4 (by decide) (va_Nw.use rfl (hn _ wd_42 rfl)) (fun _ h9 => h9) rfl (by decide +kernel) rfl rfl (Nat.le_of_ble_eq_true rfl) d_X_list_85 (σ1 := σ_23) (by rw [z_24]; exact put_4_4 σ_19 a_14 ((((st_I σ_19 164 a_14)) + 1)) t_22) (by rw [z_24]; rfl) (by rw [z_24]; rfl) (fun H locs hH hK hS => ?_)
              have t_25 : st_tg σ_23 a_9 = some 5 := by rw [z_24]; exact t_21
              have t_26 : st_tg σ_23 a_14 = some 4 := by rw [z_24]; exact t_22
              refine mr_aload hx hb d_X_list_88 (lv_at hl 0 rfl) ?_
              refine ms_getN (σ := σ_23) (r := r_6) (a := a_14) (fs := fl_4 σ_23 a_14) (ci := 4) (C := R_Office) (T := T_Office) (N := 9) hx hb hts in_4 hown hK hH e_15 (cell_4 t_26) rfl 4 (by decide) (va_Nw.use rfl (hn _ wd_42 rfl)) (fun _ h9 => h9) (v := .int (st_I σ_23 164 a_14)) rfl d_X_list_90 ?_
              exact W.iret (v := (st_I σ_23 164 a_14)) hx hb hr (fun t ht hW => ⟨⟨(st_I σ_23 164 a_14), σ_23, rfl, h, mw_pass hH hK hA hS ht hW⟩, hS.F ht⟩) hS.2.2 d_X_list_93
            · have h := h.2 c_18
              refine lv_bipush (v := (-104)) hx hb d_X_list_67 (by decide) ?_
              exact W.iret (v := (-104)) hx hb hr (fun t ht hW => ⟨⟨(-104), σ_7, rfl, h, mw_pass hH hK hA hS ht hW⟩, hS.F ht⟩) hS.2.2 d_X_list_69
          · have h := h.2 c_17
            refine lv_bipush (v := (-103)) hx hb d_X_list_54 (by decide) ?_
            exact W.iret (v := (-103)) hx hb hr (fun t ht hW => ⟨⟨(-103), σ_7, rfl, h, mw_pass hH hK hA hS ht hW⟩, hS.F ht⟩) hS.2.2 d_X_list_56
    · have h := h.2 c_8
      refine lv_bipush (v := (-102)) hx hb d_X_list_27 (by decide) ?_
      exact W.iret (v := (-102)) hx hb hr (fun t ht hW => ⟨⟨(-102), σ_7, rfl, h, mw_pass hH hK hA hS ht hW⟩, hS.F ht⟩) hS.2.2 d_X_list_29
  · have h := h.2 c_4
    refine lv_bipush (v := (-101)) hx hb d_X_list_12 (by decide) ?_
    exact W.iret (v := (-101)) hx hb hr (fun t ht hW => ⟨⟨(-101), σ_3, rfl, h, mw_pass hH hK hA hS ht hW⟩, hS.F ht⟩) hS.2.2 d_X_list_14
def wp_X_changeTill (σ : ST) (h0 : Nat) (p1 : Option Nat) (p2 : Int64) (K : Int32 → ST → Prop) : Prop :=
  (((p1 = none) → K ((-102)) σ) ∧
  ((¬ p1 = none) → (((((lg_cmp p2 ((-1000000000)))) < 0) → K ((-102)) σ) ∧
  ((¬ ((lg_cmp p2 ((-1000000000)))) < 0) → (((((lg_cmp p2 1000000000)) ≤ 0) → ∃ a_4 : Nat, p1 = some a_4 ∧ st_tg σ a_4 = some 4 ∧ ((((0 ≤ ((lg_cmp ((((st_J σ 161 a_4)) + p2)) 0))) → ∀ σ_8 : ST, σ_8 = st_sJ σ 161 a_4 ((((st_J σ 161 a_4)) + p2)) → (st_tg σ_8 h0 = some 0 ∧ (∃ a_12 : Nat, (st_R σ_8 9 h0) = some a_12 ∧ st_tg σ_8 a_12 = some 302 ∧ (vp_in 5 (st_ln σ_8 a_12) ∧ (vp_in 5 (st_ln σ_8 a_12) ∧ (∀ σ_17 : ST, σ_17 = st_uJ σ_8 a_12 (Int32.toNatClampNeg 5) ((((st_eJ σ_8 a_12 (Int32.toNatClampNeg 5))) + p2)) → (K 1 σ_17))))))) ∧
  ((¬ 0 ≤ ((lg_cmp ((((st_J σ 161 a_4)) + p2)) 0))) → K ((-103)) σ)))) ∧
  ((¬ ((lg_cmp p2 1000000000)) ≤ 0) → K ((-102)) σ))))))
abbrev ROOM_X_changeTill : Room := { frames := 0, cells := 0, slots := 0, locals := 0 }
set_option maxHeartbeats 4000000 in
set_option maxRecDepth 100000 in
theorem mc_X_changeTill (l : Launch) (D : va_G) (A : Nat → Prop) (σ : ST) (h0 : Nat) (p1 : Option Nat) (p2 : Int64) (K : Int32 → ST → Prop) : Met l y_X_changeTill ws_X_changeTill ROOM_X_changeTill (va_Pc [.ref h0, va_rf p1, .long p2] (fun U => mw D A σ U ∧ mn U ∧ wp_X_changeTill σ h0 p1 p2 K)) (va_Qi K (mw D A) A) 0 0 A := by
  refine Met.ofW (cc := c_X_changeTill) (maxL := 4) (ret := (some .int)) (by decide) rfl ?_
  intro p e s m args below meth c s₁ B hml hv
  obtain ⟨rfl, ⟨hH, hK, hA⟩, hn, h⟩ := hv
  have hx := B.exec
  have hb := B.bytes
  have hr := B.returns
  have hts := atoms_spec (ws := ws_X_changeTill) B.pre
  have hown : s.vm.findClass R_X = some m.cls := findClass_of_methodNamed B.named
  have hlocks := B.notSynchronized
  have hts : ∀ w ∈ lw_g, w.before ([.ref h0, va_rf p1, .long p2] : List Value).toArray s = true := fun w hw => hts w (List.mem_cons_of_mem _ hw)
  have hS : va_S A s.heap s.heap [] := va_S.rf
  have hl := lv_entry ([.ref h0, va_rf p1, .long p2]) (n := 4) (by simp [lg_sl, cat_rf, cat_i, cat_l, cat_r])
  rw [lg_entry_eq]
  generalize (lg_sl ([.ref h0, va_rf p1, .long p2]) ++ List.replicate (4 - (lg_sl ([.ref h0, va_rf p1, .long p2])).length) Slot.unset).toArray = ls at hl ⊢
  have hle : lv_args 0 [.ref h0, va_rf p1, .long p2] = [(0, .ref h0), (1, va_rf p1), (2, .long p2)] := by simp [lv_args, cat_rf, cat_i, cat_l, cat_r]
  rw [hle] at hl
  have hl : lv_has ls 4 [(0, va_rf (some h0)), (1, va_rf p1), (2, .long p2)] := hl
  unfold wp_X_changeTill at h
  refine mr_aload_n hx hb d_X_changeTill_0 rfl (lv_at hl 1 rfl) ?_
  refine mr_ifnull (x := p1) (tgt := 20) hx hb d_X_changeTill_1 (by decide) (fun c_1 => ?_) (fun c_1 => ?_)
  · have h := h.1 c_1
    refine lv_bipush (v := (-102)) hx hb d_X_changeTill_20 (by decide) ?_
    exact W.iret (v := (-102)) hx hb hr (fun t ht hW => ⟨⟨(-102), σ, rfl, h, mw_pass hH hK hA hS ht hW⟩, hS.F ht⟩) hS.2.2 d_X_changeTill_22
  · have h := h.2 c_1
    refine lv_lload_n hx hb d_X_changeTill_4 rfl (lv_at hl 2 rfl) ?_
    refine lv_ldc2 (v := (-1000000000)) hx hb hown (hts _ wd_342) d_X_changeTill_5 ?_
    refine W.lcmp hx hb d_X_changeTill_8 ?_
    refine lv_if_lt (tgt := 20) hx hb d_X_changeTill_9 (by decide) (fun c_2 => ?_) (fun c_2 => ?_)
    · have h := h.1 c_2
      refine lv_bipush (v := (-102)) hx hb d_X_changeTill_20 (by decide) ?_
      exact W.iret (v := (-102)) hx hb hr (fun t ht hW => ⟨⟨(-102), σ, rfl, h, mw_pass hH hK hA hS ht hW⟩, hS.F ht⟩) hS.2.2 d_X_changeTill_22
    · have h := h.2 c_2
      refine lv_lload_n hx hb d_X_changeTill_12 rfl (lv_at hl 2 rfl) ?_
      refine lv_ldc2 (v := 1000000000) hx hb hown (hts _ wd_343) d_X_changeTill_13 ?_
      refine W.lcmp hx hb d_X_changeTill_16 ?_
      refine lv_if_le (tgt := 23) hx hb d_X_changeTill_17 (by decide) (fun c_3 => ?_) (fun c_3 => ?_)
      · have h := h.1 c_3
        refine mr_aload_n hx hb d_X_changeTill_23 rfl (lv_at hl 1 rfl) ?_
        obtain ⟨a_4, e_5, t_6, h⟩ := h
        refine ms_getN (σ := σ) (r := p1) (a := a_4) (fs := fl_4 σ a_4) (ci := 4) (C := R_Office) (T := T_Office) (N := 9) hx hb hts in_4 hown hK hH e_5 (cell_4 t_6) rfl 1 (by decide) (va_Nw.use rfl (hn _ wd_35 rfl)) (fun _ h9 => h9) (v := .long (st_J σ 161 a_4)) rfl d_X_changeTill_24 ?_
        refine lv_lload_n hx hb d_X_changeTill_27 rfl (lv_at hl 2 rfl) ?_
        refine lv_ladd hx hb d_X_changeTill_28 ?_
        refine lv_lconst (v := 0) hx hb d_X_changeTill_29 rfl ?_
        refine W.lcmp hx hb d_X_changeTill_30 ?_
        refine lv_if_ge (tgt := 37) hx hb d_X_changeTill_31 (by decide) (fun c_7 => ?_) (fun c_7 => ?_)
        · have h := h.1 c_7
          refine mr_aload_n hx hb d_X_changeTill_37 rfl (lv_at hl 1 rfl) ?_
          refine lv_dup hx hb d_X_changeTill_38 (cat_rf _) ?_
          refine ms_getN (σ := σ) (r := p1) (a := a_4) (fs := fl_4 σ a_4) (ci := 4) (C := R_Office) (T := T_Office) (N := 9) hx hb hts in_4 hown hK hH e_5 (cell_4 t_6) rfl 1 (by decide) (va_Nw.use rfl (hn _ wd_35 rfl)) (fun _ h9 => h9) (v := .long (st_J σ 161 a_4)) rfl d_X_changeTill_39 ?_
          refine lv_lload_n hx hb d_X_changeTill_42 rfl (lv_at hl 2 rfl) ?_
          refine lv_ladd hx hb d_X_changeTill_43 ?_
          obtain ⟨σ_8, z_9⟩ : ∃ y : ST, y = st_sJ σ 161 a_4 ((((st_J σ 161 a_4)) + p2)) := ⟨_, rfl⟩
          have h := h σ_8 z_9
          refine ms_putN (σ := σ) (r := p1) (a := a_4) (fs := fl_4 σ a_4) (ci := 4) (C := R_Office) (T := T_Office) (N := 9) (v := .long (((st_J σ 161 a_4)) + p2)) (ty := .long) hx hb hts in_4 ty_Office ty_Office_ok nm_Office hown hK hH hS e_5 (cell_4 t_6) rfl 1 (by decide) (va_Nw.use rfl (hn _ wd_35 rfl)) (fun _ h9 => h9) rfl (by decide +kernel) rfl rfl (Nat.le_of_ble_eq_true rfl) d_X_changeTill_44 (σ1 := σ_8) (by rw [z_9]; exact put_4_1 σ a_4 ((((st_J σ 161 a_4)) + p2)) t_6) (by rw [z_9]; rfl) (by rw [z_9]; rfl) (fun H locs hH hK hS => ?_)
          have t_10 : st_tg σ_8 a_4 = some 4 := by rw [z_9]; exact t_6
          refine mr_aload_n hx hb d_X_changeTill_47 rfl (lv_at hl 0 rfl) ?_
          obtain ⟨t_11, h⟩ := h
          refine ms_get (σ := σ_8) (r := some h0) (a := h0) (fs := fl_0 σ_8 h0) (ci := 0) (C := R_X) (T := T_X) (N := 10) hx hb hts in_0 hown hK hH rfl (cell_0 t_11) rfl 9 (by decide) (hts _ wd_88) (fun _ h9 => h9) (v := va_rf (st_R σ_8 9 h0)) rfl d_X_changeTill_48 ?_
          refine lv_iconst (v := 5) hx hb d_X_changeTill_51 (by decide) ?_
          refine lv_dup2_11 hx hb d_X_changeTill_52 rfl (cat_rf _) ?_
          obtain ⟨a_12, e_13, t_14, h⟩ := h
          obtain ⟨b_15, h⟩ := h
          refine ms_lald (σ := σ_8) (r := (st_R σ_8 9 h0)) (a := a_12) hx hb hK hH e_13 t_14 rfl (cell_302 t_14) b_15 d_X_changeTill_53 ?_
          refine lv_lload_n hx hb d_X_changeTill_54 rfl (lv_at hl 2 rfl) ?_
          refine lv_ladd hx hb d_X_changeTill_55 ?_
          obtain ⟨b_16, h⟩ := h
          obtain ⟨σ_17, z_18⟩ : ∃ y : ST, y = st_uJ σ_8 a_12 (Int32.toNatClampNeg 5) ((((st_eJ σ_8 a_12 (Int32.toNatClampNeg 5))) + p2)) := ⟨_, rfl⟩
          have h := h σ_17 z_18
          refine ms_last (σ := σ_8) (r := (st_R σ_8 9 h0)) (a := a_12) (x := (((st_eJ σ_8 a_12 (Int32.toNatClampNeg 5))) + p2)) hx hb hK hH hS e_13 t_14 rfl (cell_302 t_14)  b_16 d_X_changeTill_56 (σ1 := σ_17) (by rw [z_18]; exact uput_302 σ_8 a_12 _ ((((st_eJ σ_8 a_12 (Int32.toNatClampNeg 5))) + p2)) t_14) (by rw [z_18]; rfl) (by rw [z_18]; rfl) (fun H locs hH hK hS => ?_)
          have t_19 : st_tg σ_17 a_4 = some 4 := by rw [z_18]; exact t_10
          have t_20 : st_tg σ_17 h0 = some 0 := by rw [z_18]; exact t_11
          have t_21 : st_tg σ_17 a_12 = some 302 := by rw [z_18]; exact t_14
          refine lv_iconst (v := 1) hx hb d_X_changeTill_57 (by decide) ?_
          exact W.iret (v := 1) hx hb hr (fun t ht hW => ⟨⟨1, σ_17, rfl, h, mw_pass hH hK hA hS ht hW⟩, hS.F ht⟩) hS.2.2 d_X_changeTill_58
        · have h := h.2 c_7
          refine lv_bipush (v := (-103)) hx hb d_X_changeTill_34 (by decide) ?_
          exact W.iret (v := (-103)) hx hb hr (fun t ht hW => ⟨⟨(-103), σ, rfl, h, mw_pass hH hK hA hS ht hW⟩, hS.F ht⟩) hS.2.2 d_X_changeTill_36
      · have h := h.2 c_3
        refine lv_bipush (v := (-102)) hx hb d_X_changeTill_20 (by decide) ?_
        exact W.iret (v := (-102)) hx hb hr (fun t ht hW => ⟨⟨(-102), σ, rfl, h, mw_pass hH hK hA hS ht hW⟩, hS.F ht⟩) hS.2.2 d_X_changeTill_22
def wp_X_changeLimit (σ : ST) (p0 : Option Nat) (p1 : Int64) (K : Int32 → ST → Prop) : Prop :=
  (((p0 = none) → K ((-102)) σ) ∧
  ((¬ p0 = none) → (((((lg_cmp p1 ((-1)))) < 0) → K ((-102)) σ) ∧
  ((¬ ((lg_cmp p1 ((-1)))) < 0) → (((((lg_cmp p1 1000000000)) ≤ 0) → ∃ a_4 : Nat, p0 = some a_4 ∧ st_tg σ a_4 = some 4 ∧ (∀ σ_7 : ST, σ_7 = st_sJ σ 162 a_4 p1 → (K 1 σ_7))) ∧
  ((¬ ((lg_cmp p1 1000000000)) ≤ 0) → K ((-102)) σ))))))
abbrev ROOM_X_changeLimit : Room := { frames := 0, cells := 0, slots := 0, locals := 0 }
set_option maxHeartbeats 4000000 in
set_option maxRecDepth 100000 in
theorem mc_X_changeLimit (l : Launch) (D : va_G) (A : Nat → Prop) (σ : ST) (p0 : Option Nat) (p1 : Int64) (K : Int32 → ST → Prop) : Met l y_X_changeLimit ws_X_changeLimit ROOM_X_changeLimit (va_Pc [va_rf p0, .long p1] (fun U => mw D A σ U ∧ mn U ∧ wp_X_changeLimit σ p0 p1 K)) (va_Qi K (mw D A) A) 0 0 A := by
  refine Met.ofW (cc := c_X_changeLimit) (maxL := 3) (ret := (some .int)) (by decide) rfl ?_
  intro p e s m args below meth c s₁ B hml hv
  obtain ⟨rfl, ⟨hH, hK, hA⟩, hn, h⟩ := hv
  have hx := B.exec
  have hb := B.bytes
  have hr := B.returns
  have hts := atoms_spec (ws := ws_X_changeLimit) B.pre
  have hown : s.vm.findClass R_X = some m.cls := findClass_of_methodNamed B.named
  have hlocks := B.notSynchronized
  have hts : ∀ w ∈ lw_g, w.before ([va_rf p0, .long p1] : List Value).toArray s = true := fun w hw => hts w (List.mem_cons_of_mem _ hw)
  have hS : va_S A s.heap s.heap [] := va_S.rf
  have hl := lv_entry ([va_rf p0, .long p1]) (n := 3) (by simp [lg_sl, cat_rf, cat_i, cat_l, cat_r])
  rw [lg_entry_eq]
  generalize (lg_sl ([va_rf p0, .long p1]) ++ List.replicate (3 - (lg_sl ([va_rf p0, .long p1])).length) Slot.unset).toArray = ls at hl ⊢
  have hle : lv_args 0 [va_rf p0, .long p1] = [(0, va_rf p0), (1, .long p1)] := by simp [lv_args, cat_rf, cat_i, cat_l, cat_r]
  rw [hle] at hl
  have hl : lv_has ls 3 [(0, va_rf p0), (1, .long p1)] := hl
  unfold wp_X_changeLimit at h
  refine mr_aload_n hx hb d_X_changeLimit_0 rfl (lv_at hl 0 rfl) ?_
  refine mr_ifnull (x := p0) (tgt := 20) hx hb d_X_changeLimit_1 (by decide) (fun c_1 => ?_) (fun c_1 => ?_)
  · have h := h.1 c_1
    refine lv_bipush (v := (-102)) hx hb d_X_changeLimit_20 (by decide) ?_
    exact W.iret (v := (-102)) hx hb hr (fun t ht hW => ⟨⟨(-102), σ, rfl, h, mw_pass hH hK hA hS ht hW⟩, hS.F ht⟩) hS.2.2 d_X_changeLimit_22
  · have h := h.2 c_1
    refine lv_lload_n hx hb d_X_changeLimit_4 rfl (lv_at hl 1 rfl) ?_
    refine lv_ldc2 (v := (-1)) hx hb hown (hts _ wd_347) d_X_changeLimit_5 ?_
    refine W.lcmp hx hb d_X_changeLimit_8 ?_
    refine lv_if_lt (tgt := 20) hx hb d_X_changeLimit_9 (by decide) (fun c_2 => ?_) (fun c_2 => ?_)
    · have h := h.1 c_2
      refine lv_bipush (v := (-102)) hx hb d_X_changeLimit_20 (by decide) ?_
      exact W.iret (v := (-102)) hx hb hr (fun t ht hW => ⟨⟨(-102), σ, rfl, h, mw_pass hH hK hA hS ht hW⟩, hS.F ht⟩) hS.2.2 d_X_changeLimit_22
    · have h := h.2 c_2
      refine lv_lload_n hx hb d_X_changeLimit_12 rfl (lv_at hl 1 rfl) ?_
      refine lv_ldc2 (v := 1000000000) hx hb hown (hts _ wd_343) d_X_changeLimit_13 ?_
      refine W.lcmp hx hb d_X_changeLimit_16 ?_
      refine lv_if_le (tgt := 23) hx hb d_X_changeLimit_17 (by decide) (fun c_3 => ?_) (fun c_3 => ?_)
      · have h := h.1 c_3
        refine mr_aload_n hx hb d_X_changeLimit_23 rfl (lv_at hl 0 rfl) ?_
        refine lv_lload_n hx hb d_X_changeLimit_24 rfl (lv_at hl 1 rfl) ?_
        obtain ⟨a_4, e_5, t_6, h⟩ := h
        obtain ⟨σ_7, z_8⟩ : ∃ y : ST, y = st_sJ σ 162 a_4 p1 := ⟨_, rfl⟩
        have h := h σ_7 z_8
        refine ms_putN (σ := σ) (r := p0) (a := a_4) (fs := fl_4 σ a_4) (ci := 4) (C := R_Office) (T := T_Office) (N := 9) (v := .long p1) (ty := .long) hx hb hts in_4 ty_Office ty_Office_ok nm_Office hown hK hH hS e_5 (cell_4 t_6) rfl 2 (by decide) (va_Nw.use rfl (hn _ wd_38 rfl)) (fun _ h9 => h9) rfl (by decide +kernel) rfl rfl (Nat.le_of_ble_eq_true rfl) d_X_changeLimit_25 (σ1 := σ_7) (by rw [z_8]; exact put_4_2 σ a_4 p1 t_6) (by rw [z_8]; rfl) (by rw [z_8]; rfl) (fun H locs hH hK hS => ?_)
        have t_9 : st_tg σ_7 a_4 = some 4 := by rw [z_8]; exact t_6
        refine lv_iconst (v := 1) hx hb d_X_changeLimit_28 (by decide) ?_
        exact W.iret (v := 1) hx hb hr (fun t ht hW => ⟨⟨1, σ_7, rfl, h, mw_pass hH hK hA hS ht hW⟩, hS.F ht⟩) hS.2.2 d_X_changeLimit_29
      · have h := h.2 c_3
        refine lv_bipush (v := (-102)) hx hb d_X_changeLimit_20 (by decide) ?_
        exact W.iret (v := (-102)) hx hb hr (fun t ht hW => ⟨⟨(-102), σ, rfl, h, mw_pass hH hK hA hS ht hW⟩, hS.F ht⟩) hS.2.2 d_X_changeLimit_22
def wp_X_changeRate (σ : ST) (p0 : Option Nat) (p1 : Int64) (K : Int32 → ST → Prop) : Prop :=
  (((p0 = none) → K ((-102)) σ) ∧
  ((¬ p0 = none) → (((((lg_cmp p1 1)) < 0) → K ((-102)) σ) ∧
  ((¬ ((lg_cmp p1 1)) < 0) → (((((lg_cmp p1 100000)) ≤ 0) → ∃ a_4 : Nat, p0 = some a_4 ∧ st_tg σ a_4 = some 3 ∧ (∀ σ_7 : ST, σ_7 = st_sJ σ 120 a_4 p1 → (K 1 σ_7))) ∧
  ((¬ ((lg_cmp p1 100000)) ≤ 0) → K ((-102)) σ))))))
abbrev ROOM_X_changeRate : Room := { frames := 0, cells := 0, slots := 0, locals := 0 }
set_option maxHeartbeats 4000000 in
set_option maxRecDepth 100000 in
theorem mc_X_changeRate (l : Launch) (D : va_G) (A : Nat → Prop) (σ : ST) (p0 : Option Nat) (p1 : Int64) (K : Int32 → ST → Prop) : Met l y_X_changeRate ws_X_changeRate ROOM_X_changeRate (va_Pc [va_rf p0, .long p1] (fun U => mw D A σ U ∧ mn U ∧ wp_X_changeRate σ p0 p1 K)) (va_Qi K (mw D A) A) 0 0 A := by
  refine Met.ofW (cc := c_X_changeRate) (maxL := 3) (ret := (some .int)) (by decide) rfl ?_
  intro p e s m args below meth c s₁ B hml hv
  obtain ⟨rfl, ⟨hH, hK, hA⟩, hn, h⟩ := hv
  have hx := B.exec
  have hb := B.bytes
  have hr := B.returns
  have hts := atoms_spec (ws := ws_X_changeRate) B.pre
  have hown : s.vm.findClass R_X = some m.cls := findClass_of_methodNamed B.named
  have hlocks := B.notSynchronized
  have hts : ∀ w ∈ lw_g, w.before ([va_rf p0, .long p1] : List Value).toArray s = true := fun w hw => hts w (List.mem_cons_of_mem _ hw)
  have hS : va_S A s.heap s.heap [] := va_S.rf
  have hl := lv_entry ([va_rf p0, .long p1]) (n := 3) (by simp [lg_sl, cat_rf, cat_i, cat_l, cat_r])
  rw [lg_entry_eq]
  generalize (lg_sl ([va_rf p0, .long p1]) ++ List.replicate (3 - (lg_sl ([va_rf p0, .long p1])).length) Slot.unset).toArray = ls at hl ⊢
  have hle : lv_args 0 [va_rf p0, .long p1] = [(0, va_rf p0), (1, .long p1)] := by simp [lv_args, cat_rf, cat_i, cat_l, cat_r]
  rw [hle] at hl
  have hl : lv_has ls 3 [(0, va_rf p0), (1, .long p1)] := hl
  unfold wp_X_changeRate at h
  refine mr_aload_n hx hb d_X_changeRate_0 rfl (lv_at hl 0 rfl) ?_
  refine mr_ifnull (x := p0) (tgt := 18) hx hb d_X_changeRate_1 (by decide) (fun c_1 => ?_) (fun c_1 => ?_)
  · have h := h.1 c_1
    refine lv_bipush (v := (-102)) hx hb d_X_changeRate_18 (by decide) ?_
    exact W.iret (v := (-102)) hx hb hr (fun t ht hW => ⟨⟨(-102), σ, rfl, h, mw_pass hH hK hA hS ht hW⟩, hS.F ht⟩) hS.2.2 d_X_changeRate_20
  · have h := h.2 c_1
    refine lv_lload_n hx hb d_X_changeRate_4 rfl (lv_at hl 1 rfl) ?_
    refine lv_lconst (v := 1) hx hb d_X_changeRate_5 rfl ?_
    refine W.lcmp hx hb d_X_changeRate_6 ?_
    refine lv_if_lt (tgt := 18) hx hb d_X_changeRate_7 (by decide) (fun c_2 => ?_) (fun c_2 => ?_)
    · have h := h.1 c_2
      refine lv_bipush (v := (-102)) hx hb d_X_changeRate_18 (by decide) ?_
      exact W.iret (v := (-102)) hx hb hr (fun t ht hW => ⟨⟨(-102), σ, rfl, h, mw_pass hH hK hA hS ht hW⟩, hS.F ht⟩) hS.2.2 d_X_changeRate_20
    · have h := h.2 c_2
      refine lv_lload_n hx hb d_X_changeRate_10 rfl (lv_at hl 1 rfl) ?_
      refine lv_ldc2 (v := 100000) hx hb hown (hts _ wd_351) d_X_changeRate_11 ?_
      refine W.lcmp hx hb d_X_changeRate_14 ?_
      refine lv_if_le (tgt := 21) hx hb d_X_changeRate_15 (by decide) (fun c_3 => ?_) (fun c_3 => ?_)
      · have h := h.1 c_3
        refine mr_aload_n hx hb d_X_changeRate_21 rfl (lv_at hl 0 rfl) ?_
        refine lv_lload_n hx hb d_X_changeRate_22 rfl (lv_at hl 1 rfl) ?_
        obtain ⟨a_4, e_5, t_6, h⟩ := h
        obtain ⟨σ_7, z_8⟩ : ∃ y : ST, y = st_sJ σ 120 a_4 p1 := ⟨_, rfl⟩
        have h := h σ_7 z_8
        refine ms_putN (σ := σ) (r := p0) (a := a_4) (fs := fl_3 σ a_4) (ci := 3) (C := R_Currency) (T := T_Currency) (N := 1) (v := .long p1) (ty := .long) hx hb hts in_3 ty_Currency ty_Currency_ok nm_Currency hown hK hH hS e_5 (cell_3 t_6) rfl 0 (by decide) (va_Nw.use rfl (hn _ wd_75 rfl)) (fun _ h9 => h9) rfl (by decide +kernel) rfl rfl (Nat.le_of_ble_eq_true rfl) d_X_changeRate_23 (σ1 := σ_7) (by rw [z_8]; exact put_3_0 σ a_4 p1 t_6) (by rw [z_8]; rfl) (by rw [z_8]; rfl) (fun H locs hH hK hS => ?_)
        have t_9 : st_tg σ_7 a_4 = some 3 := by rw [z_8]; exact t_6
        refine lv_iconst (v := 1) hx hb d_X_changeRate_26 (by decide) ?_
        exact W.iret (v := 1) hx hb hr (fun t ht hW => ⟨⟨1, σ_7, rfl, h, mw_pass hH hK hA hS ht hW⟩, hS.F ht⟩) hS.2.2 d_X_changeRate_27
      · have h := h.2 c_3
        refine lv_bipush (v := (-102)) hx hb d_X_changeRate_18 (by decide) ?_
        exact W.iret (v := (-102)) hx hb hr (fun t ht hW => ⟨⟨(-102), σ, rfl, h, mw_pass hH hK hA hS ht hW⟩, hS.F ht⟩) hS.2.2 d_X_changeRate_20
def wp_X_set (σ : ST) (h0 : Nat) (p1 : Int32) (p2 : Int32) (p3 : Int64) (K : Int32 → ST → Prop) : Prop :=
  (((p1 = 0) → st_tg σ h0 = some 0 ∧ (wp_X_officeAt σ h0 p2 (fun (r_3 : Option Nat) σ_4 =>
  st_tg σ_4 h0 = some 0 ∧ (wp_X_changeTill σ_4 h0 r_3 p3 (fun (r_6 : Int32) σ_7 =>
  K r_6 σ_7))))) ∧
  ((¬ p1 = 0) → ((p1 = 1) → st_tg σ h0 = some 0 ∧ (wp_X_officeAt σ h0 p2 (fun (r_10 : Option Nat) σ_11 =>
  wp_X_changeLimit σ_11 r_10 p3 (fun (r_12 : Int32) σ_13 =>
  K r_12 σ_13)))) ∧
  ((¬ p1 = 1) → ((p1 = 2) → st_tg σ h0 = some 0 ∧ (wp_X_currencyAt σ h0 p2 (fun (r_16 : Option Nat) σ_17 =>
  wp_X_changeRate σ_17 r_16 p3 (fun (r_18 : Int32) σ_19 =>
  K r_18 σ_19)))) ∧
  ((¬ p1 = 2) → K ((-102)) σ))))
abbrev ROOM_X_set : Room := { frames := 1, cells := 0, slots := 0, locals := 23 }
set_option maxHeartbeats 4000000 in
set_option maxRecDepth 100000 in
theorem mc_X_set (l : Launch) (D : va_G) (A : Nat → Prop) (σ : ST) (h0 : Nat) (p1 : Int32) (p2 : Int32) (p3 : Int64) (K : Int32 → ST → Prop) : Met l y_X_set ws_X_set ROOM_X_set (va_Pc [.ref h0, .int p1, .int p2, .long p3] (fun U => mw D A σ U ∧ mn U ∧ wp_X_set σ h0 p1 p2 p3 K)) (va_Qi K (mw D A) A) 0 0 A := by
  refine Met.ofW (cc := c_X_set) (maxL := 5) (ret := (some .int)) (by decide) rfl ?_
  intro p e s m args below meth c s₁ B hml hv
  obtain ⟨rfl, ⟨hH, hK, hA⟩, hn, h⟩ := hv
  have hx := B.exec
  have hb := B.bytes
  have hr := B.returns
  have hts := atoms_spec (ws := ws_X_set) B.pre
  have hown : s.vm.findClass R_X = some m.cls := findClass_of_methodNamed B.named
  have hlocks := B.notSynchronized
  have hts : ∀ w ∈ lw_g, w.before ([.ref h0, .int p1, .int p2, .long p3] : List Value).toArray s = true := fun w hw => hts w (List.mem_cons_of_mem _ hw)
  have hS : va_S A s.heap s.heap [] := va_S.rf
  have hl := lv_entry ([.ref h0, .int p1, .int p2, .long p3]) (n := 5) (Nat.le_of_ble_eq_true rfl)
  rw [lg_entry_eq]
  generalize (lg_sl ([.ref h0, .int p1, .int p2, .long p3]) ++ List.replicate (5 - (lg_sl ([.ref h0, .int p1, .int p2, .long p3])).length) Slot.unset).toArray = ls at hl ⊢
  have hl : lv_has ls 5 [(0, va_rf (some h0)), (1, .int p1), (2, .int p2), (3, .long p3)] := hl
  unfold wp_X_set at h
  refine lv_iload_n hx hb d_X_set_0 rfl (lv_at hl 1 rfl) ?_
  by_cases c_1 : p1 = 0
  · have h := h.1 c_1
    refine lv_tableIn (off := 27) (tgt := 28) hx hb d_X_set_1 (by rw [c_1]; decide) (by rw [c_1]; decide) (by rw [c_1]; decide) (by decide) ?_
    refine mr_aload_n hx hb d_X_set_28 rfl (lv_at hl 0 rfl) ?_
    refine mr_aload_n hx hb d_X_set_29 rfl (lv_at hl 0 rfl) ?_
    refine lv_iload_n hx hb d_X_set_30 rfl (lv_at hl 2 rfl) ?_
    obtain ⟨t_2, h⟩ := h
    refine ms_callq (va_runV (As := [.int p2]) (rest := [va_rf (some h0)]) ⟨hx, hb, hml, hown, hts⟩ (mc_X_officeAt l D A σ h0 p2 _) ⟨(callB_of 1 hts gw_X_officeAt rfl rfl rfl (hts _ wd_1) (hts _ wd_114) (by decide +kernel) ⟨by decide, by decide⟩), (hts _ wd_116), (hts _ wq_0)⟩ ⟨mw_blind, mg_recv hK.1 hH (ci := 0) rfl (cell_0 t_2), fun U hU hW => ⟨rfl, mw_pass hH hK hA hS hU hW, mn_warm hW hn, h⟩⟩ rfl rfl hl.1 rfl (lv_room (Nat.le_of_ble_eq_true rfl)) d_X_set_31 ⟨by decide, by decide⟩) hS (fun r_3 σ_4 H locs h hH hK hS => ?_)
    refine lv_lload_n hx hb d_X_set_34 rfl (lv_at hl 3 rfl) ?_
    obtain ⟨t_5, h⟩ := h
    refine ms_calli (va_runV (As := [va_rf r_3, .long p3]) (rest := []) ⟨hx, hb, hml, hown, hts⟩ (mc_X_changeTill l D A σ_4 h0 r_3 p3 _) ⟨(callB_of 2 hts gw_X_changeTill rfl rfl rfl (hts _ wd_1) (hts _ wd_338) (by decide +kernel) ⟨by decide, by decide⟩), (hts _ wd_340), (hts _ wq_9)⟩ ⟨mw_blind, mg_recv hK.1 hH (ci := 0) rfl (cell_0 t_5), fun U hU hW => ⟨rfl, mw_pass hH hK hA hS hU hW, mn_warm hW hn, h⟩⟩ rfl rfl hl.1 rfl (lv_room (Nat.le_of_ble_eq_true rfl)) d_X_set_35 ⟨by decide, by decide⟩) hS (fun r_6 σ_7 H locs h hH hK hS => ?_)
    exact W.iret (v := r_6) hx hb hr (fun t ht hW => ⟨⟨r_6, σ_7, rfl, h, mw_pass hH hK hA hS ht hW⟩, hS.F ht⟩) hS.2.2 d_X_set_38
  · have h := h.2 c_1
    by_cases c_8 : p1 = 1
    · have h := h.1 c_8
      refine lv_tableIn (off := 38) (tgt := 39) hx hb d_X_set_1 (by rw [c_8]; decide) (by rw [c_8]; decide) (by rw [c_8]; decide) (by decide) ?_
      refine mr_aload_n hx hb d_X_set_39 rfl (lv_at hl 0 rfl) ?_
      refine lv_iload_n hx hb d_X_set_40 rfl (lv_at hl 2 rfl) ?_
      obtain ⟨t_9, h⟩ := h
      refine ms_callq (va_runV (As := [.int p2]) (rest := []) ⟨hx, hb, hml, hown, hts⟩ (mc_X_officeAt l D A σ h0 p2 _) ⟨(callB_of 1 hts gw_X_officeAt rfl rfl rfl (hts _ wd_1) (hts _ wd_114) (by decide +kernel) ⟨by decide, by decide⟩), (hts _ wd_116), (hts _ wq_0)⟩ ⟨mw_blind, mg_recv hK.1 hH (ci := 0) rfl (cell_0 t_9), fun U hU hW => ⟨rfl, mw_pass hH hK hA hS hU hW, mn_warm hW hn, h⟩⟩ rfl rfl hl.1 rfl (lv_room (Nat.le_of_ble_eq_true rfl)) d_X_set_41 ⟨by decide, by decide⟩) hS (fun r_10 σ_11 H locs h hH hK hS => ?_)
      refine lv_lload_n hx hb d_X_set_44 rfl (lv_at hl 3 rfl) ?_
      refine ms_calli (va_runS (As := [va_rf r_10, .long p3]) (rest := []) ⟨hx, hb, hml, hown, hts⟩ (mc_X_changeLimit l D A σ_11 r_10 p3 _) ⟨(callB_of 2 hts gw_X_changeLimit rfl rfl rfl (hts _ wd_1) (hts _ wd_344) (by decide +kernel) ⟨by decide, by decide⟩), (hts _ wd_345)⟩ ⟨mw_blind, fun U hU hW => ⟨rfl, mw_pass hH hK hA hS hU hW, mn_warm hW hn, h⟩⟩ rfl rfl hl.1 rfl (lv_room (Nat.le_of_ble_eq_true rfl)) d_X_set_45 ⟨by decide, by decide⟩) hS (fun r_12 σ_13 H locs h hH hK hS => ?_)
      exact W.iret (v := r_12) hx hb hr (fun t ht hW => ⟨⟨r_12, σ_13, rfl, h, mw_pass hH hK hA hS ht hW⟩, hS.F ht⟩) hS.2.2 d_X_set_48
    · have h := h.2 c_8
      by_cases c_14 : p1 = 2
      · have h := h.1 c_14
        refine lv_tableIn (off := 48) (tgt := 49) hx hb d_X_set_1 (by rw [c_14]; decide) (by rw [c_14]; decide) (by rw [c_14]; decide) (by decide) ?_
        refine mr_aload_n hx hb d_X_set_49 rfl (lv_at hl 0 rfl) ?_
        refine lv_iload_n hx hb d_X_set_50 rfl (lv_at hl 2 rfl) ?_
        obtain ⟨t_15, h⟩ := h
        refine ms_callq (va_runV (As := [.int p2]) (rest := []) ⟨hx, hb, hml, hown, hts⟩ (mc_X_currencyAt l D A σ h0 p2 _) ⟨(callB_of 1 hts gw_X_currencyAt rfl rfl rfl (hts _ wd_1) (hts _ wd_118) (by decide +kernel) ⟨by decide, by decide⟩), (hts _ wd_120), (hts _ wq_1)⟩ ⟨mw_blind, mg_recv hK.1 hH (ci := 0) rfl (cell_0 t_15), fun U hU hW => ⟨rfl, mw_pass hH hK hA hS hU hW, mn_warm hW hn, h⟩⟩ rfl rfl hl.1 rfl (lv_room (Nat.le_of_ble_eq_true rfl)) d_X_set_51 ⟨by decide, by decide⟩) hS (fun r_16 σ_17 H locs h hH hK hS => ?_)
        refine lv_lload_n hx hb d_X_set_54 rfl (lv_at hl 3 rfl) ?_
        refine ms_calli (va_runS (As := [va_rf r_16, .long p3]) (rest := []) ⟨hx, hb, hml, hown, hts⟩ (mc_X_changeRate l D A σ_17 r_16 p3 _) ⟨(callB_of 2 hts gw_X_changeRate rfl rfl rfl (hts _ wd_1) (hts _ wd_348) (by decide +kernel) ⟨by decide, by decide⟩), (hts _ wd_349)⟩ ⟨mw_blind, fun U hU hW => ⟨rfl, mw_pass hH hK hA hS hU hW, mn_warm hW hn, h⟩⟩ rfl rfl hl.1 rfl (lv_room (Nat.le_of_ble_eq_true rfl)) d_X_set_55 ⟨by decide, by decide⟩) hS (fun r_18 σ_19 H locs h hH hK hS => ?_)
        exact W.iret (v := r_18) hx hb hr (fun t ht hW => ⟨⟨r_18, σ_19, rfl, h, mw_pass hH hK hA hS ht hW⟩, hS.F ht⟩) hS.2.2 d_X_set_58
      · have h := h.2 c_14
        have c_1n := lv_neT (k := 0) (a := 0) c_1 rfl
        have c_8n := lv_neT (k := 1) (a := 1) c_8 rfl
        have c_14n := lv_neT (k := 2) (a := 2) c_14 rfl
        refine lv_tableOut (tgt := 59) hx hb d_X_set_1 (by omega) (by decide) ?_
        refine lv_bipush (v := (-102)) hx hb d_X_set_59 (by decide) ?_
        exact W.iret (v := (-102)) hx hb hr (fun t ht hW => ⟨⟨(-102), σ, rfl, h, mw_pass hH hK hA hS ht hW⟩, hS.F ht⟩) hS.2.2 d_X_set_61
def wp_X_isCollectDay (σ : ST) (p0 : Int32) (K : Int32 → ST → Prop) : Prop :=
  (((p0 < 0) → K 0 σ) ∧
  ((¬ p0 < 0) → ((((9999 : Int32) < p0) → K 0 σ) ∧
  ((¬ (9999 : Int32) < p0) → K 1 σ))))
abbrev ROOM_X_isCollectDay : Room := { frames := 0, cells := 0, slots := 0, locals := 0 }
set_option maxHeartbeats 4000000 in
set_option maxRecDepth 100000 in
theorem mc_X_isCollectDay (l : Launch) (D : va_G) (A : Nat → Prop) (σ : ST) (p0 : Int32) (K : Int32 → ST → Prop) : Met l y_X_isCollectDay ws_X_isCollectDay ROOM_X_isCollectDay (va_Pc [.int p0] (fun U => mw D A σ U ∧ mn U ∧ wp_X_isCollectDay σ p0 K)) (va_Qi K (mw D A) A) 0 0 A := by
  refine Met.ofW (cc := c_X_isCollectDay) (maxL := 1) (ret := (some .boolean)) (by decide) rfl ?_
  intro p e s m args below meth c s₁ B hml hv
  obtain ⟨rfl, ⟨hH, hK, hA⟩, hn, h⟩ := hv
  have hx := B.exec
  have hb := B.bytes
  have hr := B.returns
  have hts := atoms_spec (ws := ws_X_isCollectDay) B.pre
  have hown : s.vm.findClass R_X = some m.cls := findClass_of_methodNamed B.named
  have hlocks := B.notSynchronized
  have hts : ∀ w ∈ lw_g, w.before ([.int p0] : List Value).toArray s = true := fun w hw => hts w (List.mem_cons_of_mem _ hw)
  have hS : va_S A s.heap s.heap [] := va_S.rf
  have hl := lv_entry ([.int p0]) (n := 1) (Nat.le_of_ble_eq_true rfl)
  rw [lg_entry_eq]
  generalize (lg_sl ([.int p0]) ++ List.replicate (1 - (lg_sl ([.int p0])).length) Slot.unset).toArray = ls at hl ⊢
  have hl : lv_has ls 1 [(0, .int p0)] := hl
  unfold wp_X_isCollectDay at h
  refine lv_iload_n hx hb d_X_isCollectDay_0 rfl (lv_at hl 0 rfl) ?_
  refine lv_if_lt (tgt := 15) hx hb d_X_isCollectDay_1 (by decide) (fun c_1 => ?_) (fun c_1 => ?_)
  · have h := h.1 c_1
    refine lv_iconst (v := 0) hx hb d_X_isCollectDay_15 (by decide) ?_
    exact W.zret (v := 0) hx hb hr rfl (fun t ht hW => ⟨⟨0, σ, rfl, h, mw_pass hH hK hA hS ht hW⟩, hS.F ht⟩) hS.2.2 d_X_isCollectDay_16
  · have h := h.2 c_1
    refine lv_iload_n hx hb d_X_isCollectDay_4 rfl (lv_at hl 0 rfl) ?_
    refine lv_sipush (v := 9999) hx hb d_X_isCollectDay_5 (by decide) ?_
    refine lv_icmp_gt (tgt := 15) hx hb d_X_isCollectDay_8 (by decide) (fun c_2 => ?_) (fun c_2 => ?_)
    · have h := h.1 c_2
      refine lv_iconst (v := 0) hx hb d_X_isCollectDay_15 (by decide) ?_
      exact W.zret (v := 0) hx hb hr rfl (fun t ht hW => ⟨⟨0, σ, rfl, h, mw_pass hH hK hA hS ht hW⟩, hS.F ht⟩) hS.2.2 d_X_isCollectDay_16
    · have h := h.2 c_2
      refine lv_iconst (v := 1) hx hb d_X_isCollectDay_11 (by decide) ?_
      refine lv_goto (tgt := 16) hx hb d_X_isCollectDay_12 (by decide) ?_
      exact W.zret (v := 1) hx hb hr rfl (fun t ht hW => ⟨⟨1, σ, rfl, h, mw_pass hH hK hA hS ht hW⟩, hS.F ht⟩) hS.2.2 d_X_isCollectDay_16
def wp_Collected_init (σ : ST) (h0 : Nat) (p1 : Option Nat) (p2 : Int64) (p4 : Int32) (K : ST → Prop) : Prop :=
  st_tg σ h0 = some 2 ∧ (∀ σ_2 : ST, σ_2 = st_sR σ 80 h0 p1 → (∀ σ_5 : ST, σ_5 = st_sJ σ_2 81 h0 p2 → (∀ σ_8 : ST, σ_8 = st_sI σ_5 82 h0 p4 → (K σ_8))))
abbrev ROOM_Collected_init : Room := { frames := 1, cells := 0, slots := 0, locals := 12 }
set_option maxHeartbeats 4000000 in
set_option maxRecDepth 100000 in
theorem mc_Collected_init (l : Launch) (D : va_G) (A : Nat → Prop) (σ : ST) (h0 : Nat) (p1 : Option Nat) (p2 : Int64) (p4 : Int32) (K : ST → Prop) : Met l y_Collected_init ws_Collected_init ROOM_Collected_init (va_Pc [.ref h0, va_rf p1, .long p2, .int p4] (fun U => mw D A σ U ∧ mn U ∧ wp_Collected_init σ h0 p1 p2 p4 K)) (va_Qv K (mw D A) A) 0 0 A := by
  refine Met.ofW (cc := c_Collected_init) (maxL := 5) (ret := none) (by decide) rfl ?_
  intro p e s m args below meth c s₁ B hml hv
  obtain ⟨rfl, ⟨hH, hK, hA⟩, hn, h⟩ := hv
  have hx := B.exec
  have hb := B.bytes
  have hr := B.returns
  have hts := atoms_spec (ws := ws_Collected_init) B.pre
  have hown : s.vm.findClass R_Collected = some m.cls := findClass_of_methodNamed B.named
  have hlocks := B.notSynchronized
  have hin : meth.name = "<init>" := (name_of_methodNamed B.named B.method).1
  have hts : ∀ w ∈ lw_g, w.before ([.ref h0, va_rf p1, .long p2, .int p4] : List Value).toArray s = true := fun w hw => hts w (List.mem_cons_of_mem _ hw)
  have hS : va_S A s.heap s.heap [] := va_S.rf
  have hl := lv_entry ([.ref h0, va_rf p1, .long p2, .int p4]) (n := 5) (by simp [lg_sl, cat_rf, cat_i, cat_l, cat_r])
  rw [lg_entry_eq]
  generalize (lg_sl ([.ref h0, va_rf p1, .long p2, .int p4]) ++ List.replicate (5 - (lg_sl ([.ref h0, va_rf p1, .long p2, .int p4])).length) Slot.unset).toArray = ls at hl ⊢
  have hle : lv_args 0 [.ref h0, va_rf p1, .long p2, .int p4] = [(0, .ref h0), (1, va_rf p1), (2, .long p2), (4, .int p4)] := by simp [lv_args, cat_rf, cat_i, cat_l, cat_r]
  rw [hle] at hl
  have hl : lv_has ls 5 [(0, va_rf (some h0)), (1, va_rf p1), (2, .long p2), (4, .int p4)] := hl
  unfold wp_Collected_init at h
  refine mr_aload_n hx hb d_Collected_init_0 rfl (lv_at hl 0 rfl) ?_
  refine W.objInit hx hb hown (hts _ wd_363) (hts _ wd_15) (hts _ wd_16) rfl (by rw [hml]; exact hl.1) rfl d_Collected_init_1 (Nat.le_of_ble_eq_true rfl) (Nat.le_of_ble_eq_true rfl) ?_
  refine W.eq (g2 := F0 m 4 ls []) rfl ?_
  refine mr_aload_n hx hb d_Collected_init_4 rfl (lv_at hl 0 rfl) ?_
  refine mr_aload_n hx hb d_Collected_init_5 rfl (lv_at hl 1 rfl) ?_
  obtain ⟨t_1, h⟩ := h
  obtain ⟨σ_2, z_3⟩ : ∃ y : ST, y = st_sR σ 80 h0 p1 := ⟨_, rfl⟩
  have h := h σ_2 z_3
  refine ms_putF (σ := σ) (r := some h0) (a := h0) (fs := fl_2 σ h0) (ci := 2) (C := R_Collected) (T := T_Collected) (N := 3) (v := va_rf p1) (ty := (.object "OrderMoney$Office")) hx hb hts in_2 ty_Collected ty_Collected_ok nm_Collected hown hK hH hS rfl (cell_2 t_1) rfl 0 (by decide) (hts _ wd_364) (fun _ h9 => h9) rfl hin rfl (by decide +kernel) (nar_rf _ _) (fit_rf _ _) (Nat.le_of_ble_eq_true rfl) d_Collected_init_6 (σ1 := σ_2) (by rw [z_3]; exact put_2_0 σ h0 p1 t_1) (by rw [z_3]; rfl) (by rw [z_3]; rfl) (fun H locs hH hK hS => ?_)
  have t_4 : st_tg σ_2 h0 = some 2 := by rw [z_3]; exact t_1
  refine mr_aload_n hx hb d_Collected_init_9 rfl (lv_at hl 0 rfl) ?_
  refine lv_lload_n hx hb d_Collected_init_10 rfl (lv_at hl 2 rfl) ?_
  obtain ⟨σ_5, z_6⟩ : ∃ y : ST, y = st_sJ σ_2 81 h0 p2 := ⟨_, rfl⟩
  have h := h σ_5 z_6
  refine ms_putF (σ := σ_2) (r := some h0) (a := h0) (fs := fl_2 σ_2 h0) (ci := 2) (C := R_Collected) (T := T_Collected) (N := 3) (v := .long p2) (ty := .long) hx hb hts in_2 ty_Collected ty_Collected_ok nm_Collected hown hK hH hS rfl (cell_2 t_4) rfl 1 (by decide) (hts _ wd_366) (fun _ h9 => h9) rfl hin rfl (by decide +kernel) rfl rfl (Nat.le_of_ble_eq_true rfl) d_Collected_init_11 (σ1 := σ_5) (by rw [z_6]; exact put_2_1 σ_2 h0 p2 t_4) (by rw [z_6]; rfl) (by rw [z_6]; rfl) (fun H locs hH hK hS => ?_)
  have t_7 : st_tg σ_5 h0 = some 2 := by rw [z_6]; exact t_4
  refine mr_aload_n hx hb d_Collected_init_14 rfl (lv_at hl 0 rfl) ?_
  refine lv_iload hx hb d_Collected_init_15 (lv_at hl 3 rfl) ?_
  obtain ⟨σ_8, z_9⟩ : ∃ y : ST, y = st_sI σ_5 82 h0 p4 := ⟨_, rfl⟩
  have h := h σ_8 z_9
  refine ms_putF (σ := σ_5) (r := some h0) (a := h0) (fs := fl_2 σ_5 h0) (ci := 2) (C := R_Collected) (T := T_Collected) (N := 3) (v := .int p4) (ty := .int) hx hb hts in_2 ty_Collected ty_Collected_ok nm_Collected hown hK hH hS rfl (cell_2 t_7) rfl 2 (by decide) (hts _ wd_368) (fun _ h9 => h9) rfl hin rfl (by decide +kernel) rfl rfl (Nat.le_of_ble_eq_true rfl) d_Collected_init_17 (σ1 := σ_8) (by rw [z_9]; exact put_2_2 σ_5 h0 p4 t_7) (by rw [z_9]; rfl) (by rw [z_9]; rfl) (fun H locs hH hK hS => ?_)
  have t_10 : st_tg σ_8 h0 = some 2 := by rw [z_9]; exact t_7
  exact W.vret hx hb hr (fun t ht hW => ⟨⟨σ_8, rfl, h, mw_pass hH hK hA hS ht hW⟩, hS.F ht⟩) hS.2.2 d_Collected_init_20
def wp_X_collect (σ : ST) (h0 : Nat) (p1 : Int32) (p2 : Int64) (p4 : Int32) (K : Int32 → ST → Prop) : Prop :=
  st_tg σ h0 = some 0 ∧ (wp_X_officeAt σ h0 p1 (fun (r_2 : Option Nat) σ_3 =>
  (((r_2 = none) → K ((-102)) σ_3) ∧
  ((¬ r_2 = none) → wp_X_isOrderable σ_3 p2 (fun (r_5 : Int32) σ_6 =>
  (((r_5 = 0) → K ((-102)) σ_6) ∧
  ((¬ r_5 = 0) → wp_X_isCollectDay σ_6 p4 (fun (r_8 : Int32) σ_9 =>
  (((¬ r_8 = 0) → st_tg σ_9 h0 = some 0 ∧ ((((((st_I σ_9 8 h0)) < (100 : Int32)) → ∃ a_13 : Nat, r_2 = some a_13 ∧ st_tg σ_9 a_13 = some 4 ∧ (∀ σ_16 : ST, σ_16 = st_sJ σ_9 161 a_13 ((((st_J σ_9 161 a_13)) + p2)) → (∃ a_20 : Nat, (st_R σ_16 9 h0) = some a_20 ∧ st_tg σ_16 a_20 = some 302 ∧ (vp_in 2 (st_ln σ_16 a_20) ∧ (vp_in 2 (st_ln σ_16 a_20) ∧ (∀ σ_25 : ST, σ_25 = st_uJ σ_16 a_20 (Int32.toNatClampNeg 2) ((((st_eJ σ_16 a_20 (Int32.toNatClampNeg 2))) + p2)) → (∀ q_30 : Nat, st_tg σ_25 q_30 = none → ∀ σ_31 : ST, σ_31 = st_new σ_25 q_30 2 → (wp_Collected_init σ_31 q_30 r_2 p2 p4 (fun σ_39 =>
  ∃ a_40 : Nat, (st_R σ_25 7 h0) = some a_40 ∧ st_tg σ_39 a_40 = some 312 ∧ (vp_in ((st_I σ_25 8 h0)) (st_ln σ_39 a_40) ∧ ((∀ y : Nat, some q_30 = some y → st_tg σ_39 y = some 2) ∧ (∀ σ_45 : ST, σ_45 = st_uR σ_39 a_40 (Int32.toNatClampNeg ((st_I σ_25 8 h0))) (some q_30) → (st_tg σ_45 h0 = some 0 ∧ (∀ σ_49 : ST, σ_49 = st_sI σ_45 8 h0 ((((st_I σ_45 8 h0)) + 1)) → (K ((st_I σ_49 8 h0)) σ_49))))))))))))))) ∧
  ((¬ ((st_I σ_9 8 h0)) < (100 : Int32)) → K ((-104)) σ_9)))) ∧
  ((r_8 = 0) → K ((-102)) σ_9))))))))))
abbrev ROOM_X_collect : Room := { frames := 2, cells := 1, slots := 3, locals := 36 }
set_option maxHeartbeats 4000000 in
set_option maxRecDepth 100000 in
theorem mc_X_collect (l : Launch) (D : va_G) (A : Nat → Prop) (σ : ST) (h0 : Nat) (p1 : Int32) (p2 : Int64) (p4 : Int32) (K : Int32 → ST → Prop) : Met l y_X_collect ws_X_collect ROOM_X_collect (va_Pc [.ref h0, .int p1, .long p2, .int p4] (fun U => mw D A σ U ∧ mn U ∧ wp_X_collect σ h0 p1 p2 p4 K)) (va_Qi K (mw D A) A) 1 3 A := by
  refine Met.ofW (cc := c_X_collect) (maxL := 6) (ret := (some .int)) (by decide) rfl ?_
  intro p e s m args below meth c s₁ B hml hv
  obtain ⟨rfl, ⟨hH, hK, hA⟩, hn, h⟩ := hv
  have hx := B.exec
  have hb := B.bytes
  have hr := B.returns
  have hts := atoms_spec (ws := ws_X_collect) B.pre
  have hown : s.vm.findClass R_X = some m.cls := findClass_of_methodNamed B.named
  have hlocks := B.notSynchronized
  have hts : ∀ w ∈ lw_g, w.before ([.ref h0, .int p1, .long p2, .int p4] : List Value).toArray s = true := fun w hw => hts w (List.mem_cons_of_mem _ hw)
  have hS : va_S A s.heap s.heap [] := va_S.rf
  have hl := lv_entry ([.ref h0, .int p1, .long p2, .int p4]) (n := 6) (Nat.le_of_ble_eq_true rfl)
  rw [lg_entry_eq]
  generalize (lg_sl ([.ref h0, .int p1, .long p2, .int p4]) ++ List.replicate (6 - (lg_sl ([.ref h0, .int p1, .long p2, .int p4])).length) Slot.unset).toArray = ls at hl ⊢
  have hl : lv_has ls 6 [(0, va_rf (some h0)), (1, .int p1), (2, .long p2), (4, .int p4)] := hl
  unfold wp_X_collect at h
  refine mr_aload_n hx hb d_X_collect_0 rfl (lv_at hl 0 rfl) ?_
  refine lv_iload_n hx hb d_X_collect_1 rfl (lv_at hl 1 rfl) ?_
  obtain ⟨t_1, h⟩ := h
  refine ms_callq (va_runV (As := [.int p1]) (rest := []) ⟨hx, hb, hml, hown, hts⟩ (mc_X_officeAt l D A σ h0 p1 _) ⟨(callB_of 1 hts gw_X_officeAt rfl rfl rfl (hts _ wd_1) (hts _ wd_114) (by decide +kernel) ⟨by decide, by decide⟩), (hts _ wd_116), (hts _ wq_0)⟩ ⟨mw_blind, mg_recv hK.1 hH (ci := 0) rfl (cell_0 t_1), fun U hU hW => ⟨rfl, mw_pass hH hK hA hS hU hW, mn_warm hW hn, h⟩⟩ rfl rfl hl.1 rfl (lv_room (Nat.le_of_ble_eq_true rfl)) d_X_collect_2 ⟨by decide, by decide⟩) hS (fun r_2 σ_3 H locs h hH hK hS => ?_)
  refine mr_astore (lv' := [(5, va_rf r_2), (0, va_rf (some h0)), (1, .int p1), (2, .long p2), (4, .int p4)]) hx hb d_X_collect_5 hl (by decide) rfl (fun ls hl => ?_)
  refine mr_aload hx hb d_X_collect_7 (lv_at hl 0 rfl) ?_
  refine mr_ifnull (x := r_2) (tgt := 27) hx hb d_X_collect_9 (by decide) (fun c_4 => ?_) (fun c_4 => ?_)
  · have h := h.1 c_4
    refine lv_bipush (v := (-102)) hx hb d_X_collect_27 (by decide) ?_
    refine W.widen (k := 1) (n := 3) (by decide) (by decide) ?_
    exact W.iret (v := (-102)) hx hb hr (fun t ht hW => ⟨⟨(-102), σ_3, rfl, h, mw_pass hH hK hA hS ht hW⟩, hS.F ht⟩) hS.2.2 d_X_collect_29
  · have h := h.2 c_4
    refine lv_lload_n hx hb d_X_collect_12 rfl (lv_at hl 3 rfl) ?_
    refine ms_calli (va_runS (As := [.long p2]) (rest := []) ⟨hx, hb, hml, hown, hts⟩ (mc_X_isOrderable l D A σ_3 p2 _) ⟨(callB_of 1 hts gw_X_isOrderable rfl rfl rfl (hts _ wd_1) (hts _ wd_122) (by decide +kernel) ⟨by decide, by decide⟩), (hts _ wd_123)⟩ ⟨mw_blind, fun U hU hW => ⟨rfl, mw_pass hH hK hA hS hU hW, mn_warm hW hn, h⟩⟩ rfl rfl hl.1 rfl (lv_room (Nat.le_of_ble_eq_true rfl)) d_X_collect_13 ⟨by decide, by decide⟩) hS (fun r_5 σ_6 H locs h hH hK hS => ?_)
    refine lv_if_eq (tgt := 27) hx hb d_X_collect_16 (by decide) (fun c_7 => ?_) (fun c_7 => ?_)
    · have h := h.1 c_7
      refine lv_bipush (v := (-102)) hx hb d_X_collect_27 (by decide) ?_
      refine W.widen (k := 1) (n := 3) (by decide) (by decide) ?_
      exact W.iret (v := (-102)) hx hb hr (fun t ht hW => ⟨⟨(-102), σ_6, rfl, h, mw_pass hH hK hA hS ht hW⟩, hS.F ht⟩) hS.2.2 d_X_collect_29
    · have h := h.2 c_7
      refine lv_iload hx hb d_X_collect_19 (lv_at hl 4 rfl) ?_
      refine ms_calli (va_runS (As := [.int p4]) (rest := []) ⟨hx, hb, hml, hown, hts⟩ (mc_X_isCollectDay l D A σ_6 p4 _) ⟨(callB_of 1 hts gw_X_isCollectDay rfl rfl rfl (hts _ wd_1) (hts _ wd_356) (by decide +kernel) ⟨by decide, by decide⟩), (hts _ wd_357)⟩ ⟨mw_blind, fun U hU hW => ⟨rfl, mw_pass hH hK hA hS hU hW, mn_warm hW hn, h⟩⟩ rfl rfl hl.1 rfl (lv_room (Nat.le_of_ble_eq_true rfl)) d_X_collect_21 ⟨by decide, by decide⟩) hS (fun r_8 σ_9 H locs h hH hK hS => ?_)
      refine lv_if_ne (tgt := 30) hx hb d_X_collect_24 (by decide) (fun c_10 => ?_) (fun c_10 => ?_)
      · have h := h.1 c_10
        refine mr_aload_n hx hb d_X_collect_30 rfl (lv_at hl 1 rfl) ?_
        obtain ⟨t_11, h⟩ := h
        refine ms_get (σ := σ_9) (r := some h0) (a := h0) (fs := fl_0 σ_9 h0) (ci := 0) (C := R_X) (T := T_X) (N := 10) hx hb hts in_0 hown hK hH rfl (cell_0 t_11) rfl 8 (by decide) (hts _ wd_87) (fun _ h9 => h9) (v := .int (st_I σ_9 8 h0)) rfl d_X_collect_31 ?_
        refine lv_bipush (v := 100) hx hb d_X_collect_34 (by decide) ?_
        refine lv_icmp_lt (tgt := 42) hx hb d_X_collect_36 (by decide) (fun c_12 => ?_) (fun c_12 => ?_)
        · have h := h.1 c_12
          refine mr_aload hx hb d_X_collect_42 (lv_at hl 0 rfl) ?_
          refine lv_dup hx hb d_X_collect_44 (cat_rf _) ?_
          obtain ⟨a_13, e_14, t_15, h⟩ := h
          refine ms_getN (σ := σ_9) (r := r_2) (a := a_13) (fs := fl_4 σ_9 a_13) (ci := 4) (C := R_Office) (T := T_Office) (N := 9) hx hb hts in_4 hown hK hH e_14 (cell_4 t_15) rfl 1 (by decide) (va_Nw.use rfl (hn _ wd_35 rfl)) (fun _ h9 => h9) (v := .long (st_J σ_9 161 a_13)) rfl d_X_collect_45 ?_
          refine lv_lload_n hx hb d_X_collect_48 rfl (lv_at hl 3 rfl) ?_
          refine lv_ladd hx hb d_X_collect_49 ?_
          obtain ⟨σ_16, z_17⟩ : ∃ y : ST, y = st_sJ σ_9 161 a_13 ((((st_J σ_9 161 a_13)) + p2)) := ⟨_, rfl⟩
          have h := h σ_16 z_17
          refine ms_putN (σ := σ_9) (r := r_2) (a := a_13) (fs := fl_4 σ_9 a_13) (ci := 4) (C := R_Office) (T := T_Office) (N := 9) (v := .long (((st_J σ_9 161 a_13)) + p2)) (ty := .long) hx hb hts in_4 ty_Office ty_Office_ok nm_Office hown hK hH hS e_14 (cell_4 t_15) rfl 1 (by decide) (va_Nw.use rfl (hn _ wd_35 rfl)) (fun _ h9 => h9) rfl (by decide +kernel) rfl rfl (Nat.le_of_ble_eq_true rfl) d_X_collect_50 (σ1 := σ_16) (by rw [z_17]; exact put_4_1 σ_9 a_13 ((((st_J σ_9 161 a_13)) + p2)) t_15) (by rw [z_17]; rfl) (by rw [z_17]; rfl) (fun H locs hH hK hS => ?_)
          have t_18 : st_tg σ_16 h0 = some 0 := by rw [z_17]; exact t_11
          have t_19 : st_tg σ_16 a_13 = some 4 := by rw [z_17]; exact t_15
          refine mr_aload_n hx hb d_X_collect_53 rfl (lv_at hl 1 rfl) ?_
          refine ms_get (σ := σ_16) (r := some h0) (a := h0) (fs := fl_0 σ_16 h0) (ci := 0) (C := R_X) (T := T_X) (N := 10) hx hb hts in_0 hown hK hH rfl (cell_0 t_18) rfl 9 (by decide) (hts _ wd_88) (fun _ h9 => h9) (v := va_rf (st_R σ_16 9 h0)) rfl d_X_collect_54 ?_
          refine lv_iconst (v := 2) hx hb d_X_collect_57 (by decide) ?_
          refine lv_dup2_11 hx hb d_X_collect_58 rfl (cat_rf _) ?_
          obtain ⟨a_20, e_21, t_22, h⟩ := h
          obtain ⟨b_23, h⟩ := h
          refine ms_lald (σ := σ_16) (r := (st_R σ_16 9 h0)) (a := a_20) hx hb hK hH e_21 t_22 rfl (cell_302 t_22) b_23 d_X_collect_59 ?_
          refine lv_lload_n hx hb d_X_collect_60 rfl (lv_at hl 3 rfl) ?_
          refine lv_ladd hx hb d_X_collect_61 ?_
          obtain ⟨b_24, h⟩ := h
          obtain ⟨σ_25, z_26⟩ : ∃ y : ST, y = st_uJ σ_16 a_20 (Int32.toNatClampNeg 2) ((((st_eJ σ_16 a_20 (Int32.toNatClampNeg 2))) + p2)) := ⟨_, rfl⟩
          have h := h σ_25 z_26
          refine ms_last (σ := σ_16) (r := (st_R σ_16 9 h0)) (a := a_20) (x := (((st_eJ σ_16 a_20 (Int32.toNatClampNeg 2))) + p2)) hx hb hK hH hS e_21 t_22 rfl (cell_302 t_22)  b_24 d_X_collect_62 (σ1 := σ_25) (by rw [z_26]; exact uput_302 σ_16 a_20 _ ((((st_eJ σ_16 a_20 (Int32.toNatClampNeg 2))) + p2)) t_22) (by rw [z_26]; rfl) (by rw [z_26]; rfl) (fun H locs hH hK hS => ?_)
          have t_27 : st_tg σ_25 h0 = some 0 := by rw [z_26]; exact t_18
          have t_28 : st_tg σ_25 a_13 = some 4 := by rw [z_26]; exact t_19
          have t_29 : st_tg σ_25 a_20 = some 302 := by rw [z_26]; exact t_22
          refine mr_aload_n hx hb d_X_collect_63 rfl (lv_at hl 1 rfl) ?_
          refine ms_get (σ := σ_25) (r := some h0) (a := h0) (fs := fl_0 σ_25 h0) (ci := 0) (C := R_X) (T := T_X) (N := 10) hx hb hts in_0 hown hK hH rfl (cell_0 t_27) rfl 7 (by decide) (hts _ wd_86) (fun _ h9 => h9) (v := va_rf (st_R σ_25 7 h0)) rfl d_X_collect_64 ?_
          refine mr_aload_n hx hb d_X_collect_67 rfl (lv_at hl 1 rfl) ?_
          refine ms_get (σ := σ_25) (r := some h0) (a := h0) (fs := fl_0 σ_25 h0) (ci := 0) (C := R_X) (T := T_X) (N := 10) hx hb hts in_0 hown hK hH rfl (cell_0 t_27) rfl 8 (by decide) (hts _ wd_87) (fun _ h9 => h9) (v := .int (st_I σ_25 8 h0)) rfl d_X_collect_68 ?_
          refine ms_new (σ := σ_25) (ci := 2) (fs := df_2) (C := R_Collected) (T := T_Collected) (N := 3) hx hb hts in_2 ty_Collected ty_Collected_ok hown (hts _ wd_25) (hts _ wd_359) (hts _ wd_8) hK hH hS hA rfl dfl_2 (by decide) (by decide) d_X_collect_71 rfl (new_2 σ_25) (fun q_30 H f_33 hH hK hS => ?_)
          obtain ⟨σ_31, z_32⟩ : ∃ y : ST, y = st_new σ_25 q_30 2 := ⟨_, rfl⟩
          rw [← z_32] at hH hK
          have h := h q_30 f_33 σ_31 z_32
          have t_34 : st_tg σ_31 h0 = some 0 := by rw [z_32, g_tg_new, if_neg (fun y => by rw [y, f_33] at t_27; cases t_27)]; exact t_27
          have t_35 : st_tg σ_31 a_13 = some 4 := by rw [z_32, g_tg_new, if_neg (fun y => by rw [y, f_33] at t_28; cases t_28)]; exact t_28
          have t_36 : st_tg σ_31 a_20 = some 302 := by rw [z_32, g_tg_new, if_neg (fun y => by rw [y, f_33] at t_29; cases t_29)]; exact t_29
          have t_37 : st_tg σ_31 q_30 = some 2 := by rw [z_32, g_tg_new, if_pos rfl]
          refine lv_dup hx hb d_X_collect_74 (cat_rf _) ?_
          refine mr_aload hx hb d_X_collect_75 (lv_at hl 0 rfl) ?_
          refine lv_lload_n hx hb d_X_collect_77 rfl (lv_at hl 3 rfl) ?_
          refine lv_iload hx hb d_X_collect_78 (lv_at hl 4 rfl) ?_
          refine ms_callv (va_runI (As := [va_rf r_2, .long p2, .int p4]) (rest := [va_rf (some q_30), .int (st_I σ_25 8 h0), va_rf (st_R σ_25 7 h0)]) ⟨hx, hb, hml, hown, hts⟩ (mc_Collected_init l D A σ_31 q_30 r_2 p2 p4 _) ⟨(callB_of 3 hts gw_Collected_init rfl rfl rfl (hts _ wd_8) (hts _ wd_360) (by decide +kernel) ⟨by decide, by decide⟩), rfl, (hts _ wd_361)⟩ ⟨mw_blind, fun U hU hW => ⟨rfl, mw_pass hH hK hA hS hU hW, mn_warm hW hn, h⟩⟩ rfl rfl hl.1 rfl (lv_room (by simp [cat_rf, cat_i, cat_l, cat_r])) d_X_collect_80 ⟨by decide, by decide⟩) hS (fun σ_39 H locs h hH hK hS => ?_)
          refine W.cs (cells' := 1) (slots' := 3) rfl rfl ?_
          obtain ⟨a_40, e_41, t_42, h⟩ := h
          obtain ⟨b_43, h⟩ := h
          obtain ⟨o_44, h⟩ := h
          obtain ⟨σ_45, z_46⟩ : ∃ y : ST, y = st_uR σ_39 a_40 (Int32.toNatClampNeg ((st_I σ_25 8 h0))) (some q_30) := ⟨_, rfl⟩
          have h := h σ_45 z_46
          refine ms_aast (σ := σ_39) (r := (st_R σ_25 7 h0)) (a := a_40) (x := some q_30) (w := (R_Collected, T_Collected, 3)) (ci := 2) hx hb rfl hK hH hS e_41 t_42 rfl (cell_312 t_42) (fun y hy => ⟨_, cell_2 (o_44 y hy)⟩) b_43 d_X_collect_83 (σ1 := σ_45) (by rw [z_46]; exact uput_312 σ_39 a_40 _ (some q_30) t_42) (by rw [z_46]; rfl) (by rw [z_46]; rfl) (fun H locs hH hK hS => ?_)
          have t_47 : st_tg σ_45 a_40 = some 312 := by rw [z_46]; exact t_42
          refine mr_aload_n hx hb d_X_collect_84 rfl (lv_at hl 1 rfl) ?_
          refine lv_dup hx hb d_X_collect_85 (cat_rf _) ?_
          obtain ⟨t_48, h⟩ := h
          refine ms_get (σ := σ_45) (r := some h0) (a := h0) (fs := fl_0 σ_45 h0) (ci := 0) (C := R_X) (T := T_X) (N := 10) hx hb hts in_0 hown hK hH rfl (cell_0 t_48) rfl 8 (by decide) (hts _ wd_87) (fun _ h9 => h9) (v := .int (st_I σ_45 8 h0)) rfl d_X_collect_86 ?_
          refine lv_iconst (v := 1) hx hb d_X_collect_89 (by decide) ?_
          refine lv_iadd hx hb d_X_collect_90 ?_
          obtain ⟨σ_49, z_50⟩ : ∃ y : ST, y = st_sI σ_45 8 h0 ((((st_I σ_45 8 h0)) + 1)) := ⟨_, rfl⟩
          have h := h σ_49 z_50
          refine ms_put (σ := σ_45) (r := some h0) (a := h0) (fs := fl_0 σ_45 h0) (ci := 0) (C := R_X) (T := T_X) (N := 10) (v := .int (((st_I σ_45 8 h0)) + 1)) (ty := .int) hx hb hts in_0 ty_X ty_X_ok nm_X hown hK hH hS rfl (cell_0 t_48) rfl 8 (by decide) (hts _ wd_87) (fun _ h9 => h9) rfl (by decide +kernel) rfl rfl (Nat.le_of_ble_eq_true rfl) d_X_collect_91 (σ1 := σ_49) (by rw [z_50]; exact put_0_8 σ_45 h0 ((((st_I σ_45 8 h0)) + 1)) t_48) (by rw [z_50]; rfl) (by rw [z_50]; rfl) (fun H locs hH hK hS => ?_)
          have t_51 : st_tg σ_49 a_40 = some 312 := by rw [z_50]; exact t_47
          have t_52 : st_tg σ_49 h0 = some 0 := by rw [z_50]; exact t_48
          refine mr_aload_n hx hb d_X_collect_94 rfl (lv_at hl 1 rfl) ?_
          refine ms_get (σ := σ_49) (r := some h0) (a := h0) (fs := fl_0 σ_49 h0) (ci := 0) (C := R_X) (T := T_X) (N := 10) hx hb hts in_0 hown hK hH rfl (cell_0 t_52) rfl 8 (by decide) (hts _ wd_87) (fun _ h9 => h9) (v := .int (st_I σ_49 8 h0)) rfl d_X_collect_95 ?_
          exact W.iret (v := (st_I σ_49 8 h0)) hx hb hr (fun t ht hW => ⟨⟨(st_I σ_49 8 h0), σ_49, rfl, h, mw_pass hH hK hA hS ht hW⟩, hS.F ht⟩) hS.2.2 d_X_collect_98
        · have h := h.2 c_12
          refine lv_bipush (v := (-104)) hx hb d_X_collect_39 (by decide) ?_
          refine W.widen (k := 1) (n := 3) (by decide) (by decide) ?_
          exact W.iret (v := (-104)) hx hb hr (fun t ht hW => ⟨⟨(-104), σ_9, rfl, h, mw_pass hH hK hA hS ht hW⟩, hS.F ht⟩) hS.2.2 d_X_collect_41
      · have h := h.2 c_10
        refine lv_bipush (v := (-102)) hx hb d_X_collect_27 (by decide) ?_
        refine W.widen (k := 1) (n := 3) (by decide) (by decide) ?_
        exact W.iret (v := (-102)) hx hb hr (fun t ht hW => ⟨⟨(-102), σ_9, rfl, h, mw_pass hH hK hA hS ht hW⟩, hS.F ht⟩) hS.2.2 d_X_collect_29
def wp_X_passOn (σ : ST) (h0 : Nat) (p1 : Option Nat) (p2 : Int32) (K : Int32 → ST → Prop) : Prop :=
  ∃ a_1 : Nat, p1 = some a_1 ∧ st_tg σ a_1 = some 2 ∧ ((((p2 < ((st_I σ 82 a_1))) → K 0 σ) ∧
  ((¬ p2 < ((st_I σ 82 a_1))) → ∃ a_5 : Nat, (st_R σ 80 a_1) = some a_5 ∧ st_tg σ a_5 = some 4 ∧ (wp_Office_giveOut σ a_5 ((st_J σ 81 a_1)) (fun (r_8 : Int32) σ_9 =>
  (((¬ r_8 = 0) → st_tg σ_9 h0 = some 0 ∧ (∃ a_12 : Nat, (st_R σ_9 9 h0) = some a_12 ∧ st_tg σ_9 a_12 = some 302 ∧ (vp_in 3 (st_ln σ_9 a_12) ∧ (st_tg σ_9 a_1 = some 2 ∧ (vp_in 3 (st_ln σ_9 a_12) ∧ (∀ σ_18 : ST, σ_18 = st_uJ σ_9 a_12 (Int32.toNatClampNeg 3) ((((st_eJ σ_9 a_12 (Int32.toNatClampNeg 3))) + ((st_J σ_9 81 a_1)))) → (K 1 σ_18))))))) ∧
  ((r_8 = 0) → K 0 σ_9)))))))
abbrev ROOM_X_passOn : Room := { frames := 1, cells := 0, slots := 0, locals := 22 }
set_option maxHeartbeats 4000000 in
set_option maxRecDepth 100000 in
theorem mc_X_passOn (l : Launch) (D : va_G) (A : Nat → Prop) (σ : ST) (h0 : Nat) (p1 : Option Nat) (p2 : Int32) (K : Int32 → ST → Prop) : Met l y_X_passOn ws_X_passOn ROOM_X_passOn (va_Pc [.ref h0, va_rf p1, .int p2] (fun U => mw D A σ U ∧ mn U ∧ wp_X_passOn σ h0 p1 p2 K)) (va_Qi K (mw D A) A) 0 0 A := by
  refine Met.ofW (cc := c_X_passOn) (maxL := 3) (ret := (some .boolean)) (by decide) rfl ?_
  intro p e s m args below meth c s₁ B hml hv
  obtain ⟨rfl, ⟨hH, hK, hA⟩, hn, h⟩ := hv
  have hx := B.exec
  have hb := B.bytes
  have hr := B.returns
  have hts := atoms_spec (ws := ws_X_passOn) B.pre
  have hown : s.vm.findClass R_X = some m.cls := findClass_of_methodNamed B.named
  have hlocks := B.notSynchronized
  have hts : ∀ w ∈ lw_g, w.before ([.ref h0, va_rf p1, .int p2] : List Value).toArray s = true := fun w hw => hts w (List.mem_cons_of_mem _ hw)
  have hS : va_S A s.heap s.heap [] := va_S.rf
  have hl := lv_entry ([.ref h0, va_rf p1, .int p2]) (n := 3) (by simp [lg_sl, cat_rf, cat_i, cat_l, cat_r])
  rw [lg_entry_eq]
  generalize (lg_sl ([.ref h0, va_rf p1, .int p2]) ++ List.replicate (3 - (lg_sl ([.ref h0, va_rf p1, .int p2])).length) Slot.unset).toArray = ls at hl ⊢
  have hle : lv_args 0 [.ref h0, va_rf p1, .int p2] = [(0, .ref h0), (1, va_rf p1), (2, .int p2)] := by simp [lv_args, cat_rf, cat_i, cat_l, cat_r]
  rw [hle] at hl
  have hl : lv_has ls 3 [(0, va_rf (some h0)), (1, va_rf p1), (2, .int p2)] := hl
  unfold wp_X_passOn at h
  refine mr_aload_n hx hb d_X_passOn_0 rfl (lv_at hl 1 rfl) ?_
  obtain ⟨a_1, e_2, t_3, h⟩ := h
  refine ms_getN (σ := σ) (r := p1) (a := a_1) (fs := fl_2 σ a_1) (ci := 2) (C := R_Collected) (T := T_Collected) (N := 3) hx hb hts in_2 hown hK hH e_2 (cell_2 t_3) rfl 2 (by decide) (va_Nw.use rfl (hn _ wd_369 rfl)) (fun _ h9 => h9) (v := .int (st_I σ 82 a_1)) rfl d_X_passOn_1 ?_
  refine lv_iload_n hx hb d_X_passOn_4 rfl (lv_at hl 2 rfl) ?_
  refine lv_icmp_gt (tgt := 22) hx hb d_X_passOn_5 (by decide) (fun c_4 => ?_) (fun c_4 => ?_)
  · have h := h.1 c_4
    refine lv_iconst (v := 0) hx hb d_X_passOn_22 (by decide) ?_
    exact W.zret (v := 0) hx hb hr rfl (fun t ht hW => ⟨⟨0, σ, rfl, h, mw_pass hH hK hA hS ht hW⟩, hS.F ht⟩) hS.2.2 d_X_passOn_23
  · have h := h.2 c_4
    refine mr_aload_n hx hb d_X_passOn_8 rfl (lv_at hl 1 rfl) ?_
    refine ms_getN (σ := σ) (r := p1) (a := a_1) (fs := fl_2 σ a_1) (ci := 2) (C := R_Collected) (T := T_Collected) (N := 3) hx hb hts in_2 hown hK hH e_2 (cell_2 t_3) rfl 0 (by decide) (va_Nw.use rfl (hn _ wd_365 rfl)) (fun _ h9 => h9) (v := va_rf (st_R σ 80 a_1)) rfl d_X_passOn_9 ?_
    refine mr_aload_n hx hb d_X_passOn_12 rfl (lv_at hl 1 rfl) ?_
    refine ms_getN (σ := σ) (r := p1) (a := a_1) (fs := fl_2 σ a_1) (ci := 2) (C := R_Collected) (T := T_Collected) (N := 3) hx hb hts in_2 hown hK hH e_2 (cell_2 t_3) rfl 1 (by decide) (va_Nw.use rfl (hn _ wd_367 rfl)) (fun _ h9 => h9) (v := .long (st_J σ 81 a_1)) rfl d_X_passOn_13 ?_
    obtain ⟨a_5, e_6, t_7, h⟩ := h
    refine ms_calli (va_runV (As := [.long (st_J σ 81 a_1)]) (rest := []) ⟨hx, hb, hml, hown, hts⟩ (mc_Office_giveOut l D A σ a_5 ((st_J σ 81 a_1)) _) ⟨(callB_of 1 hts gw_Office_giveOut rfl rfl rfl (hts _ wd_2) (hts _ wd_219) (by decide +kernel) ⟨by decide, by decide⟩), (hts _ wd_220), (hts _ wd_221)⟩ ⟨mw_blind, mg_recv hK.1 hH (ci := 4) rfl (cell_4 t_7), fun U hU hW => ⟨rfl, mw_pass hH hK hA hS hU hW, mn_warm hW hn, h⟩⟩ rfl rfl hl.1 (by rw [e_6]; rfl) (lv_room (Nat.le_of_ble_eq_true rfl)) d_X_passOn_16 ⟨by decide, by decide⟩) hS (fun r_8 σ_9 H locs h hH hK hS => ?_)
    refine lv_if_ne (tgt := 24) hx hb d_X_passOn_19 (by decide) (fun c_10 => ?_) (fun c_10 => ?_)
    · have h := h.1 c_10
      refine mr_aload_n hx hb d_X_passOn_24 rfl (lv_at hl 0 rfl) ?_
      obtain ⟨t_11, h⟩ := h
      refine ms_get (σ := σ_9) (r := some h0) (a := h0) (fs := fl_0 σ_9 h0) (ci := 0) (C := R_X) (T := T_X) (N := 10) hx hb hts in_0 hown hK hH rfl (cell_0 t_11) rfl 9 (by decide) (hts _ wd_88) (fun _ h9 => h9) (v := va_rf (st_R σ_9 9 h0)) rfl d_X_passOn_25 ?_
      refine lv_iconst (v := 3) hx hb d_X_passOn_28 (by decide) ?_
      refine lv_dup2_11 hx hb d_X_passOn_29 rfl (cat_rf _) ?_
      obtain ⟨a_12, e_13, t_14, h⟩ := h
      obtain ⟨b_15, h⟩ := h
      refine ms_lald (σ := σ_9) (r := (st_R σ_9 9 h0)) (a := a_12) hx hb hK hH e_13 t_14 rfl (cell_302 t_14) b_15 d_X_passOn_30 ?_
      refine mr_aload_n hx hb d_X_passOn_31 rfl (lv_at hl 1 rfl) ?_
      obtain ⟨t_16, h⟩ := h
      refine ms_getN (σ := σ_9) (r := p1) (a := a_1) (fs := fl_2 σ_9 a_1) (ci := 2) (C := R_Collected) (T := T_Collected) (N := 3) hx hb hts in_2 hown hK hH e_2 (cell_2 t_16) rfl 1 (by decide) (va_Nw.use rfl (hn _ wd_367 rfl)) (fun _ h9 => h9) (v := .long (st_J σ_9 81 a_1)) rfl d_X_passOn_32 ?_
      refine lv_ladd hx hb d_X_passOn_35 ?_
      obtain ⟨b_17, h⟩ := h
      obtain ⟨σ_18, z_19⟩ : ∃ y : ST, y = st_uJ σ_9 a_12 (Int32.toNatClampNeg 3) ((((st_eJ σ_9 a_12 (Int32.toNatClampNeg 3))) + ((st_J σ_9 81 a_1)))) := ⟨_, rfl⟩
      have h := h σ_18 z_19
      refine ms_last (σ := σ_9) (r := (st_R σ_9 9 h0)) (a := a_12) (x := (((st_eJ σ_9 a_12 (Int32.toNatClampNeg 3))) + ((st_J σ_9 81 a_1)))) hx hb hK hH hS e_13 t_14 rfl (cell_302 t_14)  b_17 d_X_passOn_36 (σ1 := σ_18) (by rw [z_19]; exact uput_302 σ_9 a_12 _ ((((st_eJ σ_9 a_12 (Int32.toNatClampNeg 3))) + ((st_J σ_9 81 a_1)))) t_14) (by rw [z_19]; rfl) (by rw [z_19]; rfl) (fun H locs hH hK hS => ?_)
      have t_20 : st_tg σ_18 h0 = some 0 := by rw [z_19]; exact t_11
      have t_21 : st_tg σ_18 a_12 = some 302 := by rw [z_19]; exact t_14
      have t_22 : st_tg σ_18 a_1 = some 2 := by rw [z_19]; exact t_16
      refine lv_iconst (v := 1) hx hb d_X_passOn_37 (by decide) ?_
      exact W.zret (v := 1) hx hb hr rfl (fun t ht hW => ⟨⟨1, σ_18, rfl, h, mw_pass hH hK hA hS ht hW⟩, hS.F ht⟩) hS.2.2 d_X_passOn_38
    · have h := h.2 c_10
      refine lv_iconst (v := 0) hx hb d_X_passOn_22 (by decide) ?_
      exact W.zret (v := 0) hx hb hr rfl (fun t ht hW => ⟨⟨0, σ_9, rfl, h, mw_pass hH hK hA hS ht hW⟩, hS.F ht⟩) hS.2.2 d_X_passOn_23
