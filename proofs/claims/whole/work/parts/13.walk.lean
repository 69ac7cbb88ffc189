def wp_Math_floorMod (σ : ST) (p0 : Int32) (p1 : Int32) (K : Int32 → ST → Prop) : Prop :=
  ¬ p1 = 0 ∧ (∀ x_2 : Int32, x_2 = (p0 - p0 / p1 * p1) → ((((0 ≤ ((p0 ^^^ p1))) → K x_2 σ) ∧
  ((¬ 0 ≤ ((p0 ^^^ p1))) → (((x_2 = 0) → K x_2 σ) ∧
  ((¬ x_2 = 0) → K ((x_2 + p1)) σ))))))
abbrev ROOM_Math_floorMod : Room := { frames := 0, cells := 0, slots := 0, locals := 0 }
set_option maxHeartbeats 4000000 in
set_option maxRecDepth 100000 in
theorem mc_Math_floorMod (l : Launch) (D : va_G) (A : Nat → Prop) (σ : ST) (p0 : Int32) (p1 : Int32) (K : Int32 → ST → Prop) : Met l y_Math_floorMod ws_Math_floorMod ROOM_Math_floorMod (va_Pc [.int p0, .int p1] (fun U => mw D A σ U ∧ mn U ∧ wp_Math_floorMod σ p0 p1 K)) (va_Qi K (mw D A) A) 0 0 A := by
  refine va_MetF (cc := c_Math_floorMod) (maxL := 3) (ret := (some .int)) (by decide +kernel) rfl ?_
  intro p e s m args below meth c s₁ B hml hv
  obtain ⟨rfl, ⟨hH, hK, hA⟩, hn, h⟩ := hv
  have hx := B.exec
  have hb := B.bytes
  have hr := B.returns
  have hts := atoms_spec (ws := ws_Math_floorMod) B.pre
  have hown : s.vm.findClass R_Math = some m.cls := findClass_of_methodNamed B.named
  have hlocks := B.notSynchronized
  have hts : ∀ w ∈ lw_g, w.before ([.int p0, .int p1] : List Value).toArray s = true := fun w hw => hts w (List.mem_cons_of_mem _ hw)
  have hS : va_S A s.heap s.heap [] := va_S.rf
  have hl := lv_entry ([.int p0, .int p1]) (n := 3) (Nat.le_of_ble_eq_true rfl)
  rw [lg_entry_eq]
  generalize (lg_sl ([.int p0, .int p1]) ++ List.replicate (3 - (lg_sl ([.int p0, .int p1])).length) Slot.unset).toArray = ls at hl ⊢
  have hl : lv_has ls 3 [(0, .int p0), (1, .int p1)] := hl
  unfold wp_Math_floorMod at h
  refine lv_iload_n hx hb d_Math_floorMod_0 rfl (lv_at hl 0 rfl) ?_
  refine lv_iload_n hx hb d_Math_floorMod_1 rfl (lv_at hl 1 rfl) ?_
  obtain ⟨n_1, h⟩ := h
  refine lv_irem hx hb d_Math_floorMod_2 n_1 ?_
  refine lv_topi (fun x_2 q_3 => ?_)
  have h := h x_2 q_3
  refine lv_istore_n (lv' := [(2, .int x_2), (0, .int p0), (1, .int p1)]) hx hb d_Math_floorMod_3 rfl hl (by decide) rfl (fun ls hl => ?_)
  refine lv_iload_n hx hb d_Math_floorMod_4 rfl (lv_at hl 1 rfl) ?_
  refine lv_iload_n hx hb d_Math_floorMod_5 rfl (lv_at hl 2 rfl) ?_
  refine lv_ixor hx hb d_Math_floorMod_6 ?_
  refine lv_if_ge (tgt := 18) hx hb d_Math_floorMod_7 (by decide) (fun c_4 => ?_) (fun c_4 => ?_)
  · have h := h.1 c_4
    refine lv_iload_n hx hb d_Math_floorMod_18 rfl (lv_at hl 0 rfl) ?_
    exact W.iret (v := x_2) hx hb hr (fun t ht hW => ⟨⟨x_2, σ, rfl, h, mw_pass hH hK hA hS ht hW⟩, hS.F ht⟩) hS.2.2 d_Math_floorMod_19
  · have h := h.2 c_4
    refine lv_iload_n hx hb d_Math_floorMod_10 rfl (lv_at hl 0 rfl) ?_
    refine lv_if_eq (tgt := 18) hx hb d_Math_floorMod_11 (by decide) (fun c_5 => ?_) (fun c_5 => ?_)
    · have h := h.1 c_5
      refine lv_iload_n hx hb d_Math_floorMod_18 rfl (lv_at hl 0 rfl) ?_
      exact W.iret (v := x_2) hx hb hr (fun t ht hW => ⟨⟨x_2, σ, rfl, h, mw_pass hH hK hA hS ht hW⟩, hS.F ht⟩) hS.2.2 d_Math_floorMod_19
    · have h := h.2 c_5
      refine lv_iload_n hx hb d_Math_floorMod_14 rfl (lv_at hl 0 rfl) ?_
      refine lv_iload_n hx hb d_Math_floorMod_15 rfl (lv_at hl 2 rfl) ?_
      refine lv_iadd hx hb d_Math_floorMod_16 ?_
      exact W.iret (v := (x_2 + p1)) hx hb hr (fun t ht hW => ⟨⟨(x_2 + p1), σ, rfl, h, mw_pass hH hK hA hS ht hW⟩, hS.F ht⟩) hS.2.2 d_Math_floorMod_17
def wp_X_placeOfTry (σ : ST) (p0 : Int32) (K : Int32 → ST → Prop) : Prop :=
  wp_Math_floorMod σ p0 100 (fun (r_1 : Int32) σ_2 =>
  K r_1 σ_2)
abbrev ROOM_X_placeOfTry : Room := { frames := 1, cells := 0, slots := 0, locals := 22 }
set_option maxHeartbeats 4000000 in
set_option maxRecDepth 100000 in
theorem mc_X_placeOfTry (l : Launch) (D : va_G) (A : Nat → Prop) (σ : ST) (p0 : Int32) (K : Int32 → ST → Prop) : Met l y_X_placeOfTry ws_X_placeOfTry ROOM_X_placeOfTry (va_Pc [.int p0] (fun U => mw D A σ U ∧ mn U ∧ wp_X_placeOfTry σ p0 K)) (va_Qi K (mw D A) A) 0 0 A := by
  refine Met.ofW (cc := c_X_placeOfTry) (maxL := 1) (ret := (some .int)) (by decide) rfl ?_
  intro p e s m args below meth c s₁ B hml hv
  obtain ⟨rfl, ⟨hH, hK, hA⟩, hn, h⟩ := hv
  have hx := B.exec
  have hb := B.bytes
  have hr := B.returns
  have hts := atoms_spec (ws := ws_X_placeOfTry) B.pre
  have hown : s.vm.findClass R_X = some m.cls := findClass_of_methodNamed B.named
  have hlocks := B.notSynchronized
  have hts : ∀ w ∈ lw_g, w.before ([.int p0] : List Value).toArray s = true := fun w hw => hts w (List.mem_cons_of_mem _ hw)
  have hS : va_S A s.heap s.heap [] := va_S.rf
  have hl := lv_entry ([.int p0]) (n := 1) (Nat.le_of_ble_eq_true rfl)
  rw [lg_entry_eq]
  generalize (lg_sl ([.int p0]) ++ List.replicate (1 - (lg_sl ([.int p0])).length) Slot.unset).toArray = ls at hl ⊢
  have hl : lv_has ls 1 [(0, .int p0)] := hl
  unfold wp_X_placeOfTry at h
  refine lv_iload_n hx hb d_X_placeOfTry_0 rfl (lv_at hl 0 rfl) ?_
  refine lv_bipush (v := 100) hx hb d_X_placeOfTry_1 (by decide) ?_
  refine ms_calli (va_runS (As := [.int p0, .int 100]) (rest := []) ⟨hx, hb, hml, hown, hts⟩ (mc_Math_floorMod l D A σ p0 100 _) ⟨(callB_of 2 hts gw_Math_floorMod rfl rfl rfl (hts _ wd_6) (hts _ wd_263) (by decide +kernel) ⟨by decide, by decide⟩), (hts _ wd_264)⟩ ⟨mw_blind, fun U hU hW => ⟨rfl, mw_pass hH hK hA hS hU hW, mn_warm hW hn, h⟩⟩ rfl rfl hl.1 rfl (lv_room (Nat.le_of_ble_eq_true rfl)) d_X_placeOfTry_3 ⟨by decide, by decide⟩) hS (fun r_1 σ_2 H locs h hH hK hS => ?_)
  exact W.iret (v := r_1) hx hb hr (fun t ht hW => ⟨⟨r_1, σ_2, rfl, h, mw_pass hH hK hA hS ht hW⟩, hS.F ht⟩) hS.2.2 d_X_placeOfTry_6
def wp_Try_init (σ : ST) (h0 : Nat) (p1 : Int32) (p2 : Int64) (p4 : Int32) (p5 : Int64) (K : ST → Prop) : Prop :=
  st_tg σ h0 = some 6 ∧ (∀ σ_2 : ST, σ_2 = st_sI σ 244 h0 ((-1)) → (∀ σ_5 : ST, σ_5 = st_sI σ_2 240 h0 p1 → (∀ σ_8 : ST, σ_8 = st_sJ σ_5 241 h0 p2 → (∀ σ_11 : ST, σ_11 = st_sI σ_8 242 h0 p4 → (∀ σ_14 : ST, σ_14 = st_sJ σ_11 243 h0 p5 → (K σ_14))))))
abbrev ROOM_Try_init : Room := { frames := 1, cells := 0, slots := 0, locals := 12 }
set_option maxHeartbeats 4000000 in
set_option maxRecDepth 100000 in
theorem mc_Try_init (l : Launch) (D : va_G) (A : Nat → Prop) (σ : ST) (h0 : Nat) (p1 : Int32) (p2 : Int64) (p4 : Int32) (p5 : Int64) (K : ST → Prop) : Met l y_Try_init ws_Try_init ROOM_Try_init (va_Pc [.ref h0, .int p1, .long p2, .int p4, .long p5] (fun U => mw D A σ U ∧ mn U ∧ wp_Try_init σ h0 p1 p2 p4 p5 K)) (va_Qv K (mw D A) A) 0 0 A := by
  refine Met.ofW (cc := c_Try_init) (maxL := 7) (ret := none) (by decide) rfl ?_
  intro p e s m args below meth c s₁ B hml hv
  obtain ⟨rfl, ⟨hH, hK, hA⟩, hn, h⟩ := hv
  have hx := B.exec
  have hb := B.bytes
  have hr := B.returns
  have hts := atoms_spec (ws := ws_Try_init) B.pre
  have hown : s.vm.findClass R_Try = some m.cls := findClass_of_methodNamed B.named
  have hlocks := B.notSynchronized
  have hin : meth.name = "<init>" := (name_of_methodNamed B.named B.method).1
  have hts : ∀ w ∈ lw_g, w.before ([.ref h0, .int p1, .long p2, .int p4, .long p5] : List Value).toArray s = true := fun w hw => hts w (List.mem_cons_of_mem _ hw)
  have hS : va_S A s.heap s.heap [] := va_S.rf
  have hl := lv_entry ([.ref h0, .int p1, .long p2, .int p4, .long p5]) (n := 7) (Nat.le_of_ble_eq_true rfl)
  rw [lg_entry_eq]
  generalize (lg_sl ([.ref h0, .int p1, .long p2, .int p4, .long p5]) ++ List.replicate (7 - (lg_sl ([.ref h0, .int p1, .long p2, .int p4, .long p5])).length) Slot.unset).toArray = ls at hl ⊢
  have hl : lv_has ls 7 [(0, va_rf (some h0)), (1, .int p1), (2, .long p2), (4, .int p4), (5, .long p5)] := hl
  unfold wp_Try_init at h
  refine mr_aload_n hx hb d_Try_init_0 rfl (lv_at hl 0 rfl) ?_
  refine W.objInit hx hb hown (hts _ wd_270) (hts _ wd_15) (hts _ wd_16) rfl (by rw [hml]; exact hl.1) rfl d_Try_init_1 (Nat.le_of_ble_eq_true rfl) (Nat.le_of_ble_eq_true rfl) ?_
  refine W.eq (g2 := F0 m 4 ls []) rfl ?_
  refine mr_aload_n hx hb d_Try_init_4 rfl (lv_at hl 0 rfl) ?_
  refine lv_iconst (v := (-1)) hx hb d_Try_init_5 (by decide) ?_
  obtain ⟨t_1, h⟩ := h
  obtain ⟨σ_2, z_3⟩ : ∃ y : ST, y = st_sI σ 244 h0 ((-1)) := ⟨_, rfl⟩
  have h := h σ_2 z_3
  refine ms_put (σ := σ) (r := some h0) (a := h0) (fs := fl_6 σ h0) (ci := 6) (C := R_Try) (T := T_Try) (N := 5) (v := .int (-1)) (ty := .int) hx hb hts in_6 ty_Try ty_Try_ok nm_Try hown hK hH hS rfl (cell_6 t_1) rfl 4 (by decide) (hts _ wd_279) (fun _ h9 => h9) rfl (by decide +kernel) rfl rfl (Nat.le_of_ble_eq_true rfl) d_Try_init_6 (σ1 := σ_2) (by rw [z_3]; exact put_6_4 σ h0 ((-1)) t_1) (by rw [z_3]; rfl) (by rw [z_3]; rfl) (fun H locs hH hK hS => ?_)
  have t_4 : st_tg σ_2 h0 = some 6 := by rw [z_3]; exact t_1
  refine mr_aload_n hx hb d_Try_init_9 rfl (lv_at hl 0 rfl) ?_
  refine lv_iload_n hx hb d_Try_init_10 rfl (lv_at hl 1 rfl) ?_
  obtain ⟨σ_5, z_6⟩ : ∃ y : ST, y = st_sI σ_2 240 h0 p1 := ⟨_, rfl⟩
  have h := h σ_5 z_6
  refine ms_putF (σ := σ_2) (r := some h0) (a := h0) (fs := fl_6 σ_2 h0) (ci := 6) (C := R_Try) (T := T_Try) (N := 5) (v := .int p1) (ty := .int) hx hb hts in_6 ty_Try ty_Try_ok nm_Try hown hK hH hS rfl (cell_6 t_4) rfl 0 (by decide) (hts _ wd_271) (fun _ h9 => h9) rfl hin rfl (by decide +kernel) rfl rfl (Nat.le_of_ble_eq_true rfl) d_Try_init_11 (σ1 := σ_5) (by rw [z_6]; exact put_6_0 σ_2 h0 p1 t_4) (by rw [z_6]; rfl) (by rw [z_6]; rfl) (fun H locs hH hK hS => ?_)
  have t_7 : st_tg σ_5 h0 = some 6 := by rw [z_6]; exact t_4
  refine mr_aload_n hx hb d_Try_init_14 rfl (lv_at hl 0 rfl) ?_
  refine lv_lload_n hx hb d_Try_init_15 rfl (lv_at hl 2 rfl) ?_
  obtain ⟨σ_8, z_9⟩ : ∃ y : ST, y = st_sJ σ_5 241 h0 p2 := ⟨_, rfl⟩
  have h := h σ_8 z_9
  refine ms_putF (σ := σ_5) (r := some h0) (a := h0) (fs := fl_6 σ_5 h0) (ci := 6) (C := R_Try) (T := T_Try) (N := 5) (v := .long p2) (ty := .long) hx hb hts in_6 ty_Try ty_Try_ok nm_Try hown hK hH hS rfl (cell_6 t_7) rfl 1 (by decide) (hts _ wd_273) (fun _ h9 => h9) rfl hin rfl (by decide +kernel) rfl rfl (Nat.le_of_ble_eq_true rfl) d_Try_init_16 (σ1 := σ_8) (by rw [z_9]; exact put_6_1 σ_5 h0 p2 t_7) (by rw [z_9]; rfl) (by rw [z_9]; rfl) (fun H locs hH hK hS => ?_)
  have t_10 : st_tg σ_8 h0 = some 6 := by rw [z_9]; exact t_7
  refine mr_aload_n hx hb d_Try_init_19 rfl (lv_at hl 0 rfl) ?_
  refine lv_iload hx hb d_Try_init_20 (lv_at hl 3 rfl) ?_
  obtain ⟨σ_11, z_12⟩ : ∃ y : ST, y = st_sI σ_8 242 h0 p4 := ⟨_, rfl⟩
  have h := h σ_11 z_12
  refine ms_putF (σ := σ_8) (r := some h0) (a := h0) (fs := fl_6 σ_8 h0) (ci := 6) (C := R_Try) (T := T_Try) (N := 5) (v := .int p4) (ty := .int) hx hb hts in_6 ty_Try ty_Try_ok nm_Try hown hK hH hS rfl (cell_6 t_10) rfl 2 (by decide) (hts _ wd_275) (fun _ h9 => h9) rfl hin rfl (by decide +kernel) rfl rfl (Nat.le_of_ble_eq_true rfl) d_Try_init_22 (σ1 := σ_11) (by rw [z_12]; exact put_6_2 σ_8 h0 p4 t_10) (by rw [z_12]; rfl) (by rw [z_12]; rfl) (fun H locs hH hK hS => ?_)
  have t_13 : st_tg σ_11 h0 = some 6 := by rw [z_12]; exact t_10
  refine mr_aload_n hx hb d_Try_init_25 rfl (lv_at hl 0 rfl) ?_
  refine lv_lload hx hb d_Try_init_26 (lv_at hl 4 rfl) ?_
  obtain ⟨σ_14, z_15⟩ : ∃ y : ST, y = st_sJ σ_11 243 h0 p5 := ⟨_, rfl⟩
  have h := h σ_14 z_15
  refine ms_putF (σ := σ_11) (r := some h0) (a := h0) (fs := fl_6 σ_11 h0) (ci := 6) (C := R_Try) (T := T_Try) (N := 5) (v := .long p5) (ty := .long) hx hb hts in_6 ty_Try ty_Try_ok nm_Try hown hK hH hS rfl (cell_6 t_13) rfl 3 (by decide) (hts _ wd_277) (fun _ h9 => h9) rfl hin rfl (by decide +kernel) rfl rfl (Nat.le_of_ble_eq_true rfl) d_Try_init_28 (σ1 := σ_14) (by rw [z_15]; exact put_6_3 σ_11 h0 p5 t_13) (by rw [z_15]; rfl) (by rw [z_15]; rfl) (fun H locs hH hK hS => ?_)
  have t_16 : st_tg σ_14 h0 = some 6 := by rw [z_15]; exact t_13
  exact W.vret hx hb hr (fun t ht hW => ⟨⟨σ_14, rfl, h, mw_pass hH hK hA hS ht hW⟩, hS.F ht⟩) hS.2.2 d_Try_init_31
def wp_X_ask (σ : ST) (h0 : Nat) (p1 : Int32) (p2 : Int64) (p4 : Int32) (p5 : Int64) (K : Int32 → ST → Prop) : Prop :=
  st_tg σ h0 = some 0 ∧ (wp_X_officeAt σ h0 p1 (fun (r_2 : Option Nat) σ_3 =>
  (((r_2 = none) → K ((-102)) σ_3) ∧
  ((¬ r_2 = none) → (((0 ≤ ((lg_cmp p5 0))) → st_tg σ_3 h0 = some 0 ∧ ((((((((st_I σ_3 5 h0)) - ((st_I σ_3 6 h0)))) < (20 : Int32)) → wp_X_placeOfTry σ_3 ((st_I σ_3 5 h0)) (fun (r_8 : Int32) σ_9 =>
  ∀ q_10 : Nat, st_tg σ_9 q_10 = none → ∀ σ_11 : ST, σ_11 = st_new σ_9 q_10 6 → (wp_Try_init σ_11 q_10 p1 p2 p4 p5 (fun σ_16 =>
  ∃ a_17 : Nat, (st_R σ_3 4 h0) = some a_17 ∧ st_tg σ_16 a_17 = some 316 ∧ (vp_in r_8 (st_ln σ_16 a_17) ∧ ((∀ y : Nat, some q_10 = some y → st_tg σ_16 y = some 6) ∧ (∀ σ_22 : ST, σ_22 = st_uR σ_16 a_17 (Int32.toNatClampNeg r_8) (some q_10) → (st_tg σ_22 h0 = some 0 ∧ (∀ σ_26 : ST, σ_26 = st_sI σ_22 5 h0 ((((st_I σ_22 5 h0)) + 1)) → (K ((st_I σ_22 5 h0)) σ_26)))))))))) ∧
  ((¬ ((((st_I σ_3 5 h0)) - ((st_I σ_3 6 h0)))) < (20 : Int32)) → K ((-104)) σ_3)))) ∧
  ((¬ 0 ≤ ((lg_cmp p5 0))) → K ((-102)) σ_3))))))
abbrev ROOM_X_ask : Room := { frames := 2, cells := 1, slots := 5, locals := 42 }
set_option maxHeartbeats 4000000 in
set_option maxRecDepth 100000 in
theorem mc_X_ask (l : Launch) (D : va_G) (A : Nat → Prop) (σ : ST) (h0 : Nat) (p1 : Int32) (p2 : Int64) (p4 : Int32) (p5 : Int64) (K : Int32 → ST → Prop) : Met l y_X_ask ws_X_ask ROOM_X_ask (va_Pc [.ref h0, .int p1, .long p2, .int p4, .long p5] (fun U => mw D A σ U ∧ mn U ∧ wp_X_ask σ h0 p1 p2 p4 p5 K)) (va_Qi K (mw D A) A) 1 5 A := by
  refine Met.ofW (cc := c_X_ask) (maxL := 7) (ret := (some .int)) (by decide) rfl ?_
  intro p e s m args below meth c s₁ B hml hv
  obtain ⟨rfl, ⟨hH, hK, hA⟩, hn, h⟩ := hv
  have hx := B.exec
  have hb := B.bytes
  have hr := B.returns
  have hts := atoms_spec (ws := ws_X_ask) B.pre
  have hown : s.vm.findClass R_X = some m.cls := findClass_of_methodNamed B.named
  have hlocks := B.notSynchronized
  have hts : ∀ w ∈ lw_g, w.before ([.ref h0, .int p1, .long p2, .int p4, .long p5] : List Value).toArray s = true := fun w hw => hts w (List.mem_cons_of_mem _ hw)
  have hS : va_S A s.heap s.heap [] := va_S.rf
  have hl := lv_entry ([.ref h0, .int p1, .long p2, .int p4, .long p5]) (n := 7) (Nat.le_of_ble_eq_true rfl)
  rw [lg_entry_eq]
  generalize (lg_sl ([.ref h0, .int p1, .long p2, .int p4, .long p5]) ++ List.replicate (7 - (lg_sl ([.ref h0, .int p1, .long p2, .int p4, .long p5])).length) Slot.unset).toArray = ls at hl ⊢
  have hl : lv_has ls 7 [(0, va_rf (some h0)), (1, .int p1), (2, .long p2), (4, .int p4), (5, .long p5)] := hl
  unfold wp_X_ask at h
  refine mr_aload_n hx hb d_X_ask_0 rfl (lv_at hl 0 rfl) ?_
  refine lv_iload_n hx hb d_X_ask_1 rfl (lv_at hl 1 rfl) ?_
  obtain ⟨t_1, h⟩ := h
  refine ms_callq (va_runV (As := [.int p1]) (rest := []) ⟨hx, hb, hml, hown, hts⟩ (mc_X_officeAt l D A σ h0 p1 _) ⟨(callB_of 1 hts gw_X_officeAt rfl rfl rfl (hts _ wd_1) (hts _ wd_114) (by decide +kernel) ⟨by decide, by decide⟩), (hts _ wd_116), (hts _ wq_0)⟩ ⟨mw_blind, mg_recv hK.1 hH (ci := 0) rfl (cell_0 t_1), fun U hU hW => ⟨rfl, mw_pass hH hK hA hS hU hW, mn_warm hW hn, h⟩⟩ rfl rfl hl.1 rfl (lv_room (Nat.le_of_ble_eq_true rfl)) d_X_ask_2 ⟨by decide, by decide⟩) hS (fun r_2 σ_3 H locs h hH hK hS => ?_)
  refine mr_ifnull (x := r_2) (tgt := 15) hx hb d_X_ask_5 (by decide) (fun c_4 => ?_) (fun c_4 => ?_)
  · have h := h.1 c_4
    refine lv_bipush (v := (-102)) hx hb d_X_ask_15 (by decide) ?_
    refine W.widen (k := 1) (n := 5) (by decide) (by decide) ?_
    exact W.iret (v := (-102)) hx hb hr (fun t ht hW => ⟨⟨(-102), σ_3, rfl, h, mw_pass hH hK hA hS ht hW⟩, hS.F ht⟩) hS.2.2 d_X_ask_17
  · have h := h.2 c_4
    refine lv_lload hx hb d_X_ask_8 (lv_at hl 4 rfl) ?_
    refine lv_lconst (v := 0) hx hb d_X_ask_10 rfl ?_
    refine W.lcmp hx hb d_X_ask_11 ?_
    refine lv_if_ge (tgt := 18) hx hb d_X_ask_12 (by decide) (fun c_5 => ?_) (fun c_5 => ?_)
    · have h := h.1 c_5
      refine mr_aload_n hx hb d_X_ask_18 rfl (lv_at hl 0 rfl) ?_
      obtain ⟨t_6, h⟩ := h
      refine ms_get (σ := σ_3) (r := some h0) (a := h0) (fs := fl_0 σ_3 h0) (ci := 0) (C := R_X) (T := T_X) (N := 10) hx hb hts in_0 hown hK hH rfl (cell_0 t_6) rfl 5 (by decide) (hts _ wd_84) (fun _ h9 => h9) (v := .int (st_I σ_3 5 h0)) rfl d_X_ask_19 ?_
      refine mr_aload_n hx hb d_X_ask_22 rfl (lv_at hl 0 rfl) ?_
      refine ms_get (σ := σ_3) (r := some h0) (a := h0) (fs := fl_0 σ_3 h0) (ci := 0) (C := R_X) (T := T_X) (N := 10) hx hb hts in_0 hown hK hH rfl (cell_0 t_6) rfl 6 (by decide) (hts _ wd_85) (fun _ h9 => h9) (v := .int (st_I σ_3 6 h0)) rfl d_X_ask_23 ?_
      refine lv_isub hx hb d_X_ask_26 ?_
      refine lv_bipush (v := 20) hx hb d_X_ask_27 (by decide) ?_
      refine lv_icmp_lt (tgt := 35) hx hb d_X_ask_29 (by decide) (fun c_7 => ?_) (fun c_7 => ?_)
      · have h := h.1 c_7
        refine mr_aload_n hx hb d_X_ask_35 rfl (lv_at hl 0 rfl) ?_
        refine ms_get (σ := σ_3) (r := some h0) (a := h0) (fs := fl_0 σ_3 h0) (ci := 0) (C := R_X) (T := T_X) (N := 10) hx hb hts in_0 hown hK hH rfl (cell_0 t_6) rfl 4 (by decide) (hts _ wd_83) (fun _ h9 => h9) (v := va_rf (st_R σ_3 4 h0)) rfl d_X_ask_36 ?_
        refine mr_aload_n hx hb d_X_ask_39 rfl (lv_at hl 0 rfl) ?_
        refine ms_get (σ := σ_3) (r := some h0) (a := h0) (fs := fl_0 σ_3 h0) (ci := 0) (C := R_X) (T := T_X) (N := 10) hx hb hts in_0 hown hK hH rfl (cell_0 t_6) rfl 5 (by decide) (hts _ wd_84) (fun _ h9 => h9) (v := .int (st_I σ_3 5 h0)) rfl d_X_ask_40 ?_
        refine ms_calli (va_runS (As := [.int (st_I σ_3 5 h0)]) (rest := [va_rf (st_R σ_3 4 h0)]) ⟨hx, hb, hml, hown, hts⟩ (mc_X_placeOfTry l D A σ_3 ((st_I σ_3 5 h0)) _) ⟨(callB_of 1 hts gw_X_placeOfTry rfl rfl rfl (hts _ wd_1) (hts _ wd_260) (by decide +kernel) ⟨by decide, by decide⟩), (hts _ wd_261)⟩ ⟨mw_blind, fun U hU hW => ⟨rfl, mw_pass hH hK hA hS hU hW, mn_warm hW hn, h⟩⟩ rfl rfl hl.1 rfl (lv_room (by simp [cat_rf, cat_i, cat_l, cat_r])) d_X_ask_43 ⟨by decide, by decide⟩) hS (fun r_8 σ_9 H locs h hH hK hS => ?_)
        refine ms_new (σ := σ_9) (ci := 6) (fs := df_6) (C := R_Try) (T := T_Try) (N := 5) hx hb hts in_6 ty_Try ty_Try_ok hown (hts _ wd_23) (hts _ wd_266) (hts _ wd_7) hK hH hS hA rfl dfl_6 (by decide) (by decide) d_X_ask_46 rfl (new_6 σ_9) (fun q_10 H f_13 hH hK hS => ?_)
        obtain ⟨σ_11, z_12⟩ : ∃ y : ST, y = st_new σ_9 q_10 6 := ⟨_, rfl⟩
        rw [← z_12] at hH hK
        have h := h q_10 f_13 σ_11 z_12
        have t_14 : st_tg σ_11 q_10 = some 6 := by rw [z_12, g_tg_new, if_pos rfl]
        refine lv_dup hx hb d_X_ask_49 (cat_rf _) ?_
        refine lv_iload_n hx hb d_X_ask_50 rfl (lv_at hl 1 rfl) ?_
        refine lv_lload_n hx hb d_X_ask_51 rfl (lv_at hl 2 rfl) ?_
        refine lv_iload hx hb d_X_ask_52 (lv_at hl 3 rfl) ?_
        refine lv_lload hx hb d_X_ask_54 (lv_at hl 4 rfl) ?_
        refine ms_callv (va_runI (As := [.int p1, .long p2, .int p4, .long p5]) (rest := [va_rf (some q_10), .int r_8, va_rf (st_R σ_3 4 h0)]) ⟨hx, hb, hml, hown, hts⟩ (mc_Try_init l D A σ_11 q_10 p1 p2 p4 p5 _) ⟨(callB_of 4 hts gw_Try_init rfl rfl rfl (hts _ wd_7) (hts _ wd_267) (by decide +kernel) ⟨by decide, by decide⟩), rfl, (hts _ wd_268)⟩ ⟨mw_blind, fun U hU hW => ⟨rfl, mw_pass hH hK hA hS hU hW, mn_warm hW hn, h⟩⟩ rfl rfl hl.1 rfl (lv_room (by simp [cat_rf, cat_i, cat_l, cat_r])) d_X_ask_56 ⟨by decide, by decide⟩) hS (fun σ_16 H locs h hH hK hS => ?_)
        refine W.cs (cells' := 1) (slots' := 5) rfl rfl ?_
        obtain ⟨a_17, e_18, t_19, h⟩ := h
        obtain ⟨b_20, h⟩ := h
        obtain ⟨o_21, h⟩ := h
        obtain ⟨σ_22, z_23⟩ : ∃ y : ST, y = st_uR σ_16 a_17 (Int32.toNatClampNeg r_8) (some q_10) := ⟨_, rfl⟩
        have h := h σ_22 z_23
        refine ms_aast (σ := σ_16) (r := (st_R σ_3 4 h0)) (a := a_17) (x := some q_10) (w := (R_Try, T_Try, 5)) (ci := 6) hx hb rfl hK hH hS e_18 t_19 rfl (cell_316 t_19) (fun y hy => ⟨_, cell_6 (o_21 y hy)⟩) b_20 d_X_ask_59 (σ1 := σ_22) (by rw [z_23]; exact uput_316 σ_16 a_17 _ (some q_10) t_19) (by rw [z_23]; rfl) (by rw [z_23]; rfl) (fun H locs hH hK hS => ?_)
        have t_24 : st_tg σ_22 a_17 = some 316 := by rw [z_23]; exact t_19
        refine mr_aload_n hx hb d_X_ask_60 rfl (lv_at hl 0 rfl) ?_
        refine lv_dup hx hb d_X_ask_61 (cat_rf _) ?_
        obtain ⟨t_25, h⟩ := h
        refine ms_get (σ := σ_22) (r := some h0) (a := h0) (fs := fl_0 σ_22 h0) (ci := 0) (C := R_X) (T := T_X) (N := 10) hx hb hts in_0 hown hK hH rfl (cell_0 t_25) rfl 5 (by decide) (hts _ wd_84) (fun _ h9 => h9) (v := .int (st_I σ_22 5 h0)) rfl d_X_ask_62 ?_
        refine lv_dup_x1 hx hb d_X_ask_65 rfl (cat_rf _) ?_
        refine lv_iconst (v := 1) hx hb d_X_ask_66 (by decide) ?_
        refine lv_iadd hx hb d_X_ask_67 ?_
        obtain ⟨σ_26, z_27⟩ : ∃ y : ST, y = st_sI σ_22 5 h0 ((((st_I σ_22 5 h0)) + 1)) := ⟨_, rfl⟩
        have h := h σ_26 z_27
        refine ms_put (σ := σ_22) (r := some h0) (a := h0) (fs := fl_0 σ_22 h0) (ci := 0) (C := R_X) (T := T_X) (N := 10) (v := .int (((st_I σ_22 5 h0)) + 1)) (ty := .int) hx hb hts in_0 ty_X ty_X_ok nm_X hown hK hH hS rfl (cell_0 t_25) rfl 5 (by decide) (hts _ wd_84) (fun _ h9 => h9) rfl (by decide +kernel) rfl rfl (Nat.le_of_ble_eq_true rfl) d_X_ask_68 (σ1 := σ_26) (by rw [z_27]; exact put_0_5 σ_22 h0 ((((st_I σ_22 5 h0)) + 1)) t_25) (by rw [z_27]; rfl) (by rw [z_27]; rfl) (fun H locs hH hK hS => ?_)
        have t_28 : st_tg σ_26 a_17 = some 316 := by rw [z_27]; exact t_24
        have t_29 : st_tg σ_26 h0 = some 0 := by rw [z_27]; exact t_25
        exact W.iret (v := (st_I σ_22 5 h0)) hx hb hr (fun t ht hW => ⟨⟨(st_I σ_22 5 h0), σ_26, rfl, h, mw_pass hH hK hA hS ht hW⟩, hS.F ht⟩) hS.2.2 d_X_ask_71
      · have h := h.2 c_7
        refine lv_bipush (v := (-104)) hx hb d_X_ask_32 (by decide) ?_
        refine W.widen (k := 1) (n := 5) (by decide) (by decide) ?_
        exact W.iret (v := (-104)) hx hb hr (fun t ht hW => ⟨⟨(-104), σ_3, rfl, h, mw_pass hH hK hA hS ht hW⟩, hS.F ht⟩) hS.2.2 d_X_ask_34
    · have h := h.2 c_5
      refine lv_bipush (v := (-102)) hx hb d_X_ask_15 (by decide) ?_
      refine W.widen (k := 1) (n := 5) (by decide) (by decide) ?_
      exact W.iret (v := (-102)) hx hb hr (fun t ht hW => ⟨⟨(-102), σ_3, rfl, h, mw_pass hH hK hA hS ht hW⟩, hS.F ht⟩) hS.2.2 d_X_ask_17
def wb_X_serve_23 (h0 : Nat) (K : Int32 → ST → Prop) : Nat → ST → Int32 → Int32 → Prop
  | 0, _, _, _ => False
  | n + 1, σ, v2, v3 =>
  (((v2 ≤ v3) → K v2 σ) ∧
  ((¬ v2 ≤ v3) → st_tg σ h0 = some 0 ∧ (wp_X_placeOfTry σ ((st_I σ 6 h0)) (fun (r_7 : Int32) σ_8 =>
  ∃ a_9 : Nat, (st_R σ 4 h0) = some a_9 ∧ st_tg σ_8 a_9 = some 316 ∧ (vp_in r_7 (st_ln σ_8 a_9) ∧ (st_tg σ_8 h0 = some 0 ∧ (∀ σ_14 : ST, σ_14 = st_sI σ_8 6 h0 ((((st_I σ_8 6 h0)) + 1)) → ((((((st_eR σ_8 a_9 (Int32.toNatClampNeg r_7))) = none) → ∀ x_19 : Int32, x_19 = v3 + 1 → (wb_X_serve_23 h0 K n σ_14 v2 x_19)) ∧
  ((¬ ((st_eR σ_8 a_9 (Int32.toNatClampNeg r_7))) = none) → ∃ a_21 : Nat, (st_eR σ_8 a_9 (Int32.toNatClampNeg r_7)) = some a_21 ∧ st_tg σ_14 a_21 = some 6 ∧ (wp_X_pay σ_14 h0 ((st_I σ_14 240 a_21)) ((st_J σ_14 241 a_21)) ((st_I σ_14 242 a_21)) ((st_J σ_14 243 a_21)) (fun (r_24 : Int32) σ_25 =>
  st_tg σ_25 a_21 = some 6 ∧ (∀ σ_27 : ST, σ_27 = st_sI σ_25 244 a_21 r_24 → (∀ x_30 : Int32, x_30 = v3 + 1 → (wb_X_serve_23 h0 K n σ_27 v2 x_30)))))))))))))))
def wp_X_serve (σ : ST) (h0 : Nat) (p1 : Int32) (K : Int32 → ST → Prop) : Prop :=
  (((0 ≤ p1) → st_tg σ h0 = some 0 ∧ (∀ x_3 : Int32, x_3 = (if ((((st_I σ 5 h0)) - ((st_I σ 6 h0)))) < p1 then ((((st_I σ 5 h0)) - ((st_I σ 6 h0)))) else p1) → (∃ n : Nat, wb_X_serve_23 h0 K n σ x_3 0))) ∧
  ((¬ 0 ≤ p1) → K ((-102)) σ))
abbrev ROOM_X_serve : Room := { frames := 6, cells := 0, slots := 0, locals := 149 }
set_option maxHeartbeats 4000000 in
set_option maxRecDepth 100000 in
theorem mc_X_serve (l : Launch) (D : va_G) (A : Nat → Prop) (σ : ST) (h0 : Nat) (p1 : Int32) (K : Int32 → ST → Prop) : Met l y_X_serve ws_X_serve ROOM_X_serve (va_Pc [.ref h0, .int p1] (fun U => mw D A σ U ∧ mn U ∧ wp_X_serve σ h0 p1 K)) (va_Qi K (mw D A) A) 0 0 A := by
  refine Met.ofW (cc := c_X_serve) (maxL := 5) (ret := (some .int)) (by decide) rfl ?_
  intro p e s m args below meth c s₁ B hml hv
  obtain ⟨rfl, ⟨hH, hK, hA⟩, hn, h⟩ := hv
  have hx := B.exec
  have hb := B.bytes
  have hr := B.returns
  have hts := atoms_spec (ws := ws_X_serve) B.pre
  have hown : s.vm.findClass R_X = some m.cls := findClass_of_methodNamed B.named
  have hlocks := B.notSynchronized
  have hts : ∀ w ∈ lw_g, w.before ([.ref h0, .int p1] : List Value).toArray s = true := fun w hw => hts w (List.mem_cons_of_mem _ hw)
  have b_23 : ∀ (n : Nat), ∀ (σ : ST) (v2 : Int32) (v3 : Int32) (H : Heap) (locs : List Loc) (ls : Array Slot), mg_H D vwCl A (st_cell σ) H → mk_K D σ s → va_S A s.heap H locs → lv_has ls 5 [(0, va_rf (some h0)), (2, .int v2), (3, .int v3)] → wb_X_serve_23 h0 K n σ v2 v3 → W p l e (headSpec ws_X_serve ROOM_X_serve).room s m ([.ref h0, .int p1] : List Value).toArray below meth c H locs 0 0 (MQ below (va_Qi K (mw D A) A) ([.ref h0, .int p1] : List Value).toArray s 0 0 A) (F0 m 23 ls []) := by
    intro n
    induction n with
    | zero =>
      intro σ v2 v3 H locs ls hH hK hS hl h
      exact h.elim
    | succ n ih =>
      intro σ v2 v3 H locs ls hH hK hS hl h
      unfold wb_X_serve_23 at h
      refine lv_iload_n hx hb d_X_serve_23 rfl (lv_at hl 2 rfl) ?_
      refine lv_iload_n hx hb d_X_serve_24 rfl (lv_at hl 1 rfl) ?_
      refine lv_icmp_ge (tgt := 92) hx hb d_X_serve_25 (by decide) (fun c_5 => ?_) (fun c_5 => ?_)
      · have h := h.1 c_5
        refine lv_iload_n hx hb d_X_serve_92 rfl (lv_at hl 1 rfl) ?_
        exact W.iret (v := v2) hx hb hr (fun t ht hW => ⟨⟨v2, σ, rfl, h, mw_pass hH hK hA hS ht hW⟩, hS.F ht⟩) hS.2.2 d_X_serve_93
      · have h := h.2 c_5
        refine mr_aload_n hx hb d_X_serve_28 rfl (lv_at hl 0 rfl) ?_
        obtain ⟨t_6, h⟩ := h
        refine ms_get (σ := σ) (r := some h0) (a := h0) (fs := fl_0 σ h0) (ci := 0) (C := R_X) (T := T_X) (N := 10) hx hb hts in_0 hown hK hH rfl (cell_0 t_6) rfl 4 (by decide) (hts _ wd_83) (fun _ h9 => h9) (v := va_rf (st_R σ 4 h0)) rfl d_X_serve_29 ?_
        refine mr_aload_n hx hb d_X_serve_32 rfl (lv_at hl 0 rfl) ?_
        refine ms_get (σ := σ) (r := some h0) (a := h0) (fs := fl_0 σ h0) (ci := 0) (C := R_X) (T := T_X) (N := 10) hx hb hts in_0 hown hK hH rfl (cell_0 t_6) rfl 6 (by decide) (hts _ wd_85) (fun _ h9 => h9) (v := .int (st_I σ 6 h0)) rfl d_X_serve_33 ?_
        refine ms_calli (va_runS (As := [.int (st_I σ 6 h0)]) (rest := [va_rf (st_R σ 4 h0)]) ⟨hx, hb, hml, hown, hts⟩ (mc_X_placeOfTry l D A σ ((st_I σ 6 h0)) _) ⟨(callB_of 1 hts gw_X_placeOfTry rfl rfl rfl (hts _ wd_1) (hts _ wd_260) (by decide +kernel) ⟨by decide, by decide⟩), (hts _ wd_261)⟩ ⟨mw_blind, fun U hU hW => ⟨rfl, mw_pass hH hK hA hS hU hW, mn_warm hW hn, h⟩⟩ rfl rfl hl.1 rfl (lv_room (by simp [cat_rf, cat_i, cat_l, cat_r])) d_X_serve_36 ⟨by decide, by decide⟩) hS (fun r_7 σ_8 H locs h hH hK hS => ?_)
        obtain ⟨a_9, e_10, t_11, h⟩ := h
        obtain ⟨b_12, h⟩ := h
        refine ms_aald (σ := σ_8) (r := (st_R σ 4 h0)) (a := a_9) hx hb hK hH e_10 t_11 rfl (cell_316 t_11) b_12 d_X_serve_39 ?_
        refine mr_astore (lv' := [(4, va_rf (st_eR σ_8 a_9 (Int32.toNatClampNeg r_7))), (0, va_rf (some h0)), (2, .int v2), (3, .int v3)]) hx hb d_X_serve_40 hl (by decide) rfl (fun ls hl => ?_)
        refine mr_aload_n hx hb d_X_serve_42 rfl (lv_at hl 1 rfl) ?_
        refine lv_dup hx hb d_X_serve_43 (cat_rf _) ?_
        obtain ⟨t_13, h⟩ := h
        refine ms_get (σ := σ_8) (r := some h0) (a := h0) (fs := fl_0 σ_8 h0) (ci := 0) (C := R_X) (T := T_X) (N := 10) hx hb hts in_0 hown hK hH rfl (cell_0 t_13) rfl 6 (by decide) (hts _ wd_85) (fun _ h9 => h9) (v := .int (st_I σ_8 6 h0)) rfl d_X_serve_44 ?_
        refine lv_iconst (v := 1) hx hb d_X_serve_47 (by decide) ?_
        refine lv_iadd hx hb d_X_serve_48 ?_
        obtain ⟨σ_14, z_15⟩ : ∃ y : ST, y = st_sI σ_8 6 h0 ((((st_I σ_8 6 h0)) + 1)) := ⟨_, rfl⟩
        have h := h σ_14 z_15
        refine ms_put (σ := σ_8) (r := some h0) (a := h0) (fs := fl_0 σ_8 h0) (ci := 0) (C := R_X) (T := T_X) (N := 10) (v := .int (((st_I σ_8 6 h0)) + 1)) (ty := .int) hx hb hts in_0 ty_X ty_X_ok nm_X hown hK hH hS rfl (cell_0 t_13) rfl 6 (by decide) (hts _ wd_85) (fun _ h9 => h9) rfl (by decide +kernel) rfl rfl (Nat.le_of_ble_eq_true rfl) d_X_serve_49 (σ1 := σ_14) (by rw [z_15]; exact put_0_6 σ_8 h0 ((((st_I σ_8 6 h0)) + 1)) t_13) (by rw [z_15]; rfl) (by rw [z_15]; rfl) (fun H locs hH hK hS => ?_)
        have t_16 : st_tg σ_14 a_9 = some 316 := by rw [z_15]; exact t_11
        have t_17 : st_tg σ_14 h0 = some 0 := by rw [z_15]; exact t_13
        refine mr_aload hx hb d_X_serve_52 (lv_at hl 0 rfl) ?_
        refine mr_ifnull (x := (st_eR σ_8 a_9 (Int32.toNatClampNeg r_7))) (tgt := 86) hx hb d_X_serve_54 (by decide) (fun c_18 => ?_) (fun c_18 => ?_)
        · have h := h.1 c_18
          obtain ⟨x_19, q_20⟩ : ∃ y : Int32, y = v3 + 1 := ⟨_, rfl⟩
          have h := h x_19 q_20
          refine lv_iinc (v := x_19) (lv' := [(3, .int x_19), (4, va_rf (st_eR σ_8 a_9 (Int32.toNatClampNeg r_7))), (0, va_rf (some h0)), (2, .int v2)]) hx hb d_X_serve_86 hl (k := 3) rfl (by rw [q_20]; rfl) (by decide) rfl (fun ls hl => ?_)
          refine lv_goto (tgt := 23) hx hb d_X_serve_89 (by decide) ?_
          exact ih _ _ _ _ _ _ hH hK hS (lv_sub hl [2, 3, 0] rfl) h
        · have h := h.2 c_18
          refine mr_aload hx hb d_X_serve_57 (lv_at hl 0 rfl) ?_
          refine mr_aload_n hx hb d_X_serve_59 rfl (lv_at hl 1 rfl) ?_
          refine mr_aload hx hb d_X_serve_60 (lv_at hl 0 rfl) ?_
          obtain ⟨a_21, e_22, t_23, h⟩ := h
          refine ms_getN (σ := σ_14) (r := (st_eR σ_8 a_9 (Int32.toNatClampNeg r_7))) (a := a_21) (fs := fl_6 σ_14 a_21) (ci := 6) (C := R_Try) (T := T_Try) (N := 5) hx hb hts in_6 hown hK hH e_22 (cell_6 t_23) rfl 0 (by decide) (va_Nw.use rfl (hn _ wd_272 rfl)) (fun _ h9 => h9) (v := .int (st_I σ_14 240 a_21)) rfl d_X_serve_62 ?_
          refine mr_aload hx hb d_X_serve_65 (lv_at hl 0 rfl) ?_
          refine ms_getN (σ := σ_14) (r := (st_eR σ_8 a_9 (Int32.toNatClampNeg r_7))) (a := a_21) (fs := fl_6 σ_14 a_21) (ci := 6) (C := R_Try) (T := T_Try) (N := 5) hx hb hts in_6 hown hK hH e_22 (cell_6 t_23) rfl 1 (by decide) (va_Nw.use rfl (hn _ wd_274 rfl)) (fun _ h9 => h9) (v := .long (st_J σ_14 241 a_21)) rfl d_X_serve_67 ?_
          refine mr_aload hx hb d_X_serve_70 (lv_at hl 0 rfl) ?_
          refine ms_getN (σ := σ_14) (r := (st_eR σ_8 a_9 (Int32.toNatClampNeg r_7))) (a := a_21) (fs := fl_6 σ_14 a_21) (ci := 6) (C := R_Try) (T := T_Try) (N := 5) hx hb hts in_6 hown hK hH e_22 (cell_6 t_23) rfl 2 (by decide) (va_Nw.use rfl (hn _ wd_276 rfl)) (fun _ h9 => h9) (v := .int (st_I σ_14 242 a_21)) rfl d_X_serve_72 ?_
          refine mr_aload hx hb d_X_serve_75 (lv_at hl 0 rfl) ?_
          refine ms_getN (σ := σ_14) (r := (st_eR σ_8 a_9 (Int32.toNatClampNeg r_7))) (a := a_21) (fs := fl_6 σ_14 a_21) (ci := 6) (C := R_Try) (T := T_Try) (N := 5) hx hb hts in_6 hown hK hH e_22 (cell_6 t_23) rfl 3 (by decide) (va_Nw.use rfl (hn _ wd_278 rfl)) (fun _ h9 => h9) (v := .long (st_J σ_14 243 a_21)) rfl d_X_serve_77 ?_
          refine ms_calli (va_runV (As := [.int (st_I σ_14 240 a_21), .long (st_J σ_14 241 a_21), .int (st_I σ_14 242 a_21), .long (st_J σ_14 243 a_21)]) (rest := [va_rf (st_eR σ_8 a_9 (Int32.toNatClampNeg r_7))]) ⟨hx, hb, hml, hown, hts⟩ (mc_X_pay l D A σ_14 h0 ((st_I σ_14 240 a_21)) ((st_J σ_14 241 a_21)) ((st_I σ_14 242 a_21)) ((st_J σ_14 243 a_21)) _) ⟨(callB_of 4 hts gw_X_pay rfl rfl rfl (hts _ wd_1) (hts _ wd_299) (by decide +kernel) ⟨by decide, by decide⟩), (hts _ wd_185), (hts _ wd_186)⟩ ⟨mw_blind, mg_recv hK.1 hH (ci := 0) rfl (cell_0 t_17), fun U hU hW => ⟨rfl, mw_pass hH hK hA hS hU hW, mn_warm hW hn, h⟩⟩ rfl rfl hl.1 rfl (lv_room (by simp [cat_rf, cat_i, cat_l, cat_r])) d_X_serve_80 ⟨by decide, by decide⟩) hS (fun r_24 σ_25 H locs h hH hK hS => ?_)
          obtain ⟨t_26, h⟩ := h
          obtain ⟨σ_27, z_28⟩ : ∃ y : ST, y = st_sI σ_25 244 a_21 r_24 := ⟨_, rfl⟩
          have h := h σ_27 z_28
          refine ms_putN (σ := σ_25) (r := (st_eR σ_8 a_9 (Int32.toNatClampNeg r_7))) (a := a_21) (fs := fl_6 σ_25 a_21) (ci := 6) (C := R_Try) (T := T_Try) (N := 5) (v := .int r_24) (ty := .int) hx hb hts in_6 ty_Try ty_Try_ok nm_Try hown hK hH hS e_22 (cell_6 t_26) rfl 4 (by decide) (va_Nw.use rfl (hn _ wd_280 rfl)) (fun _ h9 => h9) rfl (by decide +kernel) rfl rfl (Nat.le_of_ble_eq_true rfl) d_X_serve_83 (σ1 := σ_27) (by rw [z_28]; exact put_6_4 σ_25 a_21 r_24 t_26) (by rw [z_28]; rfl) (by rw [z_28]; rfl) (fun H locs hH hK hS => ?_)
          have t_29 : st_tg σ_27 a_21 = some 6 := by rw [z_28]; exact t_26
          obtain ⟨x_30, q_31⟩ : ∃ y : Int32, y = v3 + 1 := ⟨_, rfl⟩
          have h := h x_30 q_31
          refine lv_iinc (v := x_30) (lv' := [(3, .int x_30), (4, va_rf (st_eR σ_8 a_9 (Int32.toNatClampNeg r_7))), (0, va_rf (some h0)), (2, .int v2)]) hx hb d_X_serve_86 hl (k := 3) rfl (by rw [q_31]; rfl) (by decide) rfl (fun ls hl => ?_)
          refine lv_goto (tgt := 23) hx hb d_X_serve_89 (by decide) ?_
          exact ih _ _ _ _ _ _ hH hK hS (lv_sub hl [2, 3, 0] rfl) h
  have hS : va_S A s.heap s.heap [] := va_S.rf
  have hl := lv_entry ([.ref h0, .int p1]) (n := 5) (Nat.le_of_ble_eq_true rfl)
  rw [lg_entry_eq]
  generalize (lg_sl ([.ref h0, .int p1]) ++ List.replicate (5 - (lg_sl ([.ref h0, .int p1])).length) Slot.unset).toArray = ls at hl ⊢
  have hl : lv_has ls 5 [(0, va_rf (some h0)), (1, .int p1)] := hl
  unfold wp_X_serve at h
  refine lv_iload_n hx hb d_X_serve_0 rfl (lv_at hl 1 rfl) ?_
  refine lv_if_ge (tgt := 7) hx hb d_X_serve_1 (by decide) (fun c_1 => ?_) (fun c_1 => ?_)
  · have h := h.1 c_1
    refine lv_iload_n hx hb d_X_serve_7 rfl (lv_at hl 1 rfl) ?_
    refine mr_aload_n hx hb d_X_serve_8 rfl (lv_at hl 0 rfl) ?_
    obtain ⟨t_2, h⟩ := h
    refine ms_get (σ := σ) (r := some h0) (a := h0) (fs := fl_0 σ h0) (ci := 0) (C := R_X) (T := T_X) (N := 10) hx hb hts in_0 hown hK hH rfl (cell_0 t_2) rfl 5 (by decide) (hts _ wd_84) (fun _ h9 => h9) (v := .int (st_I σ 5 h0)) rfl d_X_serve_9 ?_
    refine mr_aload_n hx hb d_X_serve_12 rfl (lv_at hl 0 rfl) ?_
    refine ms_get (σ := σ) (r := some h0) (a := h0) (fs := fl_0 σ h0) (ci := 0) (C := R_X) (T := T_X) (N := 10) hx hb hts in_0 hown hK hH rfl (cell_0 t_2) rfl 6 (by decide) (hts _ wd_85) (fun _ h9 => h9) (v := .int (st_I σ 6 h0)) rfl d_X_serve_13 ?_
    refine lv_isub hx hb d_X_serve_16 ?_
    refine va_mmin hx hb (by rw [hml]; exact hl.1.symm) hown (hts _ wd_296) (hts _ wd_297) (hts _ wd_6) (hts _ wd_298) (by decide) (by decide) (by decide) (by decide) d_X_serve_17 ?_
    refine lv_topi (fun x_3 q_4 => ?_)
    have h := h x_3 q_4
    refine lv_istore_n (lv' := [(2, .int x_3), (0, va_rf (some h0)), (1, .int p1)]) hx hb d_X_serve_20 rfl hl (by decide) rfl (fun ls hl => ?_)
    refine lv_iconst (v := 0) hx hb d_X_serve_21 (by decide) ?_
    refine lv_istore_n (lv' := [(3, .int 0), (2, .int x_3), (0, va_rf (some h0)), (1, .int p1)]) hx hb d_X_serve_22 rfl hl (by decide) rfl (fun ls hl => ?_)
    obtain ⟨n, h⟩ := h
    exact b_23 n _ _ _ _ _ _ hH hK hS (lv_sub hl [2, 1, 0] rfl) h
  · have h := h.2 c_1
    refine lv_bipush (v := (-102)) hx hb d_X_serve_4 (by decide) ?_
    exact W.iret (v := (-102)) hx hb hr (fun t ht hW => ⟨⟨(-102), σ, rfl, h, mw_pass hH hK hA hS ht hW⟩, hS.F ht⟩) hS.2.2 d_X_serve_6
def wp_X_answer (σ : ST) (h0 : Nat) (p1 : Int32) (K : Int32 → ST → Prop) : Prop :=
  (((p1 < 0) → K ((-1)) σ) ∧
  ((¬ p1 < 0) → st_tg σ h0 = some 0 ∧ ((((((st_I σ 5 h0)) ≤ p1) → K ((-1)) σ) ∧
  ((¬ ((st_I σ 5 h0)) ≤ p1) → (((((((st_I σ 5 h0)) - 100)) ≤ p1) → wp_X_placeOfTry σ p1 (fun (r_5 : Int32) σ_6 =>
  ∃ a_7 : Nat, (st_R σ 4 h0) = some a_7 ∧ st_tg σ_6 a_7 = some 316 ∧ (vp_in r_5 (st_ln σ_6 a_7) ∧ ((((¬ ((st_eR σ_6 a_7 (Int32.toNatClampNeg r_5))) = none) → ∃ a_12 : Nat, (st_eR σ_6 a_7 (Int32.toNatClampNeg r_5)) = some a_12 ∧ st_tg σ_6 a_12 = some 6 ∧ (K ((st_I σ_6 244 a_12)) σ_6)) ∧
  ((((st_eR σ_6 a_7 (Int32.toNatClampNeg r_5))) = none) → K ((-1)) σ_6)))))) ∧
  ((¬ ((((st_I σ 5 h0)) - 100)) ≤ p1) → K ((-1)) σ)))))))
abbrev ROOM_X_answer : Room := { frames := 2, cells := 0, slots := 0, locals := 42 }
set_option maxHeartbeats 4000000 in
set_option maxRecDepth 100000 in
theorem mc_X_answer (l : Launch) (D : va_G) (A : Nat → Prop) (σ : ST) (h0 : Nat) (p1 : Int32) (K : Int32 → ST → Prop) : Met l y_X_answer ws_X_answer ROOM_X_answer (va_Pc [.ref h0, .int p1] (fun U => mw D A σ U ∧ mn U ∧ wp_X_answer σ h0 p1 K)) (va_Qi K (mw D A) A) 0 0 A := by
  refine Met.ofW (cc := c_X_answer) (maxL := 3) (ret := (some .int)) (by decide) rfl ?_
  intro p e s m args below meth c s₁ B hml hv
  obtain ⟨rfl, ⟨hH, hK, hA⟩, hn, h⟩ := hv
  have hx := B.exec
  have hb := B.bytes
  have hr := B.returns
  have hts := atoms_spec (ws := ws_X_answer) B.pre
  have hown : s.vm.findClass R_X = some m.cls := findClass_of_methodNamed B.named
  have hlocks := B.notSynchronized
  have hts : ∀ w ∈ lw_g, w.before ([.ref h0, .int p1] : List Value).toArray s = true := fun w hw => hts w (List.mem_cons_of_mem _ hw)
  have hS : va_S A s.heap s.heap [] := va_S.rf
  have hl := lv_entry ([.ref h0, .int p1]) (n := 3) (Nat.le_of_ble_eq_true rfl)
  rw [lg_entry_eq]
  generalize (lg_sl ([.ref h0, .int p1]) ++ List.replicate (3 - (lg_sl ([.ref h0, .int p1])).length) Slot.unset).toArray = ls at hl ⊢
  have hl : lv_has ls 3 [(0, va_rf (some h0)), (1, .int p1)] := hl
  unfold wp_X_answer at h
  refine lv_iload_n hx hb d_X_answer_0 rfl (lv_at hl 1 rfl) ?_
  refine lv_if_lt (tgt := 23) hx hb d_X_answer_1 (by decide) (fun c_1 => ?_) (fun c_1 => ?_)
  · have h := h.1 c_1
    refine lv_iconst (v := (-1)) hx hb d_X_answer_23 (by decide) ?_
    exact W.iret (v := (-1)) hx hb hr (fun t ht hW => ⟨⟨(-1), σ, rfl, h, mw_pass hH hK hA hS ht hW⟩, hS.F ht⟩) hS.2.2 d_X_answer_24
  · have h := h.2 c_1
    refine lv_iload_n hx hb d_X_answer_4 rfl (lv_at hl 1 rfl) ?_
    refine mr_aload_n hx hb d_X_answer_5 rfl (lv_at hl 0 rfl) ?_
    obtain ⟨t_2, h⟩ := h
    refine ms_get (σ := σ) (r := some h0) (a := h0) (fs := fl_0 σ h0) (ci := 0) (C := R_X) (T := T_X) (N := 10) hx hb hts in_0 hown hK hH rfl (cell_0 t_2) rfl 5 (by decide) (hts _ wd_84) (fun _ h9 => h9) (v := .int (st_I σ 5 h0)) rfl d_X_answer_6 ?_
    refine lv_icmp_ge (tgt := 23) hx hb d_X_answer_9 (by decide) (fun c_3 => ?_) (fun c_3 => ?_)
    · have h := h.1 c_3
      refine lv_iconst (v := (-1)) hx hb d_X_answer_23 (by decide) ?_
      exact W.iret (v := (-1)) hx hb hr (fun t ht hW => ⟨⟨(-1), σ, rfl, h, mw_pass hH hK hA hS ht hW⟩, hS.F ht⟩) hS.2.2 d_X_answer_24
    · have h := h.2 c_3
      refine lv_iload_n hx hb d_X_answer_12 rfl (lv_at hl 1 rfl) ?_
      refine mr_aload_n hx hb d_X_answer_13 rfl (lv_at hl 0 rfl) ?_
      refine ms_get (σ := σ) (r := some h0) (a := h0) (fs := fl_0 σ h0) (ci := 0) (C := R_X) (T := T_X) (N := 10) hx hb hts in_0 hown hK hH rfl (cell_0 t_2) rfl 5 (by decide) (hts _ wd_84) (fun _ h9 => h9) (v := .int (st_I σ 5 h0)) rfl d_X_answer_14 ?_
      refine lv_bipush (v := 100) hx hb d_X_answer_17 (by decide) ?_
      refine lv_isub hx hb d_X_answer_19 ?_
      refine lv_icmp_ge (tgt := 25) hx hb d_X_answer_20 (by decide) (fun c_4 => ?_) (fun c_4 => ?_)
      · have h := h.1 c_4
        refine mr_aload_n hx hb d_X_answer_25 rfl (lv_at hl 0 rfl) ?_
        refine ms_get (σ := σ) (r := some h0) (a := h0) (fs := fl_0 σ h0) (ci := 0) (C := R_X) (T := T_X) (N := 10) hx hb hts in_0 hown hK hH rfl (cell_0 t_2) rfl 4 (by decide) (hts _ wd_83) (fun _ h9 => h9) (v := va_rf (st_R σ 4 h0)) rfl d_X_answer_26 ?_
        refine lv_iload_n hx hb d_X_answer_29 rfl (lv_at hl 1 rfl) ?_
        refine ms_calli (va_runS (As := [.int p1]) (rest := [va_rf (st_R σ 4 h0)]) ⟨hx, hb, hml, hown, hts⟩ (mc_X_placeOfTry l D A σ p1 _) ⟨(callB_of 1 hts gw_X_placeOfTry rfl rfl rfl (hts _ wd_1) (hts _ wd_260) (by decide +kernel) ⟨by decide, by decide⟩), (hts _ wd_261)⟩ ⟨mw_blind, fun U hU hW => ⟨rfl, mw_pass hH hK hA hS hU hW, mn_warm hW hn, h⟩⟩ rfl rfl hl.1 rfl (lv_room (by simp [cat_rf, cat_i, cat_l, cat_r])) d_X_answer_30 ⟨by decide, by decide⟩) hS (fun r_5 σ_6 H locs h hH hK hS => ?_)
        obtain ⟨a_7, e_8, t_9, h⟩ := h
        obtain ⟨b_10, h⟩ := h
        refine ms_aald (σ := σ_6) (r := (st_R σ 4 h0)) (a := a_7) hx hb hK hH e_8 t_9 rfl (cell_316 t_9) b_10 d_X_answer_33 ?_
        refine mr_astore_n (lv' := [(2, va_rf (st_eR σ_6 a_7 (Int32.toNatClampNeg r_5))), (0, va_rf (some h0)), (1, .int p1)]) hx hb d_X_answer_34 rfl hl (by decide) rfl (fun ls hl => ?_)
        refine mr_aload_n hx hb d_X_answer_35 rfl (lv_at hl 0 rfl) ?_
        refine mr_ifnonnull (x := (st_eR σ_6 a_7 (Int32.toNatClampNeg r_5))) (tgt := 43) hx hb d_X_answer_36 (by decide) (fun c_11 => ?_) (fun c_11 => ?_)
        · have h := h.1 c_11
          refine mr_aload_n hx hb d_X_answer_43 rfl (lv_at hl 0 rfl) ?_
          obtain ⟨a_12, e_13, t_14, h⟩ := h
          refine ms_getN (σ := σ_6) (r := (st_eR σ_6 a_7 (Int32.toNatClampNeg r_5))) (a := a_12) (fs := fl_6 σ_6 a_12) (ci := 6) (C := R_Try) (T := T_Try) (N := 5) hx hb hts in_6 hown hK hH e_13 (cell_6 t_14) rfl 4 (by decide) (va_Nw.use rfl (hn _ wd_280 rfl)) (fun _ h9 => h9) (v := .int (st_I σ_6 244 a_12)) rfl d_X_answer_44 ?_
          exact W.iret (v := (st_I σ_6 244 a_12)) hx hb hr (fun t ht hW => ⟨⟨(st_I σ_6 244 a_12), σ_6, rfl, h, mw_pass hH hK hA hS ht hW⟩, hS.F ht⟩) hS.2.2 d_X_answer_47
        · have h := h.2 c_11
          refine lv_iconst (v := (-1)) hx hb d_X_answer_39 (by decide) ?_
          refine lv_goto (tgt := 47) hx hb d_X_answer_40 (by decide) ?_
          exact W.iret (v := (-1)) hx hb hr (fun t ht hW => ⟨⟨(-1), σ_6, rfl, h, mw_pass hH hK hA hS ht hW⟩, hS.F ht⟩) hS.2.2 d_X_answer_47
      · have h := h.2 c_4
        refine lv_iconst (v := (-1)) hx hb d_X_answer_23 (by decide) ?_
        exact W.iret (v := (-1)) hx hb hr (fun t ht hW => ⟨⟨(-1), σ, rfl, h, mw_pass hH hK hA hS ht hW⟩, hS.F ht⟩) hS.2.2 d_X_answer_24
def wp_X_bar (σ : ST) (h0 : Nat) (p1 : Int64) (p3 : Int64) (K : Int32 → ST → Prop) : Prop :=
  st_tg σ h0 = some 0 ∧ (wp_X_find σ h0 p1 (fun (r_2 : Option Nat) σ_3 =>
  (((¬ r_2 = none) → (((0 ≤ ((lg_cmp p3 0))) → ∃ a_6 : Nat, r_2 = some a_6 ∧ st_tg σ_3 a_6 = some 5 ∧ ((((((st_I σ_3 206 a_6)) = 0) → ∀ σ_10 : ST, σ_10 = st_sJ σ_3 207 a_6 p3 → (wp_Order_become σ_10 a_6 2 (fun σ_14 =>
  K 1 σ_14))) ∧
  ((¬ ((st_I σ_3 206 a_6)) = 0) → K ((-103)) σ_3)))) ∧
  ((¬ 0 ≤ ((lg_cmp p3 0))) → K ((-102)) σ_3))) ∧
  ((r_2 = none) → K ((-101)) σ_3))))
abbrev ROOM_X_bar : Room := { frames := 2, cells := 0, slots := 0, locals := 41 }
set_option maxHeartbeats 4000000 in
set_option maxRecDepth 100000 in
theorem mc_X_bar (l : Launch) (D : va_G) (A : Nat → Prop) (σ : ST) (h0 : Nat) (p1 : Int64) (p3 : Int64) (K : Int32 → ST → Prop) : Met l y_X_bar ws_X_bar ROOM_X_bar (va_Pc [.ref h0, .long p1, .long p3] (fun U => mw D A σ U ∧ mn U ∧ wp_X_bar σ h0 p1 p3 K)) (va_Qi K (mw D A) A) 0 0 A := by
  refine Met.ofW (cc := c_X_bar) (maxL := 6) (ret := (some .int)) (by decide) rfl ?_
  intro p e s m args below meth c s₁ B hml hv
  obtain ⟨rfl, ⟨hH, hK, hA⟩, hn, h⟩ := hv
  have hx := B.exec
  have hb := B.bytes
  have hr := B.returns
  have hts := atoms_spec (ws := ws_X_bar) B.pre
  have hown : s.vm.findClass R_X = some m.cls := findClass_of_methodNamed B.named
  have hlocks := B.notSynchronized
  have hts : ∀ w ∈ lw_g, w.before ([.ref h0, .long p1, .long p3] : List Value).toArray s = true := fun w hw => hts w (List.mem_cons_of_mem _ hw)
  have hS : va_S A s.heap s.heap [] := va_S.rf
  have hl := lv_entry ([.ref h0, .long p1, .long p3]) (n := 6) (Nat.le_of_ble_eq_true rfl)
  rw [lg_entry_eq]
  generalize (lg_sl ([.ref h0, .long p1, .long p3]) ++ List.replicate (6 - (lg_sl ([.ref h0, .long p1, .long p3])).length) Slot.unset).toArray = ls at hl ⊢
  have hl : lv_has ls 6 [(0, va_rf (some h0)), (1, .long p1), (3, .long p3)] := hl
  unfold wp_X_bar at h
  refine mr_aload_n hx hb d_X_bar_0 rfl (lv_at hl 0 rfl) ?_
  refine lv_lload_n hx hb d_X_bar_1 rfl (lv_at hl 1 rfl) ?_
  obtain ⟨t_1, h⟩ := h
  refine ms_callq (va_runV (As := [.long p1]) (rest := []) ⟨hx, hb, hml, hown, hts⟩ (mc_X_find l D A σ h0 p1 _) ⟨(callB_of 1 hts gw_X_find rfl rfl rfl (hts _ wd_1) (hts _ wd_188) (by decide +kernel) ⟨by decide, by decide⟩), (hts _ wd_190), (hts _ wq_3)⟩ ⟨mw_blind, mg_recv hK.1 hH (ci := 0) rfl (cell_0 t_1), fun U hU hW => ⟨rfl, mw_pass hH hK hA hS hU hW, mn_warm hW hn, h⟩⟩ rfl rfl hl.1 rfl (lv_room (Nat.le_of_ble_eq_true rfl)) d_X_bar_2 ⟨by decide, by decide⟩) hS (fun r_2 σ_3 H locs h hH hK hS => ?_)
  refine mr_astore (lv' := [(5, va_rf r_2), (0, va_rf (some h0)), (1, .long p1), (3, .long p3)]) hx hb d_X_bar_5 hl (by decide) rfl (fun ls hl => ?_)
  refine mr_aload hx hb d_X_bar_7 (lv_at hl 0 rfl) ?_
  refine mr_ifnonnull (x := r_2) (tgt := 15) hx hb d_X_bar_9 (by decide) (fun c_4 => ?_) (fun c_4 => ?_)
  · have h := h.1 c_4
    refine lv_lload_n hx hb d_X_bar_15 rfl (lv_at hl 3 rfl) ?_
    refine lv_lconst (v := 0) hx hb d_X_bar_16 rfl ?_
    refine W.lcmp hx hb d_X_bar_17 ?_
    refine lv_if_ge (tgt := 24) hx hb d_X_bar_18 (by decide) (fun c_5 => ?_) (fun c_5 => ?_)
    · have h := h.1 c_5
      refine mr_aload hx hb d_X_bar_24 (lv_at hl 0 rfl) ?_
      obtain ⟨a_6, e_7, t_8, h⟩ := h
      refine ms_getN (σ := σ_3) (r := r_2) (a := a_6) (fs := fl_5 σ_3 a_6) (ci := 5) (C := R_Order) (T := T_Order) (N := 11) hx hb hts in_5 hown hK hH e_7 (cell_5 t_8) rfl 6 (by decide) (va_Nw.use rfl (hn _ wd_153 rfl)) (fun _ h9 => h9) (v := .int (st_I σ_3 206 a_6)) rfl d_X_bar_26 ?_
      refine lv_if_eq (tgt := 35) hx hb d_X_bar_29 (by decide) (fun c_9 => ?_) (fun c_9 => ?_)
      · have h := h.1 c_9
        refine mr_aload hx hb d_X_bar_35 (lv_at hl 0 rfl) ?_
        refine lv_lload_n hx hb d_X_bar_37 rfl (lv_at hl 3 rfl) ?_
        obtain ⟨σ_10, z_11⟩ : ∃ y : ST, y = st_sJ σ_3 207 a_6 p3 := ⟨_, rfl⟩
        have h := h σ_10 z_11
        refine ms_putN (σ := σ_3) (r := r_2) (a := a_6) (fs := fl_5 σ_3 a_6) (ci := 5) (C := R_Order) (T := T_Order) (N := 11) (v := .long p3) (ty := .long) hx hb hts in_5 ty_Order ty_Order_ok nm_Order hown hK hH hS e_7 (cell_5 t_8) rfl 7 (by decide) (va_Nw.use rfl (hn _ wd_155 rfl)) (fun _ h9 => h9) rfl (by decide +kernel) rfl rfl (Nat.le_of_ble_eq_true rfl) d_X_bar_38 (σ1 := σ_10) (by rw [z_11]; exact put_5_7 σ_3 a_6 p3 t_8) (by rw [z_11]; rfl) (by rw [z_11]; rfl) (fun H locs hH hK hS => ?_)
        have t_12 : st_tg σ_10 a_6 = some 5 := by rw [z_11]; exact t_8
        refine mr_aload hx hb d_X_bar_41 (lv_at hl 0 rfl) ?_
        refine lv_iconst (v := 2) hx hb d_X_bar_43 (by decide) ?_
        refine ms_callv (va_runV (As := [.int 2]) (rest := []) ⟨hx, hb, hml, hown, hts⟩ (mc_Order_become l D A σ_10 a_6 2 _) ⟨(callB_of 1 hts gw_Order_become rfl rfl rfl (hts _ wd_5) (hts _ wd_227) (by decide +kernel) ⟨by decide, by decide⟩), (hts _ wd_228), (hts _ wd_229)⟩ ⟨mw_blind, mg_recv hK.1 hH (ci := 5) rfl (cell_5 t_12), fun U hU hW => ⟨rfl, mw_pass hH hK hA hS hU hW, mn_warm hW hn, h⟩⟩ rfl rfl hl.1 (by rw [e_7]; rfl) (lv_room (Nat.le_of_ble_eq_true rfl)) d_X_bar_44 ⟨by decide, by decide⟩) hS (fun σ_14 H locs h hH hK hS => ?_)
        refine lv_iconst (v := 1) hx hb d_X_bar_47 (by decide) ?_
        exact W.iret (v := 1) hx hb hr (fun t ht hW => ⟨⟨1, σ_14, rfl, h, mw_pass hH hK hA hS ht hW⟩, hS.F ht⟩) hS.2.2 d_X_bar_48
      · have h := h.2 c_9
        refine lv_bipush (v := (-103)) hx hb d_X_bar_32 (by decide) ?_
        exact W.iret (v := (-103)) hx hb hr (fun t ht hW => ⟨⟨(-103), σ_3, rfl, h, mw_pass hH hK hA hS ht hW⟩, hS.F ht⟩) hS.2.2 d_X_bar_34
    · have h := h.2 c_5
      refine lv_bipush (v := (-102)) hx hb d_X_bar_21 (by decide) ?_
      exact W.iret (v := (-102)) hx hb hr (fun t ht hW => ⟨⟨(-102), σ_3, rfl, h, mw_pass hH hK hA hS ht hW⟩, hS.F ht⟩) hS.2.2 d_X_bar_23
  · have h := h.2 c_4
    refine lv_bipush (v := (-101)) hx hb d_X_bar_12 (by decide) ?_
    exact W.iret (v := (-101)) hx hb hr (fun t ht hW => ⟨⟨(-101), σ_3, rfl, h, mw_pass hH hK hA hS ht hW⟩, hS.F ht⟩) hS.2.2 d_X_bar_14
def wp_X_since (σ : ST) (h0 : Nat) (p1 : Int64) (K : Int64 → ST → Prop) : Prop :=
  st_tg σ h0 = some 0 ∧ (wp_X_find σ h0 p1 (fun (r_2 : Option Nat) σ_3 =>
  (((¬ r_2 = none) → ∃ a_5 : Nat, r_2 = some a_5 ∧ st_tg σ_3 a_5 = some 5 ∧ (K ((st_J σ_3 207 a_5)) σ_3)) ∧
  ((r_2 = none) → K ((-101)) σ_3))))
abbrev ROOM_X_since : Room := { frames := 1, cells := 0, slots := 0, locals := 25 }
set_option maxHeartbeats 4000000 in
set_option maxRecDepth 100000 in
theorem mc_X_since (l : Launch) (D : va_G) (A : Nat → Prop) (σ : ST) (h0 : Nat) (p1 : Int64) (K : Int64 → ST → Prop) : Met l y_X_since ws_X_since ROOM_X_since (va_Pc [.ref h0, .long p1] (fun U => mw D A σ U ∧ mn U ∧ wp_X_since σ h0 p1 K)) (va_Ql K (mw D A) A) 0 0 A := by
  refine Met.ofW (cc := c_X_since) (maxL := 4) (ret := (some .long)) (by decide) rfl ?_
  intro p e s m args below meth c s₁ B hml hv
  obtain ⟨rfl, ⟨hH, hK, hA⟩, hn, h⟩ := hv
  have hx := B.exec
  have hb := B.bytes
  have hr := B.returns
  have hts := atoms_spec (ws := ws_X_since) B.pre
  have hown : s.vm.findClass R_X = some m.cls := findClass_of_methodNamed B.named
  have hlocks := B.notSynchronized
  have hts : ∀ w ∈ lw_g, w.before ([.ref h0, .long p1] : List Value).toArray s = true := fun w hw => hts w (List.mem_cons_of_mem _ hw)
  have hS : va_S A s.heap s.heap [] := va_S.rf
  have hl := lv_entry ([.ref h0, .long p1]) (n := 4) (Nat.le_of_ble_eq_true rfl)
  rw [lg_entry_eq]
  generalize (lg_sl ([.ref h0, .long p1]) ++ List.replicate (4 - (lg_sl ([.ref h0, .long p1])).length) Slot.unset).toArray = ls at hl ⊢
  have hl : lv_has ls 4 [(0, va_rf (some h0)), (1, .long p1)] := hl
  unfold wp_X_since at h
  refine mr_aload_n hx hb d_X_since_0 rfl (lv_at hl 0 rfl) ?_
  refine lv_lload_n hx hb d_X_since_1 rfl (lv_at hl 1 rfl) ?_
  obtain ⟨t_1, h⟩ := h
  refine ms_callq (va_runV (As := [.long p1]) (rest := []) ⟨hx, hb, hml, hown, hts⟩ (mc_X_find l D A σ h0 p1 _) ⟨(callB_of 1 hts gw_X_find rfl rfl rfl (hts _ wd_1) (hts _ wd_188) (by decide +kernel) ⟨by decide, by decide⟩), (hts _ wd_190), (hts _ wq_3)⟩ ⟨mw_blind, mg_recv hK.1 hH (ci := 0) rfl (cell_0 t_1), fun U hU hW => ⟨rfl, mw_pass hH hK hA hS hU hW, mn_warm hW hn, h⟩⟩ rfl rfl hl.1 rfl (lv_room (Nat.le_of_ble_eq_true rfl)) d_X_since_2 ⟨by decide, by decide⟩) hS (fun r_2 σ_3 H locs h hH hK hS => ?_)
  refine mr_astore_n (lv' := [(3, va_rf r_2), (0, va_rf (some h0)), (1, .long p1)]) hx hb d_X_since_5 rfl hl (by decide) rfl (fun ls hl => ?_)
  refine mr_aload_n hx hb d_X_since_6 rfl (lv_at hl 0 rfl) ?_
  refine mr_ifnonnull (x := r_2) (tgt := 16) hx hb d_X_since_7 (by decide) (fun c_4 => ?_) (fun c_4 => ?_)
  · have h := h.1 c_4
    refine mr_aload_n hx hb d_X_since_16 rfl (lv_at hl 0 rfl) ?_
    obtain ⟨a_5, e_6, t_7, h⟩ := h
    refine ms_getN (σ := σ_3) (r := r_2) (a := a_5) (fs := fl_5 σ_3 a_5) (ci := 5) (C := R_Order) (T := T_Order) (N := 11) hx hb hts in_5 hown hK hH e_6 (cell_5 t_7) rfl 7 (by decide) (va_Nw.use rfl (hn _ wd_155 rfl)) (fun _ h9 => h9) (v := .long (st_J σ_3 207 a_5)) rfl d_X_since_17 ?_
    exact W.lret (v := (st_J σ_3 207 a_5)) hx hb hr (fun t ht hW => ⟨⟨(st_J σ_3 207 a_5), σ_3, rfl, h, mw_pass hH hK hA hS ht hW⟩, hS.F ht⟩) hS.2.2 d_X_since_20
  · have h := h.2 c_4
    refine lv_ldc2 (v := (-101)) hx hb hown (hts _ wd_312) d_X_since_10 ?_
    refine lv_goto (tgt := 20) hx hb d_X_since_13 (by decide) ?_
    exact W.lret (v := (-101)) hx hb hr (fun t ht hW => ⟨⟨(-101), σ_3, rfl, h, mw_pass hH hK hA hS ht hW⟩, hS.F ht⟩) hS.2.2 d_X_since_20
def wp_Order_isUnpaid (σ : ST) (h0 : Nat) (K : Int32 → ST → Prop) : Prop :=
  st_tg σ h0 = some 5 ∧ ((((((st_I σ 206 h0)) = 0) → K 1 σ) ∧
  ((¬ ((st_I σ 206 h0)) = 0) → (((¬ ((st_I σ 206 h0)) = (2 : Int32)) → K 0 σ) ∧
  ((((st_I σ 206 h0)) = (2 : Int32)) → K 1 σ)))))
abbrev ROOM_Order_isUnpaid : Room := { frames := 0, cells := 0, slots := 0, locals := 0 }
set_option maxHeartbeats 4000000 in
set_option maxRecDepth 100000 in
theorem mc_Order_isUnpaid (l : Launch) (D : va_G) (A : Nat → Prop) (σ : ST) (h0 : Nat) (K : Int32 → ST → Prop) : Met l y_Order_isUnpaid ws_Order_isUnpaid ROOM_Order_isUnpaid (va_Pc [.ref h0] (fun U => mw D A σ U ∧ mn U ∧ wp_Order_isUnpaid σ h0 K)) (va_Qi K (mw D A) A) 0 0 A := by
  refine Met.ofW (cc := c_Order_isUnpaid) (maxL := 1) (ret := (some .boolean)) (by decide) rfl ?_
  intro p e s m args below meth c s₁ B hml hv
  obtain ⟨rfl, ⟨hH, hK, hA⟩, hn, h⟩ := hv
  have hx := B.exec
  have hb := B.bytes
  have hr := B.returns
  have hts := atoms_spec (ws := ws_Order_isUnpaid) B.pre
  have hown : s.vm.findClass R_Order = some m.cls := findClass_of_methodNamed B.named
  have hlocks := B.notSynchronized
  have hts : ∀ w ∈ lw_g, w.before ([.ref h0] : List Value).toArray s = true := fun w hw => hts w (List.mem_cons_of_mem _ hw)
  have hS : va_S A s.heap s.heap [] := va_S.rf
  have hl := lv_entry ([.ref h0]) (n := 1) (Nat.le_of_ble_eq_true rfl)
  rw [lg_entry_eq]
  generalize (lg_sl ([.ref h0]) ++ List.replicate (1 - (lg_sl ([.ref h0])).length) Slot.unset).toArray = ls at hl ⊢
  have hl : lv_has ls 1 [(0, va_rf (some h0))] := hl
  unfold wp_Order_isUnpaid at h
  refine mr_aload_n hx hb d_Order_isUnpaid_0 rfl (lv_at hl 0 rfl) ?_
  obtain ⟨t_1, h⟩ := h
  refine ms_get (σ := σ) (r := some h0) (a := h0) (fs := fl_5 σ h0) (ci := 5) (C := R_Order) (T := T_Order) (N := 11) hx hb hts in_5 hown hK hH rfl (cell_5 t_1) rfl 6 (by decide) (hts _ wd_152) (fun _ h9 => h9) (v := .int (st_I σ 206 h0)) rfl d_Order_isUnpaid_1 ?_
  refine lv_if_eq (tgt := 15) hx hb d_Order_isUnpaid_4 (by decide) (fun c_2 => ?_) (fun c_2 => ?_)
  · have h := h.1 c_2
    refine lv_iconst (v := 1) hx hb d_Order_isUnpaid_15 (by decide) ?_
    refine lv_goto (tgt := 20) hx hb d_Order_isUnpaid_16 (by decide) ?_
    exact W.zret (v := 1) hx hb hr rfl (fun t ht hW => ⟨⟨1, σ, rfl, h, mw_pass hH hK hA hS ht hW⟩, hS.F ht⟩) hS.2.2 d_Order_isUnpaid_20
  · have h := h.2 c_2
    refine mr_aload_n hx hb d_Order_isUnpaid_7 rfl (lv_at hl 0 rfl) ?_
    refine ms_get (σ := σ) (r := some h0) (a := h0) (fs := fl_5 σ h0) (ci := 5) (C := R_Order) (T := T_Order) (N := 11) hx hb hts in_5 hown hK hH rfl (cell_5 t_1) rfl 6 (by decide) (hts _ wd_152) (fun _ h9 => h9) (v := .int (st_I σ 206 h0)) rfl d_Order_isUnpaid_8 ?_
    refine lv_iconst (v := 2) hx hb d_Order_isUnpaid_11 (by decide) ?_
    refine lv_icmp_ne (tgt := 19) hx hb d_Order_isUnpaid_12 (by decide) (fun c_3 => ?_) (fun c_3 => ?_)
    · have h := h.1 c_3
      refine lv_iconst (v := 0) hx hb d_Order_isUnpaid_19 (by decide) ?_
      exact W.zret (v := 0) hx hb hr rfl (fun t ht hW => ⟨⟨0, σ, rfl, h, mw_pass hH hK hA hS ht hW⟩, hS.F ht⟩) hS.2.2 d_Order_isUnpaid_20
    · have h := h.2 c_3
      refine lv_iconst (v := 1) hx hb d_Order_isUnpaid_15 (by decide) ?_
      refine lv_goto (tgt := 20) hx hb d_Order_isUnpaid_16 (by decide) ?_
      exact W.zret (v := 1) hx hb hr rfl (fun t ht hW => ⟨⟨1, σ, rfl, h, mw_pass hH hK hA hS ht hW⟩, hS.F ht⟩) hS.2.2 d_Order_isUnpaid_20
def wp_X_replace (σ : ST) (h0 : Nat) (p1 : Int64) (K : Int32 → ST → Prop) : Prop :=
  st_tg σ h0 = some 0 ∧ (wp_X_find σ h0 p1 (fun (r_2 : Option Nat) σ_3 =>
  (((¬ r_2 = none) → ∃ a_5 : Nat, r_2 = some a_5 ∧ st_tg σ_3 a_5 = some 5 ∧ (wp_Order_isUnpaid σ_3 a_5 (fun (r_8 : Int32) σ_9 =>
  (((¬ r_8 = 0) → st_tg σ_9 h0 = some 0 ∧ ((((((st_I σ_9 3 h0)) < (300 : Int32)) → st_tg σ_9 a_5 = some 5 ∧ (wp_Order_become σ_9 a_5 4 (fun σ_15 =>
  st_tg σ_15 a_5 = some 5 ∧ (st_tg σ_15 h0 = some 0 ∧ (wp_X_addOrder σ_15 h0 ((st_R σ_15 201 a_5)) ((st_J σ_15 202 a_5)) ((st_J σ_15 203 a_5)) ((st_R σ_15 204 a_5)) ((st_I σ_15 205 a_5)) (fun (r_18 : Int32) σ_19 =>
  K r_18 σ_19)))))) ∧
  ((¬ ((st_I σ_9 3 h0)) < (300 : Int32)) → K ((-104)) σ_9)))) ∧
  ((r_8 = 0) → K ((-103)) σ_9))))) ∧
  ((r_2 = none) → K ((-101)) σ_3))))
abbrev ROOM_X_replace : Room := { frames := 3, cells := 1, slots := 11, locals := 68 }
set_option maxHeartbeats 4000000 in
set_option maxRecDepth 100000 in
theorem mc_X_replace (l : Launch) (D : va_G) (A : Nat → Prop) (σ : ST) (h0 : Nat) (p1 : Int64) (K : Int32 → ST → Prop) : Met l y_X_replace ws_X_replace ROOM_X_replace (va_Pc [.ref h0, .long p1] (fun U => mw D A σ U ∧ mn U ∧ wp_X_replace σ h0 p1 K)) (va_Qi K (mw D A) A) 1 11 A := by
  refine Met.ofW (cc := c_X_replace) (maxL := 4) (ret := (some .int)) (by decide) rfl ?_
  intro p e s m args below meth c s₁ B hml hv
  obtain ⟨rfl, ⟨hH, hK, hA⟩, hn, h⟩ := hv
  have hx := B.exec
  have hb := B.bytes
  have hr := B.returns
  have hts := atoms_spec (ws := ws_X_replace) B.pre
  have hown : s.vm.findClass R_X = some m.cls := findClass_of_methodNamed B.named
  have hlocks := B.notSynchronized
  have hts : ∀ w ∈ lw_g, w.before ([.ref h0, .long p1] : List Value).toArray s = true := fun w hw => hts w (List.mem_cons_of_mem _ hw)
  have hS : va_S A s.heap s.heap [] := va_S.rf
  have hl := lv_entry ([.ref h0, .long p1]) (n := 4) (Nat.le_of_ble_eq_true rfl)
  rw [lg_entry_eq]
  generalize (lg_sl ([.ref h0, .long p1]) ++ List.replicate (4 - (lg_sl ([.ref h0, .long p1])).length) Slot.unset).toArray = ls at hl ⊢
  have hl : lv_has ls 4 [(0, va_rf (some h0)), (1, .long p1)] := hl
  unfold wp_X_replace at h
  refine mr_aload_n hx hb d_X_replace_0 rfl (lv_at hl 0 rfl) ?_
  refine lv_lload_n hx hb d_X_replace_1 rfl (lv_at hl 1 rfl) ?_
  obtain ⟨t_1, h⟩ := h
  refine ms_callq (va_runV (As := [.long p1]) (rest := []) ⟨hx, hb, hml, hown, hts⟩ (mc_X_find l D A σ h0 p1 _) ⟨(callB_of 1 hts gw_X_find rfl rfl rfl (hts _ wd_1) (hts _ wd_188) (by decide +kernel) ⟨by decide, by decide⟩), (hts _ wd_190), (hts _ wq_3)⟩ ⟨mw_blind, mg_recv hK.1 hH (ci := 0) rfl (cell_0 t_1), fun U hU hW => ⟨rfl, mw_pass hH hK hA hS hU hW, mn_warm hW hn, h⟩⟩ rfl rfl hl.1 rfl (lv_room (Nat.le_of_ble_eq_true rfl)) d_X_replace_2 ⟨by decide, by decide⟩) hS (fun r_2 σ_3 H locs h hH hK hS => ?_)
  refine mr_astore_n (lv' := [(3, va_rf r_2), (0, va_rf (some h0)), (1, .long p1)]) hx hb d_X_replace_5 rfl hl (by decide) rfl (fun ls hl => ?_)
  refine mr_aload_n hx hb d_X_replace_6 rfl (lv_at hl 0 rfl) ?_
  refine mr_ifnonnull (x := r_2) (tgt := 13) hx hb d_X_replace_7 (by decide) (fun c_4 => ?_) (fun c_4 => ?_)
  · have h := h.1 c_4
    refine mr_aload_n hx hb d_X_replace_13 rfl (lv_at hl 0 rfl) ?_
    obtain ⟨a_5, e_6, t_7, h⟩ := h
    refine ms_calli (va_runV (As := []) (rest := []) ⟨hx, hb, hml, hown, hts⟩ (mc_Order_isUnpaid l D A σ_3 a_5 _) ⟨(callB_of 0 hts gw_Order_isUnpaid rfl rfl rfl (hts _ wd_5) (hts _ wd_317) (by decide +kernel) ⟨by decide, by decide⟩), (hts _ wd_318), (hts _ wd_319)⟩ ⟨mw_blind, mg_recv hK.1 hH (ci := 5) rfl (cell_5 t_7), fun U hU hW => ⟨rfl, mw_pass hH hK hA hS hU hW, mn_warm hW hn, h⟩⟩ rfl rfl hl.1 (by rw [e_6]; rfl) (lv_room (Nat.le_of_ble_eq_true rfl)) d_X_replace_14 ⟨by decide, by decide⟩) hS (fun r_8 σ_9 H locs h hH hK hS => ?_)
    refine lv_if_ne (tgt := 23) hx hb d_X_replace_17 (by decide) (fun c_10 => ?_) (fun c_10 => ?_)
    · have h := h.1 c_10
      refine mr_aload_n hx hb d_X_replace_23 rfl (lv_at hl 1 rfl) ?_
      obtain ⟨t_11, h⟩ := h
      refine ms_get (σ := σ_9) (r := some h0) (a := h0) (fs := fl_0 σ_9 h0) (ci := 0) (C := R_X) (T := T_X) (N := 10) hx hb hts in_0 hown hK hH rfl (cell_0 t_11) rfl 3 (by decide) (hts _ wd_82) (fun _ h9 => h9) (v := .int (st_I σ_9 3 h0)) rfl d_X_replace_24 ?_
      refine lv_sipush (v := 300) hx hb d_X_replace_27 (by decide) ?_
      refine lv_icmp_lt (tgt := 36) hx hb d_X_replace_30 (by decide) (fun c_12 => ?_) (fun c_12 => ?_)
      · have h := h.1 c_12
        refine mr_aload_n hx hb d_X_replace_36 rfl (lv_at hl 0 rfl) ?_
        refine lv_iconst (v := 4) hx hb d_X_replace_37 (by decide) ?_
        obtain ⟨t_13, h⟩ := h
        refine ms_callv (va_runV (As := [.int 4]) (rest := []) ⟨hx, hb, hml, hown, hts⟩ (mc_Order_become l D A σ_9 a_5 4 _) ⟨(callB_of 1 hts gw_Order_become rfl rfl rfl (hts _ wd_5) (hts _ wd_227) (by decide +kernel) ⟨by decide, by decide⟩), (hts _ wd_228), (hts _ wd_229)⟩ ⟨mw_blind, mg_recv hK.1 hH (ci := 5) rfl (cell_5 t_13), fun U hU hW => ⟨rfl, mw_pass hH hK hA hS hU hW, mn_warm hW hn, h⟩⟩ rfl rfl hl.1 (by rw [e_6]; rfl) (lv_room (Nat.le_of_ble_eq_true rfl)) d_X_replace_38 ⟨by decide, by decide⟩) hS (fun σ_15 H locs h hH hK hS => ?_)
        refine mr_aload_n hx hb d_X_replace_41 rfl (lv_at hl 1 rfl) ?_
        refine mr_aload_n hx hb d_X_replace_42 rfl (lv_at hl 0 rfl) ?_
        obtain ⟨t_16, h⟩ := h
        refine ms_getN (σ := σ_15) (r := r_2) (a := a_5) (fs := fl_5 σ_15 a_5) (ci := 5) (C := R_Order) (T := T_Order) (N := 11) hx hb hts in_5 hown hK hH e_6 (cell_5 t_16) rfl 1 (by decide) (va_Nw.use rfl (hn _ wd_142 rfl)) (fun _ h9 => h9) (v := va_rf (st_R σ_15 201 a_5)) rfl d_X_replace_43 ?_
        refine mr_aload_n hx hb d_X_replace_46 rfl (lv_at hl 0 rfl) ?_
        refine ms_getN (σ := σ_15) (r := r_2) (a := a_5) (fs := fl_5 σ_15 a_5) (ci := 5) (C := R_Order) (T := T_Order) (N := 11) hx hb hts in_5 hown hK hH e_6 (cell_5 t_16) rfl 2 (by decide) (va_Nw.use rfl (hn _ wd_144 rfl)) (fun _ h9 => h9) (v := .long (st_J σ_15 202 a_5)) rfl d_X_replace_47 ?_
        refine mr_aload_n hx hb d_X_replace_50 rfl (lv_at hl 0 rfl) ?_
        refine ms_getN (σ := σ_15) (r := r_2) (a := a_5) (fs := fl_5 σ_15 a_5) (ci := 5) (C := R_Order) (T := T_Order) (N := 11) hx hb hts in_5 hown hK hH e_6 (cell_5 t_16) rfl 3 (by decide) (va_Nw.use rfl (hn _ wd_146 rfl)) (fun _ h9 => h9) (v := .long (st_J σ_15 203 a_5)) rfl d_X_replace_51 ?_
        refine mr_aload_n hx hb d_X_replace_54 rfl (lv_at hl 0 rfl) ?_
        refine ms_getN (σ := σ_15) (r := r_2) (a := a_5) (fs := fl_5 σ_15 a_5) (ci := 5) (C := R_Order) (T := T_Order) (N := 11) hx hb hts in_5 hown hK hH e_6 (cell_5 t_16) rfl 4 (by decide) (va_Nw.use rfl (hn _ wd_148 rfl)) (fun _ h9 => h9) (v := va_rf (st_R σ_15 204 a_5)) rfl d_X_replace_55 ?_
        refine mr_aload_n hx hb d_X_replace_58 rfl (lv_at hl 0 rfl) ?_
        refine ms_getN (σ := σ_15) (r := r_2) (a := a_5) (fs := fl_5 σ_15 a_5) (ci := 5) (C := R_Order) (T := T_Order) (N := 11) hx hb hts in_5 hown hK hH e_6 (cell_5 t_16) rfl 5 (by decide) (va_Nw.use rfl (hn _ wd_151 rfl)) (fun _ h9 => h9) (v := .int (st_I σ_15 205 a_5)) rfl d_X_replace_59 ?_
        obtain ⟨t_17, h⟩ := h
        refine ms_calli (va_runV (As := [va_rf (st_R σ_15 201 a_5), .long (st_J σ_15 202 a_5), .long (st_J σ_15 203 a_5), va_rf (st_R σ_15 204 a_5), .int (st_I σ_15 205 a_5)]) (rest := []) ⟨hx, hb, hml, hown, hts⟩ (mc_X_addOrder l D A σ_15 h0 ((st_R σ_15 201 a_5)) ((st_J σ_15 202 a_5)) ((st_J σ_15 203 a_5)) ((st_R σ_15 204 a_5)) ((st_I σ_15 205 a_5)) _) ⟨(callB_of 5 hts gw_X_addOrder rfl rfl rfl (hts _ wd_1) (hts _ wd_126) (by decide +kernel) ⟨by decide, by decide⟩), (hts _ wd_128), (hts _ wq_2)⟩ ⟨mw_blind, mg_recv hK.1 hH (ci := 0) rfl (cell_0 t_17), fun U hU hW => ⟨rfl, mw_pass hH hK hA hS hU hW, mn_warm hW hn, h⟩⟩ rfl rfl hl.1 rfl (lv_room (Nat.le_of_ble_eq_true rfl)) d_X_replace_62 ⟨by decide, by decide⟩) hS (fun r_18 σ_19 H locs h hH hK hS => ?_)
        refine W.cs (cells' := 1) (slots' := 11) rfl rfl ?_
        exact W.iret (v := r_18) hx hb hr (fun t ht hW => ⟨⟨r_18, σ_19, rfl, h, mw_pass hH hK hA hS ht hW⟩, hS.F ht⟩) hS.2.2 d_X_replace_65
      · have h := h.2 c_12
        refine lv_bipush (v := (-104)) hx hb d_X_replace_33 (by decide) ?_
        refine W.widen (k := 1) (n := 11) (by decide) (by decide) ?_
        exact W.iret (v := (-104)) hx hb hr (fun t ht hW => ⟨⟨(-104), σ_9, rfl, h, mw_pass hH hK hA hS ht hW⟩, hS.F ht⟩) hS.2.2 d_X_replace_35
    · have h := h.2 c_10
      refine lv_bipush (v := (-103)) hx hb d_X_replace_20 (by decide) ?_
      refine W.widen (k := 1) (n := 11) (by decide) (by decide) ?_
      exact W.iret (v := (-103)) hx hb hr (fun t ht hW => ⟨⟨(-103), σ_9, rfl, h, mw_pass hH hK hA hS ht hW⟩, hS.F ht⟩) hS.2.2 d_X_replace_22
  · have h := h.2 c_4
    refine lv_bipush (v := (-101)) hx hb d_X_replace_10 (by decide) ?_
    refine W.widen (k := 1) (n := 11) (by decide) (by decide) ?_
    exact W.iret (v := (-101)) hx hb hr (fun t ht hW => ⟨⟨(-101), σ_3, rfl, h, mw_pass hH hK hA hS ht hW⟩, hS.F ht⟩) hS.2.2 d_X_replace_12
def wb_X_emptyListOf_2 (h0 : Nat) (K : ST → Prop) : Nat → ST → Option Nat → Int32 → Prop
  | 0, _, _, _ => False
  | n + 1, σ, v1, v2 =>
  st_tg σ h0 = some 0 ∧ ((((((st_I σ 3 h0)) ≤ v2) → K σ) ∧
  ((¬ ((st_I σ 3 h0)) ≤ v2) → ∃ a_3 : Nat, (st_R σ 2 h0) = some a_3 ∧ st_tg σ a_3 = some 315 ∧ (vp_in v2 (st_ln σ a_3) ∧ ((((((st_eR σ a_3 (Int32.toNatClampNeg v2))) = none) → ∀ x_8 : Int32, x_8 = v2 + 1 → (wb_X_emptyListOf_2 h0 K n σ v1 x_8)) ∧
  ((¬ ((st_eR σ a_3 (Int32.toNatClampNeg v2))) = none) → ∃ a_10 : Nat, (st_eR σ a_3 (Int32.toNatClampNeg v2)) = some a_10 ∧ st_tg σ a_10 = some 5 ∧ ((((¬ ((st_R σ 208 a_10)) = v1) → ∀ x_14 : Int32, x_14 = v2 + 1 → (wb_X_emptyListOf_2 h0 K n σ v1 x_14)) ∧
  ((((st_R σ 208 a_10)) = v1) → wp_Order_leaveList σ a_10 (fun σ_17 =>
  ∀ x_18 : Int32, x_18 = v2 + 1 → (wb_X_emptyListOf_2 h0 K n σ_17 v1 x_18))))))))))))
def wp_X_emptyListOf (σ : ST) (h0 : Nat) (p1 : Option Nat) (K : ST → Prop) : Prop :=
  ∃ n : Nat, wb_X_emptyListOf_2 h0 K n σ p1 0
abbrev ROOM_X_emptyListOf : Room := { frames := 1, cells := 0, slots := 0, locals := 20 }
set_option maxHeartbeats 4000000 in
set_option maxRecDepth 100000 in
theorem mc_X_emptyListOf (l : Launch) (D : va_G) (A : Nat → Prop) (σ : ST) (h0 : Nat) (p1 : Option Nat) (K : ST → Prop) : Met l y_X_emptyListOf ws_X_emptyListOf ROOM_X_emptyListOf (va_Pc [.ref h0, va_rf p1] (fun U => mw D A σ U ∧ mn U ∧ wp_X_emptyListOf σ h0 p1 K)) (va_Qv K (mw D A) A) 0 0 A := by
  refine Met.ofW (cc := c_X_emptyListOf) (maxL := 4) (ret := none) (by decide) rfl ?_
  intro p e s m args below meth c s₁ B hml hv
  obtain ⟨rfl, ⟨hH, hK, hA⟩, hn, h⟩ := hv
  have hx := B.exec
  have hb := B.bytes
  have hr := B.returns
  have hts := atoms_spec (ws := ws_X_emptyListOf) B.pre
  have hown : s.vm.findClass R_X = some m.cls := findClass_of_methodNamed B.named
  have hlocks := B.notSynchronized
  have hts : ∀ w ∈ lw_g, w.before ([.ref h0, va_rf p1] : List Value).toArray s = true := fun w hw => hts w (List.mem_cons_of_mem _ hw)
  have b_2 : ∀ (n : Nat), ∀ (σ : ST) (v1 : Option Nat) (v2 : Int32) (H : Heap) (locs : List Loc) (ls : Array Slot), mg_H D vwCl A (st_cell σ) H → mk_K D σ s → va_S A s.heap H locs → lv_has ls 4 [(0, va_rf (some h0)), (1, va_rf v1), (2, .int v2)] → wb_X_emptyListOf_2 h0 K n σ v1 v2 → W p l e (headSpec ws_X_emptyListOf ROOM_X_emptyListOf).room s m ([.ref h0, va_rf p1] : List Value).toArray below meth c H locs 0 0 (MQ below (va_Qv K (mw D A) A) ([.ref h0, va_rf p1] : List Value).toArray s 0 0 A) (F0 m 2 ls []) := by
    intro n
    induction n with
    | zero =>
      intro σ v1 v2 H locs ls hH hK hS hl h
      exact h.elim
    | succ n ih =>
      intro σ v1 v2 H locs ls hH hK hS hl h
      unfold wb_X_emptyListOf_2 at h
      refine lv_iload_n hx hb d_X_emptyListOf_2 rfl (lv_at hl 2 rfl) ?_
      refine mr_aload_n hx hb d_X_emptyListOf_3 rfl (lv_at hl 0 rfl) ?_
      obtain ⟨t_1, h⟩ := h
      refine ms_get (σ := σ) (r := some h0) (a := h0) (fs := fl_0 σ h0) (ci := 0) (C := R_X) (T := T_X) (N := 10) hx hb hts in_0 hown hK hH rfl (cell_0 t_1) rfl 3 (by decide) (hts _ wd_82) (fun _ h9 => h9) (v := .int (st_I σ 3 h0)) rfl d_X_emptyListOf_4 ?_
      refine lv_icmp_ge (tgt := 39) hx hb d_X_emptyListOf_7 (by decide) (fun c_2 => ?_) (fun c_2 => ?_)
      · have h := h.1 c_2
        exact W.vret hx hb hr (fun t ht hW => ⟨⟨σ, rfl, h, mw_pass hH hK hA hS ht hW⟩, hS.F ht⟩) hS.2.2 d_X_emptyListOf_39
      · have h := h.2 c_2
        refine mr_aload_n hx hb d_X_emptyListOf_10 rfl (lv_at hl 0 rfl) ?_
        refine ms_get (σ := σ) (r := some h0) (a := h0) (fs := fl_0 σ h0) (ci := 0) (C := R_X) (T := T_X) (N := 10) hx hb hts in_0 hown hK hH rfl (cell_0 t_1) rfl 2 (by decide) (hts _ wd_81) (fun _ h9 => h9) (v := va_rf (st_R σ 2 h0)) rfl d_X_emptyListOf_11 ?_
        refine lv_iload_n hx hb d_X_emptyListOf_14 rfl (lv_at hl 2 rfl) ?_
        obtain ⟨a_3, e_4, t_5, h⟩ := h
        obtain ⟨b_6, h⟩ := h
        refine ms_aald (σ := σ) (r := (st_R σ 2 h0)) (a := a_3) hx hb hK hH e_4 t_5 rfl (cell_315 t_5) b_6 d_X_emptyListOf_15 ?_
        refine mr_astore_n (lv' := [(3, va_rf (st_eR σ a_3 (Int32.toNatClampNeg v2))), (0, va_rf (some h0)), (1, va_rf v1), (2, .int v2)]) hx hb d_X_emptyListOf_16 rfl hl (by decide) rfl (fun ls hl => ?_)
        refine mr_aload_n hx hb d_X_emptyListOf_17 rfl (lv_at hl 0 rfl) ?_
        refine mr_ifnull (x := (st_eR σ a_3 (Int32.toNatClampNeg v2))) (tgt := 33) hx hb d_X_emptyListOf_18 (by decide) (fun c_7 => ?_) (fun c_7 => ?_)
        · have h := h.1 c_7
          obtain ⟨x_8, q_9⟩ : ∃ y : Int32, y = v2 + 1 := ⟨_, rfl⟩
          have h := h x_8 q_9
          refine lv_iinc (v := x_8) (lv' := [(2, .int x_8), (3, va_rf (st_eR σ a_3 (Int32.toNatClampNeg v2))), (0, va_rf (some h0)), (1, va_rf v1)]) hx hb d_X_emptyListOf_33 hl (k := 3) rfl (by rw [q_9]; rfl) (by decide) (by simp [List.filter, cat_rf, cat_i, cat_l, cat_r]) (fun ls hl => ?_)
          refine lv_goto (tgt := 2) hx hb d_X_emptyListOf_36 (by decide) ?_
          exact ih _ _ _ _ _ _ hH hK hS (lv_sub hl [2, 3, 0] rfl) h
        · have h := h.2 c_7
          refine mr_aload_n hx hb d_X_emptyListOf_21 rfl (lv_at hl 0 rfl) ?_
          obtain ⟨a_10, e_11, t_12, h⟩ := h
          refine ms_getN (σ := σ) (r := (st_eR σ a_3 (Int32.toNatClampNeg v2))) (a := a_10) (fs := fl_5 σ a_10) (ci := 5) (C := R_Order) (T := T_Order) (N := 11) hx hb hts in_5 hown hK hH e_11 (cell_5 t_12) rfl 8 (by decide) (va_Nw.use rfl (hn _ wd_158 rfl)) (fun _ h9 => h9) (v := va_rf (st_R σ 208 a_10)) rfl d_X_emptyListOf_22 ?_
          refine mr_aload_n hx hb d_X_emptyListOf_25 rfl (lv_at hl 2 rfl) ?_
          refine lv_acmp_ne (rx := (st_R σ 208 a_10)) (ry := v1) (tgt := 33) hx hb d_X_emptyListOf_26 (by decide) (fun c_13 => ?_) (fun c_13 => ?_)
          · have h := h.1 c_13
            obtain ⟨x_14, q_15⟩ : ∃ y : Int32, y = v2 + 1 := ⟨_, rfl⟩
            have h := h x_14 q_15
            refine lv_iinc (v := x_14) (lv' := [(2, .int x_14), (3, va_rf (st_eR σ a_3 (Int32.toNatClampNeg v2))), (0, va_rf (some h0)), (1, va_rf v1)]) hx hb d_X_emptyListOf_33 hl (k := 3) rfl (by rw [q_15]; rfl) (by decide) (by simp [List.filter, cat_rf, cat_i, cat_l, cat_r]) (fun ls hl => ?_)
            refine lv_goto (tgt := 2) hx hb d_X_emptyListOf_36 (by decide) ?_
            exact ih _ _ _ _ _ _ hH hK hS (lv_sub hl [2, 3, 0] rfl) h
          · have h := h.2 c_13
            refine mr_aload_n hx hb d_X_emptyListOf_29 rfl (lv_at hl 0 rfl) ?_
            refine ms_callv (va_runV (As := []) (rest := []) ⟨hx, hb, hml, hown, hts⟩ (mc_Order_leaveList l D A σ a_10 _) ⟨(callB_of 0 hts gw_Order_leaveList rfl rfl rfl (hts _ wd_5) (hts _ wd_329) (by decide +kernel) ⟨by decide, by decide⟩), (hts _ wd_232), (hts _ wd_233)⟩ ⟨mw_blind, mg_recv hK.1 hH (ci := 5) rfl (cell_5 t_12), fun U hU hW => ⟨rfl, mw_pass hH hK hA hS hU hW, mn_warm hW hn, h⟩⟩ rfl rfl hl.1 (by rw [e_11]; rfl) (lv_room (Nat.le_of_ble_eq_true rfl)) d_X_emptyListOf_30 ⟨by decide, by decide⟩) hS (fun σ_17 H locs h hH hK hS => ?_)
            obtain ⟨x_18, q_19⟩ : ∃ y : Int32, y = v2 + 1 := ⟨_, rfl⟩
            have h := h x_18 q_19
            refine lv_iinc (v := x_18) (lv' := [(2, .int x_18), (3, va_rf (st_eR σ a_3 (Int32.toNatClampNeg v2))), (0, va_rf (some h0)), (1, va_rf v1)]) hx hb d_X_emptyListOf_33 hl (k := 3) rfl (by rw [q_19]; rfl) (by decide) (by simp [List.filter, cat_rf, cat_i, cat_l, cat_r]) (fun ls hl => ?_)
            refine lv_goto (tgt := 2) hx hb d_X_emptyListOf_36 (by decide) ?_
            exact ih _ _ _ _ _ _ hH hK hS (lv_sub hl [2, 3, 0] rfl) h
  have hS : va_S A s.heap s.heap [] := va_S.rf
  have hl := lv_entry ([.ref h0, va_rf p1]) (n := 4) (by simp [lg_sl, cat_rf, cat_i, cat_l, cat_r])
  rw [lg_entry_eq]
  generalize (lg_sl ([.ref h0, va_rf p1]) ++ List.replicate (4 - (lg_sl ([.ref h0, va_rf p1])).length) Slot.unset).toArray = ls at hl ⊢
  have hle : lv_args 0 [.ref h0, va_rf p1] = [(0, .ref h0), (1, va_rf p1)] := by simp [lv_args, cat_rf, cat_i, cat_l, cat_r]
  rw [hle] at hl
  have hl : lv_has ls 4 [(0, va_rf (some h0)), (1, va_rf p1)] := hl
  unfold wp_X_emptyListOf at h
  refine lv_iconst (v := 0) hx hb d_X_emptyListOf_0 (by decide) ?_
  refine lv_istore_n (lv' := [(2, .int 0), (0, va_rf (some h0)), (1, va_rf p1)]) hx hb d_X_emptyListOf_1 rfl hl (by decide) (by simp [List.filter, cat_rf, cat_i, cat_l, cat_r]) (fun ls hl => ?_)
  obtain ⟨n, h⟩ := h
  exact b_2 n _ _ _ _ _ _ hH hK hS (lv_sub hl [1, 2, 0] rfl) h
