def wp_Office_init (σ : ST) (h0 : Nat) (p1 : Int32) (K : ST → Prop) : Prop :=
  st_tg σ h0 = some 4 ∧ (∀ σ_2 : ST, σ_2 = st_sJ σ 162 h0 ((-1)) → (∀ σ_5 : ST, σ_5 = st_sJ σ_2 166 h0 ((-1)) → (∀ σ_8 : ST, σ_8 = st_sI σ_5 160 h0 p1 → (K σ_8))))
abbrev ROOM_Office_init : Room := { frames := 1, cells := 0, slots := 0, locals := 12 }
set_option maxHeartbeats 4000000 in
set_option maxRecDepth 100000 in
theorem mc_Office_init (l : Launch) (D : va_G) (A : Nat → Prop) (σ : ST) (h0 : Nat) (p1 : Int32) (K : ST → Prop) : Met l y_Office_init ws_Office_init ROOM_Office_init (va_Pc [.ref h0, .int p1] (fun U => mw D A σ U ∧ mn U ∧ wp_Office_init σ h0 p1 K)) (va_Qv K (mw D A) A) 0 0 A := by
  refine Met.ofW (cc := c_Office_init) (maxL := 2) (ret := none) (by decide) rfl ?_
  intro p e s m args below meth c s₁ B hml hv
  obtain ⟨rfl, ⟨hH, hK, hA⟩, hn, h⟩ := hv
  have hx := B.exec
  have hb := B.bytes
  have hr := B.returns
  have hts := atoms_spec (ws := ws_Office_init) B.pre
  have hown : s.vm.findClass R_Office = some m.cls := findClass_of_methodNamed B.named
  have hlocks := B.notSynchronized
  have hin : meth.name = "<init>" := (name_of_methodNamed B.named B.method).1
  have hts : ∀ w ∈ lw_g, w.before ([.ref h0, .int p1] : List Value).toArray s = true := fun w hw => hts w (List.mem_cons_of_mem _ hw)
  have hS : va_S A s.heap s.heap [] := va_S.rf
  have hl := lv_entry ([.ref h0, .int p1]) (n := 2) (Nat.le_of_ble_eq_true rfl)
  rw [lg_entry_eq]
  generalize (lg_sl ([.ref h0, .int p1]) ++ List.replicate (2 - (lg_sl ([.ref h0, .int p1])).length) Slot.unset).toArray = ls at hl ⊢
  have hl : lv_has ls 2 [(0, va_rf (some h0)), (1, .int p1)] := hl
  unfold wp_Office_init at h
  refine mr_aload_n hx hb d_Office_init_0 rfl (lv_at hl 0 rfl) ?_
  refine W.objInit hx hb hown (hts _ wd_31) (hts _ wd_15) (hts _ wd_16) rfl (by rw [hml]; exact hl.1) rfl d_Office_init_1 (Nat.le_of_ble_eq_true rfl) (Nat.le_of_ble_eq_true rfl) ?_
  refine W.eq (g2 := F0 m 4 ls []) rfl ?_
  refine mr_aload_n hx hb d_Office_init_4 rfl (lv_at hl 0 rfl) ?_
  refine lv_ldc2 (v := (-1)) hx hb hown (hts _ wd_32) d_Office_init_5 ?_
  obtain ⟨t_1, h⟩ := h
  obtain ⟨σ_2, z_3⟩ : ∃ y : ST, y = st_sJ σ 162 h0 ((-1)) := ⟨_, rfl⟩
  have h := h σ_2 z_3
  refine ms_put (σ := σ) (r := some h0) (a := h0) (fs := fl_4 σ h0) (ci := 4) (C := R_Office) (T := T_Office) (N := 9) (v := .long (-1)) (ty := .long) hx hb hts in_4 ty_Office ty_Office_ok nm_Office hown hK hH hS rfl (cell_4 t_1) rfl 2 (by decide) (hts _ wd_37) (fun _ h9 => h9) rfl (by decide +kernel) rfl rfl (Nat.le_of_ble_eq_true rfl) d_Office_init_8 (σ1 := σ_2) (by rw [z_3]; exact put_4_2 σ h0 ((-1)) t_1) (by rw [z_3]; rfl) (by rw [z_3]; rfl) (fun H locs hH hK hS => ?_)
  have t_4 : st_tg σ_2 h0 = some 4 := by rw [z_3]; exact t_1
  refine mr_aload_n hx hb d_Office_init_11 rfl (lv_at hl 0 rfl) ?_
  refine lv_ldc2 (v := (-1)) hx hb hown (hts _ wd_32) d_Office_init_12 ?_
  obtain ⟨σ_5, z_6⟩ : ∃ y : ST, y = st_sJ σ_2 166 h0 ((-1)) := ⟨_, rfl⟩
  have h := h σ_5 z_6
  refine ms_put (σ := σ_2) (r := some h0) (a := h0) (fs := fl_4 σ_2 h0) (ci := 4) (C := R_Office) (T := T_Office) (N := 9) (v := .long (-1)) (ty := .long) hx hb hts in_4 ty_Office ty_Office_ok nm_Office hown hK hH hS rfl (cell_4 t_4) rfl 6 (by decide) (hts _ wd_44) (fun _ h9 => h9) rfl (by decide +kernel) rfl rfl (Nat.le_of_ble_eq_true rfl) d_Office_init_15 (σ1 := σ_5) (by rw [z_6]; exact put_4_6 σ_2 h0 ((-1)) t_4) (by rw [z_6]; rfl) (by rw [z_6]; rfl) (fun H locs hH hK hS => ?_)
  have t_7 : st_tg σ_5 h0 = some 4 := by rw [z_6]; exact t_4
  refine mr_aload_n hx hb d_Office_init_18 rfl (lv_at hl 0 rfl) ?_
  refine lv_iload_n hx hb d_Office_init_19 rfl (lv_at hl 1 rfl) ?_
  obtain ⟨σ_8, z_9⟩ : ∃ y : ST, y = st_sI σ_5 160 h0 p1 := ⟨_, rfl⟩
  have h := h σ_8 z_9
  refine ms_putF (σ := σ_5) (r := some h0) (a := h0) (fs := fl_4 σ_5 h0) (ci := 4) (C := R_Office) (T := T_Office) (N := 9) (v := .int p1) (ty := .int) hx hb hts in_4 ty_Office ty_Office_ok nm_Office hown hK hH hS rfl (cell_4 t_7) rfl 0 (by decide) (hts _ wd_33) (fun _ h9 => h9) rfl hin rfl (by decide +kernel) rfl rfl (Nat.le_of_ble_eq_true rfl) d_Office_init_20 (σ1 := σ_8) (by rw [z_9]; exact put_4_0 σ_5 h0 p1 t_7) (by rw [z_9]; rfl) (by rw [z_9]; rfl) (fun H locs hH hK hS => ?_)
  have t_10 : st_tg σ_8 h0 = some 4 := by rw [z_9]; exact t_7
  exact W.vret hx hb hr (fun t ht hW => ⟨⟨σ_8, rfl, h, mw_pass hH hK hA hS ht hW⟩, hS.F ht⟩) hS.2.2 d_Office_init_23
def wp_Currency_init (σ : ST) (h0 : Nat) (K : ST → Prop) : Prop :=
  st_tg σ h0 = some 3 ∧ (∀ σ_2 : ST, σ_2 = st_sJ σ 120 h0 1000 → (K σ_2))
abbrev ROOM_Currency_init : Room := { frames := 1, cells := 0, slots := 0, locals := 12 }
set_option maxHeartbeats 4000000 in
set_option maxRecDepth 100000 in
theorem mc_Currency_init (l : Launch) (D : va_G) (A : Nat → Prop) (σ : ST) (h0 : Nat) (K : ST → Prop) : Met l y_Currency_init ws_Currency_init ROOM_Currency_init (va_Pc [.ref h0] (fun U => mw D A σ U ∧ mn U ∧ wp_Currency_init σ h0 K)) (va_Qv K (mw D A) A) 0 0 A := by
  refine Met.ofW (cc := c_Currency_init) (maxL := 1) (ret := none) (by decide) rfl ?_
  intro p e s m args below meth c s₁ B hml hv
  obtain ⟨rfl, ⟨hH, hK, hA⟩, hn, h⟩ := hv
  have hx := B.exec
  have hb := B.bytes
  have hr := B.returns
  have hts := atoms_spec (ws := ws_Currency_init) B.pre
  have hown : s.vm.findClass R_Currency = some m.cls := findClass_of_methodNamed B.named
  have hlocks := B.notSynchronized
  have hin : meth.name = "<init>" := (name_of_methodNamed B.named B.method).1
  have hts : ∀ w ∈ lw_g, w.before ([.ref h0] : List Value).toArray s = true := fun w hw => hts w (List.mem_cons_of_mem _ hw)
  have hS : va_S A s.heap s.heap [] := va_S.rf
  have hl := lv_entry ([.ref h0]) (n := 1) (Nat.le_of_ble_eq_true rfl)
  rw [lg_entry_eq]
  generalize (lg_sl ([.ref h0]) ++ List.replicate (1 - (lg_sl ([.ref h0])).length) Slot.unset).toArray = ls at hl ⊢
  have hl : lv_has ls 1 [(0, va_rf (some h0))] := hl
  unfold wp_Currency_init at h
  refine mr_aload_n hx hb d_Currency_init_0 rfl (lv_at hl 0 rfl) ?_
  refine W.objInit hx hb hown (hts _ wd_71) (hts _ wd_15) (hts _ wd_16) rfl (by rw [hml]; exact hl.1) rfl d_Currency_init_1 (Nat.le_of_ble_eq_true rfl) (Nat.le_of_ble_eq_true rfl) ?_
  refine W.eq (g2 := F0 m 4 ls []) rfl ?_
  refine mr_aload_n hx hb d_Currency_init_4 rfl (lv_at hl 0 rfl) ?_
  refine lv_ldc2 (v := 1000) hx hb hown (hts _ wd_72) d_Currency_init_5 ?_
  obtain ⟨t_1, h⟩ := h
  obtain ⟨σ_2, z_3⟩ : ∃ y : ST, y = st_sJ σ 120 h0 1000 := ⟨_, rfl⟩
  have h := h σ_2 z_3
  refine ms_put (σ := σ) (r := some h0) (a := h0) (fs := fl_3 σ h0) (ci := 3) (C := R_Currency) (T := T_Currency) (N := 1) (v := .long 1000) (ty := .long) hx hb hts in_3 ty_Currency ty_Currency_ok nm_Currency hown hK hH hS rfl (cell_3 t_1) rfl 0 (by decide) (hts _ wd_73) (fun _ h9 => h9) rfl (by decide +kernel) rfl rfl (Nat.le_of_ble_eq_true rfl) d_Currency_init_8 (σ1 := σ_2) (by rw [z_3]; exact put_3_0 σ h0 1000 t_1) (by rw [z_3]; rfl) (by rw [z_3]; rfl) (fun H locs hH hK hS => ?_)
  have t_4 : st_tg σ_2 h0 = some 3 := by rw [z_3]; exact t_1
  exact W.vret hx hb hr (fun t ht hW => ⟨⟨σ_2, rfl, h, mw_pass hH hK hA hS ht hW⟩, hS.F ht⟩) hS.2.2 d_Currency_init_11
def wb_X_init_87 (h0 : Nat) (K : ST → Prop) : Nat → ST → Int32 → Prop
  | 0, _, _ => False
  | n + 1, σ, v1 =>
  ((((4 : Int32) ≤ v1) → K σ) ∧
  ((¬ (4 : Int32) ≤ v1) → st_tg σ h0 = some 0 ∧ (∀ q_100 : Nat, st_tg σ q_100 = none → ∀ σ_101 : ST, σ_101 = st_new σ q_100 3 → (wp_Currency_init σ_101 q_100 (fun σ_107 =>
  ∃ a_108 : Nat, (st_R σ 1 h0) = some a_108 ∧ st_tg σ_107 a_108 = some 313 ∧ (vp_in v1 (st_ln σ_107 a_108) ∧ ((∀ y : Nat, some q_100 = some y → st_tg σ_107 y = some 3) ∧ (∀ σ_113 : ST, σ_113 = st_uR σ_107 a_108 (Int32.toNatClampNeg v1) (some q_100) → (∀ x_116 : Int32, x_116 = v1 + 1 → (wb_X_init_87 h0 K n σ_113 x_116))))))))))
def wb_X_init_59 (h0 : Nat) (K : ST → Prop) : Nat → ST → Int32 → Prop
  | 0, _, _ => False
  | n + 1, σ, v1 =>
  ((((8 : Int32) ≤ v1) → ∃ n : Nat, n ≤ 5 ∧ wb_X_init_87 h0 K n σ 0) ∧
  ((¬ (8 : Int32) ≤ v1) → st_tg σ h0 = some 0 ∧ (∀ q_119 : Nat, st_tg σ q_119 = none → ∀ σ_120 : ST, σ_120 = st_new σ q_119 4 → (wp_Office_init σ_120 q_119 v1 (fun σ_126 =>
  ∃ a_127 : Nat, (st_R σ 0 h0) = some a_127 ∧ st_tg σ_126 a_127 = some 314 ∧ (vp_in v1 (st_ln σ_126 a_127) ∧ ((∀ y : Nat, some q_119 = some y → st_tg σ_126 y = some 4) ∧ (∀ σ_132 : ST, σ_132 = st_uR σ_126 a_127 (Int32.toNatClampNeg v1) (some q_119) → (∀ x_135 : Int32, x_135 = v1 + 1 → (wb_X_init_59 h0 K n σ_132 x_135))))))))))
def wp_X_init (σ : ST) (h0 : Nat) (K : ST → Prop) : Prop :=
  ∀ (q_1 : Nat) (C_2 : ClassId), st_tg σ q_1 = none → ∀ σ_3 : ST, σ_3 = st_arr σ q_1 314 C_2 8 → (st_tg σ_3 h0 = some 0 ∧ (∀ σ_8 : ST, σ_8 = st_sR σ_3 0 h0 (some q_1) → (∀ (q_12 : Nat) (C_13 : ClassId), st_tg σ_8 q_12 = none → ∀ σ_14 : ST, σ_14 = st_arr σ_8 q_12 313 C_13 4 → (∀ σ_20 : ST, σ_20 = st_sR σ_14 1 h0 (some q_12) → (∀ (q_25 : Nat) (C_26 : ClassId), st_tg σ_20 q_25 = none → ∀ σ_27 : ST, σ_27 = st_arr σ_20 q_25 315 C_26 300 → (∀ σ_34 : ST, σ_34 = st_sR σ_27 2 h0 (some q_25) → (∀ (q_40 : Nat) (C_41 : ClassId), st_tg σ_34 q_40 = none → ∀ σ_42 : ST, σ_42 = st_arr σ_34 q_40 316 C_41 100 → (∀ σ_50 : ST, σ_50 = st_sR σ_42 4 h0 (some q_40) → (∀ (q_57 : Nat) (C_58 : ClassId), st_tg σ_50 q_57 = none → ∀ σ_59 : ST, σ_59 = st_arr σ_50 q_57 312 C_58 100 → (∀ σ_68 : ST, σ_68 = st_sR σ_59 7 h0 (some q_57) → (∀ (q_76 : Nat) (C_77 : ClassId), st_tg σ_68 q_76 = none → ∀ σ_78 : ST, σ_78 = st_arr σ_68 q_76 302 C_77 9 → (∀ σ_88 : ST, σ_88 = st_sR σ_78 9 h0 (some q_76) → (∃ n : Nat, n ≤ 9 ∧ wb_X_init_59 h0 K n σ_88 0)))))))))))))
abbrev ROOM_X_init : Room := { frames := 2, cells := 21, slots := 611, locals := 33 }
set_option maxHeartbeats 4000000 in
set_option maxRecDepth 100000 in
theorem mc_X_init (l : Launch) (D : va_G) (A : Nat → Prop) (σ : ST) (h0 : Nat) (K : ST → Prop) : Met l y_X_init ws_X_init ROOM_X_init (va_Pc [.ref h0] (fun U => mw D A σ U ∧ mn U ∧ wp_X_init σ h0 K)) (va_Qv K (mw D A) A) 21 611 A := by
  refine Met.ofW (cc := c_X_init) (maxL := 2) (ret := none) (by decide) rfl ?_
  intro p e s m args below meth c s₁ B hml hv
  obtain ⟨rfl, ⟨hH, hK, hA⟩, hn, h⟩ := hv
  have hx := B.exec
  have hb := B.bytes
  have hr := B.returns
  have hts := atoms_spec (ws := ws_X_init) B.pre
  have hown : s.vm.findClass R_X = some m.cls := findClass_of_methodNamed B.named
  have hlocks := B.notSynchronized
  have hin : meth.name = "<init>" := (name_of_methodNamed B.named B.method).1
  have hts : ∀ w ∈ lw_g, w.before ([.ref h0] : List Value).toArray s = true := fun w hw => hts w (List.mem_cons_of_mem _ hw)
  have b_87 : ∀ (n : Nat), n ≤ 5 → ∀ (σ : ST) (v1 : Int32) (H : Heap) (locs : List Loc) (ls : Array Slot), mg_H D vwCl A (st_cell σ) H → mk_K D σ s → va_S A s.heap H locs → lv_has ls 2 [(0, va_rf (some h0)), (1, .int v1)] → wb_X_init_87 h0 K n σ v1 → W p l e (headSpec ws_X_init ROOM_X_init).room s m ([.ref h0] : List Value).toArray below meth c H locs (15 + (5 - n) * 1) (602 + (5 - n) * 1) (MQ below (va_Qv K (mw D A) A) ([.ref h0] : List Value).toArray s 21 611 A) (F0 m 87 ls []) := by
    intro n
    induction n with
    | zero =>
      intro hN σ v1 H locs ls hH hK hS hl h
      exact h.elim
    | succ n ih =>
      intro hN σ v1 H locs ls hH hK hS hl h
      unfold wb_X_init_87 at h
      refine lv_iload_n hx hb d_X_init_87 rfl (lv_at hl 1 rfl) ?_
      refine lv_iconst (v := 4) hx hb d_X_init_88 (by decide) ?_
      refine lv_icmp_ge (tgt := 111) hx hb d_X_init_89 (by decide) (fun c_98 => ?_) (fun c_98 => ?_)
      · have h := h.1 c_98
        refine W.widen (k := 20) (n := 607) (by omega) (by omega) ?_
        refine W.widen (k := 21) (n := 611) (by decide) (by decide) ?_
        exact W.vret hx hb hr (fun t ht hW => ⟨⟨σ, rfl, h, mw_pass hH hK hA hS ht hW⟩, hS.F ht⟩) hS.2.2 d_X_init_111
      · have h := h.2 c_98
        refine mr_aload_n hx hb d_X_init_92 rfl (lv_at hl 0 rfl) ?_
        obtain ⟨t_99, h⟩ := h
        refine ms_get (σ := σ) (r := some h0) (a := h0) (fs := fl_0 σ h0) (ci := 0) (C := R_X) (T := T_X) (N := 10) hx hb hts in_0 hown hK hH rfl (cell_0 t_99) rfl 1 (by decide) (hts _ wd_80) (fun _ h9 => h9) (v := va_rf (st_R σ 1 h0)) rfl d_X_init_93 ?_
        refine lv_iload_n hx hb d_X_init_96 rfl (lv_at hl 1 rfl) ?_
        refine ms_new (σ := σ) (ci := 3) (fs := df_3) (C := R_Currency) (T := T_Currency) (N := 1) hx hb hts in_3 ty_Currency ty_Currency_ok hown (hts _ wd_19) (hts _ wd_67) (hts _ wd_3) hK hH hS hA rfl dfl_3 (by show (15 + (5 - (n + 1)) * 1) + 1 ≤ 21; omega) (by show (602 + (5 - (n + 1)) * 1) + 1 ≤ 611; omega) d_X_init_97 rfl (new_3 σ) (fun q_100 H f_103 hH hK hS => ?_)
        obtain ⟨σ_101, z_102⟩ : ∃ y : ST, y = st_new σ q_100 3 := ⟨_, rfl⟩
        rw [← z_102] at hH hK
        have h := h q_100 f_103 σ_101 z_102
        have t_104 : st_tg σ_101 h0 = some 0 := by rw [z_102, g_tg_new, if_neg (fun y => by rw [y, f_103] at t_99; cases t_99)]; exact t_99
        have t_105 : st_tg σ_101 q_100 = some 3 := by rw [z_102, g_tg_new, if_pos rfl]
        refine W.cs (cells' := (16 + (5 - (n + 1)) * 1)) (slots' := (603 + (5 - (n + 1)) * 1)) (by omega) (by omega) ?_
        refine lv_dup hx hb d_X_init_100 (cat_rf _) ?_
        refine ms_callv (va_runIN (As := []) (rest := [va_rf (some q_100), .int v1, va_rf (st_R σ 1 h0)]) ⟨hx, hb, hml, hown, hts⟩ (mc_Currency_init l D A σ_101 q_100 _) ⟨(va_cnB 0 hts gw_Currency_init rfl rfl rfl (hn _ wd_68 rfl) (hts _ wd_3) (by decide +kernel) ⟨by decide, by decide⟩), rfl, (hts _ wd_69)⟩ ⟨mw_blind, fun U hU hW => ⟨rfl, mw_pass hH hK hA hS hU hW, mn_warm hW hn, h⟩⟩ rfl rfl hl.1 rfl (lv_room (by simp [cat_rf, cat_i, cat_l, cat_r])) d_X_init_101 ⟨by show (16 + (5 - (n + 1)) * 1) + 0 ≤ 21; omega, by show (603 + (5 - (n + 1)) * 1) + 0 ≤ 611; omega⟩) hS (fun σ_107 H locs h hH hK hS => ?_)
        refine W.cs (cells' := (16 + (5 - (n + 1)) * 1)) (slots' := (603 + (5 - (n + 1)) * 1)) (by omega) (by omega) ?_
        obtain ⟨a_108, e_109, t_110, h⟩ := h
        obtain ⟨b_111, h⟩ := h
        obtain ⟨o_112, h⟩ := h
        obtain ⟨σ_113, z_114⟩ : ∃ y : ST, y = st_uR σ_107 a_108 (Int32.toNatClampNeg v1) (some q_100) := ⟨_, rfl⟩
        have h := h σ_113 z_114
        refine ms_aast (σ := σ_107) (r := (st_R σ 1 h0)) (a := a_108) (x := some q_100) (w := (R_Currency, T_Currency, 1)) (ci := 3) hx hb rfl hK hH hS e_109 t_110 rfl (cell_313 t_110) (fun y hy => ⟨_, cell_3 (o_112 y hy)⟩) b_111 d_X_init_104 (σ1 := σ_113) (by rw [z_114]; exact uput_313 σ_107 a_108 _ (some q_100) t_110) (by rw [z_114]; rfl) (by rw [z_114]; rfl) (fun H locs hH hK hS => ?_)
        have t_115 : st_tg σ_113 a_108 = some 313 := by rw [z_114]; exact t_110
        obtain ⟨x_116, q_117⟩ : ∃ y : Int32, y = v1 + 1 := ⟨_, rfl⟩
        have h := h x_116 q_117
        refine lv_iinc (v := x_116) (lv' := [(1, .int x_116), (0, va_rf (some h0))]) hx hb d_X_init_105 hl (k := 1) rfl (by rw [q_117]; rfl) (by decide) rfl (fun ls hl => ?_)
        refine lv_goto (tgt := 87) hx hb d_X_init_108 (by decide) ?_
        refine W.widen (k := 15 + (5 - n) * 1) (n := 602 + (5 - n) * 1) (by omega) (by omega) ?_
        exact ih (by omega) _ _ _ _ _ hH hK hS (lv_sub hl [1, 0] rfl) h
  have b_59 : ∀ (n : Nat), n ≤ 9 → ∀ (σ : ST) (v1 : Int32) (H : Heap) (locs : List Loc) (ls : Array Slot), mg_H D vwCl A (st_cell σ) H → mk_K D σ s → va_S A s.heap H locs → lv_has ls 2 [(0, va_rf (some h0)), (1, .int v1)] → wb_X_init_59 h0 K n σ v1 → W p l e (headSpec ws_X_init ROOM_X_init).room s m ([.ref h0] : List Value).toArray below meth c H locs (6 + (9 - n) * 1) (521 + (9 - n) * 9) (MQ below (va_Qv K (mw D A) A) ([.ref h0] : List Value).toArray s 21 611 A) (F0 m 59 ls []) := by
    intro n
    induction n with
    | zero =>
      intro hN σ v1 H locs ls hH hK hS hl h
      exact h.elim
    | succ n ih =>
      intro hN σ v1 H locs ls hH hK hS hl h
      unfold wb_X_init_59 at h
      refine lv_iload_n hx hb d_X_init_59 rfl (lv_at hl 1 rfl) ?_
      refine lv_bipush (v := 8) hx hb d_X_init_60 (by decide) ?_
      refine lv_icmp_ge (tgt := 85) hx hb d_X_init_62 (by decide) (fun c_97 => ?_) (fun c_97 => ?_)
      · have h := h.1 c_97
        refine W.widen (k := 15) (n := 602) (by omega) (by omega) ?_
        refine lv_iconst (v := 0) hx hb d_X_init_85 (by decide) ?_
        refine lv_istore_n (lv' := [(1, .int 0), (0, va_rf (some h0))]) hx hb d_X_init_86 rfl hl (by decide) rfl (fun ls hl => ?_)
        obtain ⟨n, hN, h⟩ := h
        refine W.widen (k := 15 + (5 - n) * 1) (n := 602 + (5 - n) * 1) (by omega) (by omega) ?_
        exact b_87 n hN _ _ _ _ _ hH hK hS (lv_sub hl [1, 0] rfl) h
      · have h := h.2 c_97
        refine mr_aload_n hx hb d_X_init_65 rfl (lv_at hl 0 rfl) ?_
        obtain ⟨t_118, h⟩ := h
        refine ms_get (σ := σ) (r := some h0) (a := h0) (fs := fl_0 σ h0) (ci := 0) (C := R_X) (T := T_X) (N := 10) hx hb hts in_0 hown hK hH rfl (cell_0 t_118) rfl 0 (by decide) (hts _ wd_79) (fun _ h9 => h9) (v := va_rf (st_R σ 0 h0)) rfl d_X_init_66 ?_
        refine lv_iload_n hx hb d_X_init_69 rfl (lv_at hl 1 rfl) ?_
        refine ms_new (σ := σ) (ci := 4) (fs := df_4) (C := R_Office) (T := T_Office) (N := 9) hx hb hts in_4 ty_Office ty_Office_ok hown (hts _ wd_17) (hts _ wd_27) (hts _ wd_2) hK hH hS hA rfl dfl_4 (by show (6 + (9 - (n + 1)) * 1) + 1 ≤ 21; omega) (by show (521 + (9 - (n + 1)) * 9) + 9 ≤ 611; omega) d_X_init_70 rfl (new_4 σ) (fun q_119 H f_122 hH hK hS => ?_)
        obtain ⟨σ_120, z_121⟩ : ∃ y : ST, y = st_new σ q_119 4 := ⟨_, rfl⟩
        rw [← z_121] at hH hK
        have h := h q_119 f_122 σ_120 z_121
        have t_123 : st_tg σ_120 h0 = some 0 := by rw [z_121, g_tg_new, if_neg (fun y => by rw [y, f_122] at t_118; cases t_118)]; exact t_118
        have t_124 : st_tg σ_120 q_119 = some 4 := by rw [z_121, g_tg_new, if_pos rfl]
        refine W.cs (cells' := (7 + (9 - (n + 1)) * 1)) (slots' := (530 + (9 - (n + 1)) * 9)) (by omega) (by omega) ?_
        refine lv_dup hx hb d_X_init_73 (cat_rf _) ?_
        refine lv_iload_n hx hb d_X_init_74 rfl (lv_at hl 1 rfl) ?_
        refine ms_callv (va_runI (As := [.int v1]) (rest := [va_rf (some q_119), .int v1, va_rf (st_R σ 0 h0)]) ⟨hx, hb, hml, hown, hts⟩ (mc_Office_init l D A σ_120 q_119 v1 _) ⟨(callB_of 1 hts gw_Office_init rfl rfl rfl (hts _ wd_2) (hts _ wd_28) (by decide +kernel) ⟨by decide, by decide⟩), rfl, (hts _ wd_29)⟩ ⟨mw_blind, fun U hU hW => ⟨rfl, mw_pass hH hK hA hS hU hW, mn_warm hW hn, h⟩⟩ rfl rfl hl.1 rfl (lv_room (by simp [cat_rf, cat_i, cat_l, cat_r])) d_X_init_75 ⟨by show (7 + (9 - (n + 1)) * 1) + 0 ≤ 21; omega, by show (530 + (9 - (n + 1)) * 9) + 0 ≤ 611; omega⟩) hS (fun σ_126 H locs h hH hK hS => ?_)
        refine W.cs (cells' := (7 + (9 - (n + 1)) * 1)) (slots' := (530 + (9 - (n + 1)) * 9)) (by omega) (by omega) ?_
        obtain ⟨a_127, e_128, t_129, h⟩ := h
        obtain ⟨b_130, h⟩ := h
        obtain ⟨o_131, h⟩ := h
        obtain ⟨σ_132, z_133⟩ : ∃ y : ST, y = st_uR σ_126 a_127 (Int32.toNatClampNeg v1) (some q_119) := ⟨_, rfl⟩
        have h := h σ_132 z_133
        refine ms_aast (σ := σ_126) (r := (st_R σ 0 h0)) (a := a_127) (x := some q_119) (w := (R_Office, T_Office, 9)) (ci := 4) hx hb rfl hK hH hS e_128 t_129 rfl (cell_314 t_129) (fun y hy => ⟨_, cell_4 (o_131 y hy)⟩) b_130 d_X_init_78 (σ1 := σ_132) (by rw [z_133]; exact uput_314 σ_126 a_127 _ (some q_119) t_129) (by rw [z_133]; rfl) (by rw [z_133]; rfl) (fun H locs hH hK hS => ?_)
        have t_134 : st_tg σ_132 a_127 = some 314 := by rw [z_133]; exact t_129
        obtain ⟨x_135, q_136⟩ : ∃ y : Int32, y = v1 + 1 := ⟨_, rfl⟩
        have h := h x_135 q_136
        refine lv_iinc (v := x_135) (lv' := [(1, .int x_135), (0, va_rf (some h0))]) hx hb d_X_init_79 hl (k := 1) rfl (by rw [q_136]; rfl) (by decide) rfl (fun ls hl => ?_)
        refine lv_goto (tgt := 59) hx hb d_X_init_82 (by decide) ?_
        refine W.widen (k := 6 + (9 - n) * 1) (n := 521 + (9 - n) * 9) (by omega) (by omega) ?_
        exact ih (by omega) _ _ _ _ _ hH hK hS (lv_sub hl [1, 0] rfl) h
  have hS : va_S A s.heap s.heap [] := va_S.rf
  have hl := lv_entry ([.ref h0]) (n := 2) (Nat.le_of_ble_eq_true rfl)
  rw [lg_entry_eq]
  generalize (lg_sl ([.ref h0]) ++ List.replicate (2 - (lg_sl ([.ref h0])).length) Slot.unset).toArray = ls at hl ⊢
  have hl : lv_has ls 2 [(0, va_rf (some h0))] := hl
  unfold wp_X_init at h
  refine mr_aload_n hx hb d_X_init_0 rfl (lv_at hl 0 rfl) ?_
  refine W.objInit hx hb hown (hts _ wd_14) (hts _ wd_15) (hts _ wd_16) rfl (by rw [hml]; exact hl.1) rfl d_X_init_1 (Nat.le_of_ble_eq_true rfl) (Nat.le_of_ble_eq_true rfl) ?_
  refine W.eq (g2 := F0 m 4 ls []) rfl ?_
  refine mr_aload_n hx hb d_X_init_4 rfl (lv_at hl 0 rfl) ?_
  refine lv_bipush (v := 8) hx hb d_X_init_5 (by decide) ?_
  refine ms_newq (σ := σ) (C := R_Office) hx hb hown (hts _ wd_17) (va_AO.of (A := #[]) (hn _ wd_18 rfl)) hK hH hS hA 314 rfl (n := 8) (N' := 8) (by decide) (by decide) (by decide) (by decide) (by decide) d_X_init_7 (fun q cA hq => anew_314 σ q cA 8 hq) (fun q_1 C_2 H f_5 hH hK hS => ?_)
  obtain ⟨σ_3, z_4⟩ : ∃ y : ST, y = st_arr σ q_1 314 C_2 8 := ⟨_, rfl⟩
  rw [← z_4] at hH hK
  have h := h q_1 C_2 f_5 σ_3 z_4
  have t_6 : st_tg σ_3 q_1 = some 314 := by rw [z_4, g_tg_arr, if_pos rfl]
  obtain ⟨t_7, h⟩ := h
  obtain ⟨σ_8, z_9⟩ : ∃ y : ST, y = st_sR σ_3 0 h0 (some q_1) := ⟨_, rfl⟩
  have h := h σ_8 z_9
  refine ms_putF (σ := σ_3) (r := some h0) (a := h0) (fs := fl_0 σ_3 h0) (ci := 0) (C := R_X) (T := T_X) (N := 10) (v := va_rf (some q_1)) (ty := (.array (.object "OrderMoney$Office"))) hx hb hts in_0 ty_X ty_X_ok nm_X hown hK hH hS rfl (cell_0 t_7) rfl 0 (by decide) (hts _ wd_79) (fun _ h9 => h9) rfl hin rfl (by decide +kernel) (nar_ra _ _) (fit_ra _ _) (Nat.le_of_ble_eq_true rfl) d_X_init_10 (σ1 := σ_8) (by rw [z_9]; exact put_0_0 σ_3 h0 (some q_1) t_7) (by rw [z_9]; rfl) (by rw [z_9]; rfl) (fun H locs hH hK hS => ?_)
  have t_10 : st_tg σ_8 q_1 = some 314 := by rw [z_9]; exact t_6
  have t_11 : st_tg σ_8 h0 = some 0 := by rw [z_9]; exact t_7
  refine mr_aload_n hx hb d_X_init_13 rfl (lv_at hl 0 rfl) ?_
  refine lv_iconst (v := 4) hx hb d_X_init_14 (by decide) ?_
  refine ms_newq (σ := σ_8) (C := R_Currency) hx hb hown (hts _ wd_19) (va_AO.of (A := #[]) (hn _ wd_20 rfl)) hK hH hS hA 313 rfl (n := 4) (N' := 4) (by decide) (by decide) (by decide) (by decide) (by decide) d_X_init_15 (fun q cA hq => anew_313 σ_8 q cA 4 hq) (fun q_12 C_13 H f_16 hH hK hS => ?_)
  obtain ⟨σ_14, z_15⟩ : ∃ y : ST, y = st_arr σ_8 q_12 313 C_13 4 := ⟨_, rfl⟩
  rw [← z_15] at hH hK
  have h := h q_12 C_13 f_16 σ_14 z_15
  have t_17 : st_tg σ_14 q_1 = some 314 := by rw [z_15, g_tg_arr, if_neg (fun y => by rw [y, f_16] at t_10; cases t_10)]; exact t_10
  have t_18 : st_tg σ_14 h0 = some 0 := by rw [z_15, g_tg_arr, if_neg (fun y => by rw [y, f_16] at t_11; cases t_11)]; exact t_11
  have t_19 : st_tg σ_14 q_12 = some 313 := by rw [z_15, g_tg_arr, if_pos rfl]
  obtain ⟨σ_20, z_21⟩ : ∃ y : ST, y = st_sR σ_14 1 h0 (some q_12) := ⟨_, rfl⟩
  have h := h σ_20 z_21
  refine ms_putF (σ := σ_14) (r := some h0) (a := h0) (fs := fl_0 σ_14 h0) (ci := 0) (C := R_X) (T := T_X) (N := 10) (v := va_rf (some q_12)) (ty := (.array (.object "OrderMoney$Currency"))) hx hb hts in_0 ty_X ty_X_ok nm_X hown hK hH hS rfl (cell_0 t_18) rfl 1 (by decide) (hts _ wd_80) (fun _ h9 => h9) rfl hin rfl (by decide +kernel) (nar_ra _ _) (fit_ra _ _) (Nat.le_of_ble_eq_true rfl) d_X_init_18 (σ1 := σ_20) (by rw [z_21]; exact put_0_1 σ_14 h0 (some q_12) t_18) (by rw [z_21]; rfl) (by rw [z_21]; rfl) (fun H locs hH hK hS => ?_)
  have t_22 : st_tg σ_20 q_1 = some 314 := by rw [z_21]; exact t_17
  have t_23 : st_tg σ_20 h0 = some 0 := by rw [z_21]; exact t_18
  have t_24 : st_tg σ_20 q_12 = some 313 := by rw [z_21]; exact t_19
  refine mr_aload_n hx hb d_X_init_21 rfl (lv_at hl 0 rfl) ?_
  refine lv_sipush (v := 300) hx hb d_X_init_22 (by decide) ?_
  refine ms_newq (σ := σ_20) (C := R_Order) hx hb hown (hts _ wd_21) (va_AO.of (A := #[]) (hn _ wd_22 rfl)) hK hH hS hA 315 rfl (n := 300) (N' := 300) (by decide) (by decide) (by decide) (by decide) (by decide) d_X_init_25 (fun q cA hq => anew_315 σ_20 q cA 300 hq) (fun q_25 C_26 H f_29 hH hK hS => ?_)
  obtain ⟨σ_27, z_28⟩ : ∃ y : ST, y = st_arr σ_20 q_25 315 C_26 300 := ⟨_, rfl⟩
  rw [← z_28] at hH hK
  have h := h q_25 C_26 f_29 σ_27 z_28
  have t_30 : st_tg σ_27 q_1 = some 314 := by rw [z_28, g_tg_arr, if_neg (fun y => by rw [y, f_29] at t_22; cases t_22)]; exact t_22
  have t_31 : st_tg σ_27 h0 = some 0 := by rw [z_28, g_tg_arr, if_neg (fun y => by rw [y, f_29] at t_23; cases t_23)]; exact t_23
  have t_32 : st_tg σ_27 q_12 = some 313 := by rw [z_28, g_tg_arr, if_neg (fun y => by rw [y, f_29] at t_24; cases t_24)]; exact t_24
  have t_33 : st_tg σ_27 q_25 = some 315 := by rw [z_28, g_tg_arr, if_pos rfl]
  obtain ⟨σ_34, z_35⟩ : ∃ y : ST, y = st_sR σ_27 2 h0 (some q_25) := ⟨_, rfl⟩
  have h := h σ_34 z_35
  refine ms_putF (σ := σ_27) (r := some h0) (a := h0) (fs := fl_0 σ_27 h0) (ci := 0) (C := R_X) (T := T_X) (N := 10) (v := va_rf (some q_25)) (ty := (.array (.object "OrderMoney$Order"))) hx hb hts in_0 ty_X ty_X_ok nm_X hown hK hH hS rfl (cell_0 t_31) rfl 2 (by decide) (hts _ wd_81) (fun _ h9 => h9) rfl hin rfl (by decide +kernel) (nar_ra _ _) (fit_ra _ _) (Nat.le_of_ble_eq_true rfl) d_X_init_28 (σ1 := σ_34) (by rw [z_35]; exact put_0_2 σ_27 h0 (some q_25) t_31) (by rw [z_35]; rfl) (by rw [z_35]; rfl) (fun H locs hH hK hS => ?_)
  have t_36 : st_tg σ_34 q_1 = some 314 := by rw [z_35]; exact t_30
  have t_37 : st_tg σ_34 h0 = some 0 := by rw [z_35]; exact t_31
  have t_38 : st_tg σ_34 q_12 = some 313 := by rw [z_35]; exact t_32
  have t_39 : st_tg σ_34 q_25 = some 315 := by rw [z_35]; exact t_33
  refine mr_aload_n hx hb d_X_init_31 rfl (lv_at hl 0 rfl) ?_
  refine lv_bipush (v := 100) hx hb d_X_init_32 (by decide) ?_
  refine ms_newq (σ := σ_34) (C := R_Try) hx hb hown (hts _ wd_23) (va_AO.of (A := #[]) (hn _ wd_24 rfl)) hK hH hS hA 316 rfl (n := 100) (N' := 100) (by decide) (by decide) (by decide) (by decide) (by decide) d_X_init_34 (fun q cA hq => anew_316 σ_34 q cA 100 hq) (fun q_40 C_41 H f_44 hH hK hS => ?_)
  obtain ⟨σ_42, z_43⟩ : ∃ y : ST, y = st_arr σ_34 q_40 316 C_41 100 := ⟨_, rfl⟩
  rw [← z_43] at hH hK
  have h := h q_40 C_41 f_44 σ_42 z_43
  have t_45 : st_tg σ_42 q_1 = some 314 := by rw [z_43, g_tg_arr, if_neg (fun y => by rw [y, f_44] at t_36; cases t_36)]; exact t_36
  have t_46 : st_tg σ_42 h0 = some 0 := by rw [z_43, g_tg_arr, if_neg (fun y => by rw [y, f_44] at t_37; cases t_37)]; exact t_37
  have t_47 : st_tg σ_42 q_12 = some 313 := by rw [z_43, g_tg_arr, if_neg (fun y => by rw [y, f_44] at t_38; cases t_38)]; exact t_38
  have t_48 : st_tg σ_42 q_25 = some 315 := by rw [z_43, g_tg_arr, if_neg (fun y => by rw [y, f_44] at t_39; cases t_39)]; exact t_39
  have t_49 : st_tg σ_42 q_40 = some 316 := by rw [z_43, g_tg_arr, if_pos rfl]
  obtain ⟨σ_50, z_51⟩ : ∃ y : ST, y = st_sR σ_42 4 h0 (some q_40) := ⟨_, rfl⟩
  have h := h σ_50 z_51
  refine ms_putF (σ := σ_42) (r := some h0) (a := h0) (fs := fl_0 σ_42 h0) (ci := 0) (C := R_X) (T := T_X) (N := 10) (v := va_rf (some q_40)) (ty := (.array (.object "OrderMoney$Try"))) hx hb hts in_0 ty_X ty_X_ok nm_X hown hK hH hS rfl (cell_0 t_46) rfl 4 (by decide) (hts _ wd_83) (fun _ h9 => h9) rfl hin rfl (by decide +kernel) (nar_ra _ _) (fit_ra _ _) (Nat.le_of_ble_eq_true rfl) d_X_init_37 (σ1 := σ_50) (by rw [z_51]; exact put_0_4 σ_42 h0 (some q_40) t_46) (by rw [z_51]; rfl) (by rw [z_51]; rfl) (fun H locs hH hK hS => ?_)
  have t_52 : st_tg σ_50 q_1 = some 314 := by rw [z_51]; exact t_45
  have t_53 : st_tg σ_50 h0 = some 0 := by rw [z_51]; exact t_46
  have t_54 : st_tg σ_50 q_12 = some 313 := by rw [z_51]; exact t_47
  have t_55 : st_tg σ_50 q_25 = some 315 := by rw [z_51]; exact t_48
  have t_56 : st_tg σ_50 q_40 = some 316 := by rw [z_51]; exact t_49
  refine mr_aload_n hx hb d_X_init_40 rfl (lv_at hl 0 rfl) ?_
  refine lv_bipush (v := 100) hx hb d_X_init_41 (by decide) ?_
  refine ms_newq (σ := σ_50) (C := R_Collected) hx hb hown (hts _ wd_25) (va_AO.of (A := #[]) (hn _ wd_26 rfl)) hK hH hS hA 312 rfl (n := 100) (N' := 100) (by decide) (by decide) (by decide) (by decide) (by decide) d_X_init_43 (fun q cA hq => anew_312 σ_50 q cA 100 hq) (fun q_57 C_58 H f_61 hH hK hS => ?_)
  obtain ⟨σ_59, z_60⟩ : ∃ y : ST, y = st_arr σ_50 q_57 312 C_58 100 := ⟨_, rfl⟩
  rw [← z_60] at hH hK
  have h := h q_57 C_58 f_61 σ_59 z_60
  have t_62 : st_tg σ_59 q_1 = some 314 := by rw [z_60, g_tg_arr, if_neg (fun y => by rw [y, f_61] at t_52; cases t_52)]; exact t_52
  have t_63 : st_tg σ_59 h0 = some 0 := by rw [z_60, g_tg_arr, if_neg (fun y => by rw [y, f_61] at t_53; cases t_53)]; exact t_53
  have t_64 : st_tg σ_59 q_12 = some 313 := by rw [z_60, g_tg_arr, if_neg (fun y => by rw [y, f_61] at t_54; cases t_54)]; exact t_54
  have t_65 : st_tg σ_59 q_25 = some 315 := by rw [z_60, g_tg_arr, if_neg (fun y => by rw [y, f_61] at t_55; cases t_55)]; exact t_55
  have t_66 : st_tg σ_59 q_40 = some 316 := by rw [z_60, g_tg_arr, if_neg (fun y => by rw [y, f_61] at t_56; cases t_56)]; exact t_56
  have t_67 : st_tg σ_59 q_57 = some 312 := by rw [z_60, g_tg_arr, if_pos rfl]
  obtain ⟨σ_68, z_69⟩ : ∃ y : ST, y = st_sR σ_59 7 h0 (some q_57) := ⟨_, rfl⟩
  have h := h σ_68 z_69
  refine ms_putF (σ := σ_59) (r := some h0) (a := h0) (fs := fl_0 σ_59 h0) (ci := 0) (C := R_X) (T := T_X) (N := 10) (v := va_rf (some q_57)) (ty := (.array (.object "OrderMoney$Collected"))) hx hb hts in_0 ty_X ty_X_ok nm_X hown hK hH hS rfl (cell_0 t_63) rfl 7 (by decide) (hts _ wd_86) (fun _ h9 => h9) rfl hin rfl (by decide +kernel) (nar_ra _ _) (fit_ra _ _) (Nat.le_of_ble_eq_true rfl) d_X_init_46 (σ1 := σ_68) (by rw [z_69]; exact put_0_7 σ_59 h0 (some q_57) t_63) (by rw [z_69]; rfl) (by rw [z_69]; rfl) (fun H locs hH hK hS => ?_)
  have t_70 : st_tg σ_68 q_1 = some 314 := by rw [z_69]; exact t_62
  have t_71 : st_tg σ_68 h0 = some 0 := by rw [z_69]; exact t_63
  have t_72 : st_tg σ_68 q_12 = some 313 := by rw [z_69]; exact t_64
  have t_73 : st_tg σ_68 q_25 = some 315 := by rw [z_69]; exact t_65
  have t_74 : st_tg σ_68 q_40 = some 316 := by rw [z_69]; exact t_66
  have t_75 : st_tg σ_68 q_57 = some 312 := by rw [z_69]; exact t_67
  refine mr_aload_n hx hb d_X_init_49 rfl (lv_at hl 0 rfl) ?_
  refine lv_bipush (v := 9) hx hb d_X_init_50 (by decide) ?_
  refine ms_newa (σ := σ_68) (atype := .long) (y := .inr (.inl (fun _ => 0))) hx hb (hts _ wd_66) rfl hK hH hS hA 302 rfl (n := 9) (N' := 9) (fun cA => rfl) (by decide) (by decide) (by decide) (by decide) (by decide) d_X_init_52 (fun q cA hq => anew_302 σ_68 q cA 9 hq) (fun q_76 C_77 H f_80 hH hK hS => ?_)
  obtain ⟨σ_78, z_79⟩ : ∃ y : ST, y = st_arr σ_68 q_76 302 C_77 9 := ⟨_, rfl⟩
  rw [← z_79] at hH hK
  have h := h q_76 C_77 f_80 σ_78 z_79
  have t_81 : st_tg σ_78 q_1 = some 314 := by rw [z_79, g_tg_arr, if_neg (fun y => by rw [y, f_80] at t_70; cases t_70)]; exact t_70
  have t_82 : st_tg σ_78 h0 = some 0 := by rw [z_79, g_tg_arr, if_neg (fun y => by rw [y, f_80] at t_71; cases t_71)]; exact t_71
  have t_83 : st_tg σ_78 q_12 = some 313 := by rw [z_79, g_tg_arr, if_neg (fun y => by rw [y, f_80] at t_72; cases t_72)]; exact t_72
  have t_84 : st_tg σ_78 q_25 = some 315 := by rw [z_79, g_tg_arr, if_neg (fun y => by rw [y, f_80] at t_73; cases t_73)]; exact t_73
  have t_85 : st_tg σ_78 q_40 = some 316 := by rw [z_79, g_tg_arr, if_neg (fun y => by rw [y, f_80] at t_74; cases t_74)]; exact t_74
  have t_86 : st_tg σ_78 q_57 = some 312 := by rw [z_79, g_tg_arr, if_neg (fun y => by rw [y, f_80] at t_75; cases t_75)]; exact t_75
  have t_87 : st_tg σ_78 q_76 = some 302 := by rw [z_79, g_tg_arr, if_pos rfl]
  obtain ⟨σ_88, z_89⟩ : ∃ y : ST, y = st_sR σ_78 9 h0 (some q_76) := ⟨_, rfl⟩
  have h := h σ_88 z_89
  refine ms_putF (σ := σ_78) (r := some h0) (a := h0) (fs := fl_0 σ_78 h0) (ci := 0) (C := R_X) (T := T_X) (N := 10) (v := va_rf (some q_76)) (ty := (.array .long)) hx hb hts in_0 ty_X ty_X_ok nm_X hown hK hH hS rfl (cell_0 t_82) rfl 9 (by decide) (hts _ wd_88) (fun _ h9 => h9) rfl hin rfl (by decide +kernel) (nar_ra _ _) (fit_ra _ _) (Nat.le_of_ble_eq_true rfl) d_X_init_54 (σ1 := σ_88) (by rw [z_89]; exact put_0_9 σ_78 h0 (some q_76) t_82) (by rw [z_89]; rfl) (by rw [z_89]; rfl) (fun H locs hH hK hS => ?_)
  have t_90 : st_tg σ_88 q_1 = some 314 := by rw [z_89]; exact t_81
  have t_91 : st_tg σ_88 h0 = some 0 := by rw [z_89]; exact t_82
  have t_92 : st_tg σ_88 q_12 = some 313 := by rw [z_89]; exact t_83
  have t_93 : st_tg σ_88 q_25 = some 315 := by rw [z_89]; exact t_84
  have t_94 : st_tg σ_88 q_40 = some 316 := by rw [z_89]; exact t_85
  have t_95 : st_tg σ_88 q_57 = some 312 := by rw [z_89]; exact t_86
  have t_96 : st_tg σ_88 q_76 = some 302 := by rw [z_89]; exact t_87
  refine lv_iconst (v := 0) hx hb d_X_init_57 (by decide) ?_
  refine lv_istore_n (lv' := [(1, .int 0), (0, va_rf (some h0))]) hx hb d_X_init_58 rfl hl (by decide) rfl (fun ls hl => ?_)
  obtain ⟨n, hN, h⟩ := h
  refine W.widen (k := 6 + (9 - n) * 1) (n := 521 + (9 - n) * 9) (by omega) (by omega) ?_
  exact b_59 n hN _ _ _ _ _ hH hK hS (lv_sub hl [1, 0] rfl) h
def wp_X_officeAt (σ : ST) (h0 : Nat) (p1 : Int32) (K : Option Nat → ST → Prop) : Prop :=
  (((p1 < 0) → K none σ) ∧
  ((¬ p1 < 0) → (((p1 < (8 : Int32)) → st_tg σ h0 = some 0 ∧ (∃ a_4 : Nat, (st_R σ 0 h0) = some a_4 ∧ st_tg σ a_4 = some 314 ∧ (vp_in p1 (st_ln σ a_4) ∧ (K ((st_eR σ a_4 (Int32.toNatClampNeg p1))) σ)))) ∧
  ((¬ p1 < (8 : Int32)) → K none σ))))
abbrev ROOM_X_officeAt : Room := { frames := 0, cells := 0, slots := 0, locals := 0 }
set_option maxHeartbeats 4000000 in
set_option maxRecDepth 100000 in
theorem mc_X_officeAt (l : Launch) (D : va_G) (A : Nat → Prop) (σ : ST) (h0 : Nat) (p1 : Int32) (K : Option Nat → ST → Prop) : Met l y_X_officeAt ws_X_officeAt ROOM_X_officeAt (va_Pc [.ref h0, .int p1] (fun U => mw D A σ U ∧ mn U ∧ wp_X_officeAt σ h0 p1 K)) (va_Qq K (mw D A) A) 0 0 A := by
  refine Met.ofW (cc := c_X_officeAt) (maxL := 2) (ret := (some (.object "OrderMoney$Office"))) (by decide) rfl ?_
  intro p e s m args below meth c s₁ B hml hv
  obtain ⟨rfl, ⟨hH, hK, hA⟩, hn, h⟩ := hv
  have hx := B.exec
  have hb := B.bytes
  have hr := B.returns
  have hts := atoms_spec (ws := ws_X_officeAt) B.pre
  have hown : s.vm.findClass R_X = some m.cls := findClass_of_methodNamed B.named
  have hlocks := B.notSynchronized
  have hts : ∀ w ∈ lw_g, w.before ([.ref h0, .int p1] : List Value).toArray s = true := fun w hw => hts w (List.mem_cons_of_mem _ hw)
  have hS : va_S A s.heap s.heap [] := va_S.rf
  have hl := lv_entry ([.ref h0, .int p1]) (n := 2) (Nat.le_of_ble_eq_true rfl)
  rw [lg_entry_eq]
  generalize (lg_sl ([.ref h0, .int p1]) ++ List.replicate (2 - (lg_sl ([.ref h0, .int p1])).length) Slot.unset).toArray = ls at hl ⊢
  have hl : lv_has ls 2 [(0, va_rf (some h0)), (1, .int p1)] := hl
  unfold wp_X_officeAt at h
  refine lv_iload_n hx hb d_X_officeAt_0 rfl (lv_at hl 1 rfl) ?_
  refine lv_if_lt (tgt := 10) hx hb d_X_officeAt_1 (by decide) (fun c_1 => ?_) (fun c_1 => ?_)
  · have h := h.1 c_1
    refine mr_null hx hb d_X_officeAt_10 ?_
    refine lv_goto (tgt := 20) hx hb d_X_officeAt_11 (by decide) ?_
    exact W.aret (v := va_rf none) hx hb hr (Or.inl ⟨_, rfl⟩) (va_rf_or _) (fun t ht hW => ⟨⟨none, σ, rfl, h, mw_pass hH hK hA hS ht hW⟩, hS.F ht⟩) hS.2.2 d_X_officeAt_20
  · have h := h.2 c_1
    refine lv_iload_n hx hb d_X_officeAt_4 rfl (lv_at hl 1 rfl) ?_
    refine lv_bipush (v := 8) hx hb d_X_officeAt_5 (by decide) ?_
    refine lv_icmp_lt (tgt := 14) hx hb d_X_officeAt_7 (by decide) (fun c_2 => ?_) (fun c_2 => ?_)
    · have h := h.1 c_2
      refine mr_aload_n hx hb d_X_officeAt_14 rfl (lv_at hl 0 rfl) ?_
      obtain ⟨t_3, h⟩ := h
      refine ms_get (σ := σ) (r := some h0) (a := h0) (fs := fl_0 σ h0) (ci := 0) (C := R_X) (T := T_X) (N := 10) hx hb hts in_0 hown hK hH rfl (cell_0 t_3) rfl 0 (by decide) (hts _ wd_79) (fun _ h9 => h9) (v := va_rf (st_R σ 0 h0)) rfl d_X_officeAt_15 ?_
      refine lv_iload_n hx hb d_X_officeAt_18 rfl (lv_at hl 1 rfl) ?_
      obtain ⟨a_4, e_5, t_6, h⟩ := h
      obtain ⟨b_7, h⟩ := h
      refine ms_aald (σ := σ) (r := (st_R σ 0 h0)) (a := a_4) hx hb hK hH e_5 t_6 rfl (cell_314 t_6) b_7 d_X_officeAt_19 ?_
      exact W.aret (v := va_rf (st_eR σ a_4 (Int32.toNatClampNeg p1))) hx hb hr (Or.inl ⟨_, rfl⟩) (va_rf_or _) (fun t ht hW => ⟨⟨(st_eR σ a_4 (Int32.toNatClampNeg p1)), σ, rfl, h, mw_pass hH hK hA hS ht hW⟩, hS.F ht⟩) hS.2.2 d_X_officeAt_20
    · have h := h.2 c_2
      refine mr_null hx hb d_X_officeAt_10 ?_
      refine lv_goto (tgt := 20) hx hb d_X_officeAt_11 (by decide) ?_
      exact W.aret (v := va_rf none) hx hb hr (Or.inl ⟨_, rfl⟩) (va_rf_or _) (fun t ht hW => ⟨⟨none, σ, rfl, h, mw_pass hH hK hA hS ht hW⟩, hS.F ht⟩) hS.2.2 d_X_officeAt_20
def wp_X_currencyAt (σ : ST) (h0 : Nat) (p1 : Int32) (K : Option Nat → ST → Prop) : Prop :=
  (((p1 < 0) → K none σ) ∧
  ((¬ p1 < 0) → (((p1 < (4 : Int32)) → st_tg σ h0 = some 0 ∧ (∃ a_4 : Nat, (st_R σ 1 h0) = some a_4 ∧ st_tg σ a_4 = some 313 ∧ (vp_in p1 (st_ln σ a_4) ∧ (K ((st_eR σ a_4 (Int32.toNatClampNeg p1))) σ)))) ∧
  ((¬ p1 < (4 : Int32)) → K none σ))))
abbrev ROOM_X_currencyAt : Room := { frames := 0, cells := 0, slots := 0, locals := 0 }
set_option maxHeartbeats 4000000 in
set_option maxRecDepth 100000 in
theorem mc_X_currencyAt (l : Launch) (D : va_G) (A : Nat → Prop) (σ : ST) (h0 : Nat) (p1 : Int32) (K : Option Nat → ST → Prop) : Met l y_X_currencyAt ws_X_currencyAt ROOM_X_currencyAt (va_Pc [.ref h0, .int p1] (fun U => mw D A σ U ∧ mn U ∧ wp_X_currencyAt σ h0 p1 K)) (va_Qq K (mw D A) A) 0 0 A := by
  refine Met.ofW (cc := c_X_currencyAt) (maxL := 2) (ret := (some (.object "OrderMoney$Currency"))) (by decide) rfl ?_
  intro p e s m args below meth c s₁ B hml hv
  obtain ⟨rfl, ⟨hH, hK, hA⟩, hn, h⟩ := hv
  have hx := B.exec
  have hb := B.bytes
  have hr := B.returns
  have hts := atoms_spec (ws := ws_X_currencyAt) B.pre
  have hown : s.vm.findClass R_X = some m.cls := findClass_of_methodNamed B.named
  have hlocks := B.notSynchronized
  have hts : ∀ w ∈ lw_g, w.before ([.ref h0, .int p1] : List Value).toArray s = true := fun w hw => hts w (List.mem_cons_of_mem _ hw)
  have hS : va_S A s.heap s.heap [] := va_S.rf
  have hl := lv_entry ([.ref h0, .int p1]) (n := 2) (Nat.le_of_ble_eq_true rfl)
  rw [lg_entry_eq]
  generalize (lg_sl ([.ref h0, .int p1]) ++ List.replicate (2 - (lg_sl ([.ref h0, .int p1])).length) Slot.unset).toArray = ls at hl ⊢
  have hl : lv_has ls 2 [(0, va_rf (some h0)), (1, .int p1)] := hl
  unfold wp_X_currencyAt at h
  refine lv_iload_n hx hb d_X_currencyAt_0 rfl (lv_at hl 1 rfl) ?_
  refine lv_if_lt (tgt := 9) hx hb d_X_currencyAt_1 (by decide) (fun c_1 => ?_) (fun c_1 => ?_)
  · have h := h.1 c_1
    refine mr_null hx hb d_X_currencyAt_9 ?_
    refine lv_goto (tgt := 19) hx hb d_X_currencyAt_10 (by decide) ?_
    exact W.aret (v := va_rf none) hx hb hr (Or.inl ⟨_, rfl⟩) (va_rf_or _) (fun t ht hW => ⟨⟨none, σ, rfl, h, mw_pass hH hK hA hS ht hW⟩, hS.F ht⟩) hS.2.2 d_X_currencyAt_19
  · have h := h.2 c_1
    refine lv_iload_n hx hb d_X_currencyAt_4 rfl (lv_at hl 1 rfl) ?_
    refine lv_iconst (v := 4) hx hb d_X_currencyAt_5 (by decide) ?_
    refine lv_icmp_lt (tgt := 13) hx hb d_X_currencyAt_6 (by decide) (fun c_2 => ?_) (fun c_2 => ?_)
    · have h := h.1 c_2
      refine mr_aload_n hx hb d_X_currencyAt_13 rfl (lv_at hl 0 rfl) ?_
      obtain ⟨t_3, h⟩ := h
      refine ms_get (σ := σ) (r := some h0) (a := h0) (fs := fl_0 σ h0) (ci := 0) (C := R_X) (T := T_X) (N := 10) hx hb hts in_0 hown hK hH rfl (cell_0 t_3) rfl 1 (by decide) (hts _ wd_80) (fun _ h9 => h9) (v := va_rf (st_R σ 1 h0)) rfl d_X_currencyAt_14 ?_
      refine lv_iload_n hx hb d_X_currencyAt_17 rfl (lv_at hl 1 rfl) ?_
      obtain ⟨a_4, e_5, t_6, h⟩ := h
      obtain ⟨b_7, h⟩ := h
      refine ms_aald (σ := σ) (r := (st_R σ 1 h0)) (a := a_4) hx hb hK hH e_5 t_6 rfl (cell_313 t_6) b_7 d_X_currencyAt_18 ?_
      exact W.aret (v := va_rf (st_eR σ a_4 (Int32.toNatClampNeg p1))) hx hb hr (Or.inl ⟨_, rfl⟩) (va_rf_or _) (fun t ht hW => ⟨⟨(st_eR σ a_4 (Int32.toNatClampNeg p1)), σ, rfl, h, mw_pass hH hK hA hS ht hW⟩, hS.F ht⟩) hS.2.2 d_X_currencyAt_19
    · have h := h.2 c_2
      refine mr_null hx hb d_X_currencyAt_9 ?_
      refine lv_goto (tgt := 19) hx hb d_X_currencyAt_10 (by decide) ?_
      exact W.aret (v := va_rf none) hx hb hr (Or.inl ⟨_, rfl⟩) (va_rf_or _) (fun t ht hW => ⟨⟨none, σ, rfl, h, mw_pass hH hK hA hS ht hW⟩, hS.F ht⟩) hS.2.2 d_X_currencyAt_19
def wp_X_isOrderable (σ : ST) (p0 : Int64) (K : Int32 → ST → Prop) : Prop :=
  (((((lg_cmp p0 1)) < 0) → K 0 σ) ∧
  ((¬ ((lg_cmp p0 1)) < 0) → (((0 < ((lg_cmp p0 500000))) → K 0 σ) ∧
  ((¬ 0 < ((lg_cmp p0 500000))) → K 1 σ))))
abbrev ROOM_X_isOrderable : Room := { frames := 0, cells := 0, slots := 0, locals := 0 }
set_option maxHeartbeats 4000000 in
set_option maxRecDepth 100000 in
theorem mc_X_isOrderable (l : Launch) (D : va_G) (A : Nat → Prop) (σ : ST) (p0 : Int64) (K : Int32 → ST → Prop) : Met l y_X_isOrderable ws_X_isOrderable ROOM_X_isOrderable (va_Pc [.long p0] (fun U => mw D A σ U ∧ mn U ∧ wp_X_isOrderable σ p0 K)) (va_Qi K (mw D A) A) 0 0 A := by
  refine Met.ofW (cc := c_X_isOrderable) (maxL := 2) (ret := (some .boolean)) (by decide) rfl ?_
  intro p e s m args below meth c s₁ B hml hv
  obtain ⟨rfl, ⟨hH, hK, hA⟩, hn, h⟩ := hv
  have hx := B.exec
  have hb := B.bytes
  have hr := B.returns
  have hts := atoms_spec (ws := ws_X_isOrderable) B.pre
  have hown : s.vm.findClass R_X = some m.cls := findClass_of_methodNamed B.named
  have hlocks := B.notSynchronized
  have hts : ∀ w ∈ lw_g, w.before ([.long p0] : List Value).toArray s = true := fun w hw => hts w (List.mem_cons_of_mem _ hw)
  have hS : va_S A s.heap s.heap [] := va_S.rf
  have hl := lv_entry ([.long p0]) (n := 2) (Nat.le_of_ble_eq_true rfl)
  rw [lg_entry_eq]
  generalize (lg_sl ([.long p0]) ++ List.replicate (2 - (lg_sl ([.long p0])).length) Slot.unset).toArray = ls at hl ⊢
  have hl : lv_has ls 2 [(0, .long p0)] := hl
  unfold wp_X_isOrderable at h
  refine lv_lload_n hx hb d_X_isOrderable_0 rfl (lv_at hl 0 rfl) ?_
  refine lv_lconst (v := 1) hx hb d_X_isOrderable_1 rfl ?_
  refine W.lcmp hx hb d_X_isOrderable_2 ?_
  refine lv_if_lt (tgt := 18) hx hb d_X_isOrderable_3 (by decide) (fun c_1 => ?_) (fun c_1 => ?_)
  · have h := h.1 c_1
    refine lv_iconst (v := 0) hx hb d_X_isOrderable_18 (by decide) ?_
    exact W.zret (v := 0) hx hb hr rfl (fun t ht hW => ⟨⟨0, σ, rfl, h, mw_pass hH hK hA hS ht hW⟩, hS.F ht⟩) hS.2.2 d_X_isOrderable_19
  · have h := h.2 c_1
    refine lv_lload_n hx hb d_X_isOrderable_6 rfl (lv_at hl 0 rfl) ?_
    refine lv_ldc2 (v := 500000) hx hb hown (hts _ wd_125) d_X_isOrderable_7 ?_
    refine W.lcmp hx hb d_X_isOrderable_10 ?_
    refine lv_if_gt (tgt := 18) hx hb d_X_isOrderable_11 (by decide) (fun c_2 => ?_) (fun c_2 => ?_)
    · have h := h.1 c_2
      refine lv_iconst (v := 0) hx hb d_X_isOrderable_18 (by decide) ?_
      exact W.zret (v := 0) hx hb hr rfl (fun t ht hW => ⟨⟨0, σ, rfl, h, mw_pass hH hK hA hS ht hW⟩, hS.F ht⟩) hS.2.2 d_X_isOrderable_19
    · have h := h.2 c_2
      refine lv_iconst (v := 1) hx hb d_X_isOrderable_14 (by decide) ?_
      refine lv_goto (tgt := 19) hx hb d_X_isOrderable_15 (by decide) ?_
      exact W.zret (v := 1) hx hb hr rfl (fun t ht hW => ⟨⟨1, σ, rfl, h, mw_pass hH hK hA hS ht hW⟩, hS.F ht⟩) hS.2.2 d_X_isOrderable_19
def wb_X_numberOf_6 (K : Int32 → ST → Prop) : Nat → ST → Int32 → Int32 → Int32 → Int32 → Prop
  | 0, _, _, _, _, _ => False
  | n + 1, σ, v0, v1, v2, v3 =>
  ((((10 : Int32) ≤ v3) → K ((((10 * v0)) + ((v1 - v1 / 10 * 10)))) σ) ∧
  ((¬ (10 : Int32) ≤ v3) → ∀ x_2 : Int32, x_2 = (v1 + ((((v2 - v2 / 10 * 10)) * ((2 + ((v3 - v3 / 6 * 6))))))) → (∀ x_4 : Int32, x_4 = (v2 / 10) → (∀ x_6 : Int32, x_6 = v3 + 1 → (wb_X_numberOf_6 K n σ v0 x_2 x_4 x_6)))))
def wp_X_numberOf (σ : ST) (p0 : Int32) (K : Int32 → ST → Prop) : Prop :=
  ∃ n : Nat, wb_X_numberOf_6 K n σ p0 0 p0 0
abbrev ROOM_X_numberOf : Room := { frames := 0, cells := 0, slots := 0, locals := 0 }
set_option maxHeartbeats 4000000 in
set_option maxRecDepth 100000 in
theorem mc_X_numberOf (l : Launch) (D : va_G) (A : Nat → Prop) (σ : ST) (p0 : Int32) (K : Int32 → ST → Prop) : Met l y_X_numberOf ws_X_numberOf ROOM_X_numberOf (va_Pc [.int p0] (fun U => mw D A σ U ∧ mn U ∧ wp_X_numberOf σ p0 K)) (va_Qi K (mw D A) A) 0 0 A := by
  refine Met.ofW (cc := c_X_numberOf) (maxL := 4) (ret := (some .int)) (by decide) rfl ?_
  intro p e s m args below meth c s₁ B hml hv
  obtain ⟨rfl, ⟨hH, hK, hA⟩, hn, h⟩ := hv
  have hx := B.exec
  have hb := B.bytes
  have hr := B.returns
  have hts := atoms_spec (ws := ws_X_numberOf) B.pre
  have hown : s.vm.findClass R_X = some m.cls := findClass_of_methodNamed B.named
  have hlocks := B.notSynchronized
  have hts : ∀ w ∈ lw_g, w.before ([.int p0] : List Value).toArray s = true := fun w hw => hts w (List.mem_cons_of_mem _ hw)
  have b_6 : ∀ (n : Nat), ∀ (σ : ST) (v0 : Int32) (v1 : Int32) (v2 : Int32) (v3 : Int32) (H : Heap) (locs : List Loc) (ls : Array Slot), mg_H D vwCl A (st_cell σ) H → mk_K D σ s → va_S A s.heap H locs → lv_has ls 4 [(0, .int v0), (1, .int v1), (2, .int v2), (3, .int v3)] → wb_X_numberOf_6 K n σ v0 v1 v2 v3 → W p l e (headSpec ws_X_numberOf ROOM_X_numberOf).room s m ([.int p0] : List Value).toArray below meth c H locs 0 0 (MQ below (va_Qi K (mw D A) A) ([.int p0] : List Value).toArray s 0 0 A) (F0 m 6 ls []) := by
    intro n
    induction n with
    | zero =>
      intro σ v0 v1 v2 v3 H locs ls hH hK hS hl h
      exact h.elim
    | succ n ih =>
      intro σ v0 v1 v2 v3 H locs ls hH hK hS hl h
      unfold wb_X_numberOf_6 at h
      refine lv_iload_n hx hb d_X_numberOf_6 rfl (lv_at hl 3 rfl) ?_
      refine lv_bipush (v := 10) hx hb d_X_numberOf_7 (by decide) ?_
      refine lv_icmp_ge (tgt := 37) hx hb d_X_numberOf_9 (by decide) (fun c_1 => ?_) (fun c_1 => ?_)
      · have h := h.1 c_1
        refine lv_bipush (v := 10) hx hb d_X_numberOf_37 (by decide) ?_
        refine lv_iload_n hx hb d_X_numberOf_39 rfl (lv_at hl 0 rfl) ?_
        refine lv_imul hx hb d_X_numberOf_40 ?_
        refine lv_iload_n hx hb d_X_numberOf_41 rfl (lv_at hl 1 rfl) ?_
        refine lv_bipush (v := 10) hx hb d_X_numberOf_42 (by decide) ?_
        refine lv_irem hx hb d_X_numberOf_44 (by decide) ?_
        refine lv_iadd hx hb d_X_numberOf_45 ?_
        exact W.iret (v := (((10 * v0)) + ((v1 - v1 / 10 * 10)))) hx hb hr (fun t ht hW => ⟨⟨(((10 * v0)) + ((v1 - v1 / 10 * 10))), σ, rfl, h, mw_pass hH hK hA hS ht hW⟩, hS.F ht⟩) hS.2.2 d_X_numberOf_46
      · have h := h.2 c_1
        refine lv_iload_n hx hb d_X_numberOf_12 rfl (lv_at hl 1 rfl) ?_
        refine lv_iload_n hx hb d_X_numberOf_13 rfl (lv_at hl 2 rfl) ?_
        refine lv_bipush (v := 10) hx hb d_X_numberOf_14 (by decide) ?_
        refine lv_irem hx hb d_X_numberOf_16 (by decide) ?_
        refine lv_iconst (v := 2) hx hb d_X_numberOf_17 (by decide) ?_
        refine lv_iload_n hx hb d_X_numberOf_18 rfl (lv_at hl 3 rfl) ?_
        refine lv_bipush (v := 6) hx hb d_X_numberOf_19 (by decide) ?_
        refine lv_irem hx hb d_X_numberOf_21 (by decide) ?_
        refine lv_iadd hx hb d_X_numberOf_22 ?_
        refine lv_imul hx hb d_X_numberOf_23 ?_
        refine lv_iadd hx hb d_X_numberOf_24 ?_
        refine lv_topi (fun x_2 q_3 => ?_)
        have h := h x_2 q_3
        refine lv_istore_n (lv' := [(1, .int x_2), (0, .int v0), (2, .int v2), (3, .int v3)]) hx hb d_X_numberOf_25 rfl hl (by decide) rfl (fun ls hl => ?_)
        refine lv_iload_n hx hb d_X_numberOf_26 rfl (lv_at hl 2 rfl) ?_
        refine lv_bipush (v := 10) hx hb d_X_numberOf_27 (by decide) ?_
        refine lv_idiv hx hb d_X_numberOf_29 (by decide) ?_
        refine lv_topi (fun x_4 q_5 => ?_)
        have h := h x_4 q_5
        refine lv_istore_n (lv' := [(2, .int x_4), (1, .int x_2), (0, .int v0), (3, .int v3)]) hx hb d_X_numberOf_30 rfl hl (by decide) rfl (fun ls hl => ?_)
        obtain ⟨x_6, q_7⟩ : ∃ y : Int32, y = v3 + 1 := ⟨_, rfl⟩
        have h := h x_6 q_7
        refine lv_iinc (v := x_6) (lv' := [(3, .int x_6), (2, .int x_4), (1, .int x_2), (0, .int v0)]) hx hb d_X_numberOf_31 hl (k := 3) rfl (by rw [q_7]; rfl) (by decide) rfl (fun ls hl => ?_)
        refine lv_goto (tgt := 6) hx hb d_X_numberOf_34 (by decide) ?_
        exact ih _ _ _ _ _ _ _ _ hH hK hS (lv_sub hl [3, 2, 1, 0] rfl) h
  have hS : va_S A s.heap s.heap [] := va_S.rf
  have hl := lv_entry ([.int p0]) (n := 4) (Nat.le_of_ble_eq_true rfl)
  rw [lg_entry_eq]
  generalize (lg_sl ([.int p0]) ++ List.replicate (4 - (lg_sl ([.int p0])).length) Slot.unset).toArray = ls at hl ⊢
  have hl : lv_has ls 4 [(0, .int p0)] := hl
  unfold wp_X_numberOf at h
  refine lv_iconst (v := 0) hx hb d_X_numberOf_0 (by decide) ?_
  refine lv_istore_n (lv' := [(1, .int 0), (0, .int p0)]) hx hb d_X_numberOf_1 rfl hl (by decide) rfl (fun ls hl => ?_)
  refine lv_iload_n hx hb d_X_numberOf_2 rfl (lv_at hl 1 rfl) ?_
  refine lv_istore_n (lv' := [(2, .int p0), (1, .int 0), (0, .int p0)]) hx hb d_X_numberOf_3 rfl hl (by decide) rfl (fun ls hl => ?_)
  refine lv_iconst (v := 0) hx hb d_X_numberOf_4 (by decide) ?_
  refine lv_istore_n (lv' := [(3, .int 0), (2, .int p0), (1, .int 0), (0, .int p0)]) hx hb d_X_numberOf_5 rfl hl (by decide) rfl (fun ls hl => ?_)
  obtain ⟨n, h⟩ := h
  exact b_6 n _ _ _ _ _ _ _ _ hH hK hS (lv_sub hl [3, 2, 1, 0] rfl) h
def wp_Order_init (σ : ST) (h0 : Nat) (p1 : Int32) (p2 : Option Nat) (p3 : Int64) (p5 : Int64) (p7 : Option Nat) (p8 : Int32) (K : ST → Prop) : Prop :=
  st_tg σ h0 = some 5 ∧ (∀ σ_2 : ST, σ_2 = st_sI σ 206 h0 0 → (∀ σ_5 : ST, σ_5 = st_sJ σ_2 207 h0 ((-1)) → (∀ σ_8 : ST, σ_8 = st_sI σ_5 200 h0 p1 → (∀ σ_11 : ST, σ_11 = st_sR σ_8 201 h0 p2 → (∀ σ_14 : ST, σ_14 = st_sJ σ_11 202 h0 p3 → (∀ σ_17 : ST, σ_17 = st_sJ σ_14 203 h0 p5 → (∀ σ_20 : ST, σ_20 = st_sR σ_17 204 h0 p7 → (∀ σ_23 : ST, σ_23 = st_sI σ_20 205 h0 p8 → (K σ_23)))))))))
abbrev ROOM_Order_init : Room := { frames := 1, cells := 0, slots := 0, locals := 12 }
set_option maxHeartbeats 4000000 in
set_option maxRecDepth 100000 in
theorem mc_Order_init (l : Launch) (D : va_G) (A : Nat → Prop) (σ : ST) (h0 : Nat) (p1 : Int32) (p2 : Option Nat) (p3 : Int64) (p5 : Int64) (p7 : Option Nat) (p8 : Int32) (K : ST → Prop) : Met l y_Order_init ws_Order_init ROOM_Order_init (va_Pc [.ref h0, .int p1, va_rf p2, .long p3, .long p5, va_rf p7, .int p8] (fun U => mw D A σ U ∧ mn U ∧ wp_Order_init σ h0 p1 p2 p3 p5 p7 p8 K)) (va_Qv K (mw D A) A) 0 0 A := by
  refine Met.ofW (cc := c_Order_init) (maxL := 9) (ret := none) (by decide) rfl ?_
  intro p e s m args below meth c s₁ B hml hv
  obtain ⟨rfl, ⟨hH, hK, hA⟩, hn, h⟩ := hv
  have hx := B.exec
  have hb := B.bytes
  have hr := B.returns
  have hts := atoms_spec (ws := ws_Order_init) B.pre
  have hown : s.vm.findClass R_Order = some m.cls := findClass_of_methodNamed B.named
  have hlocks := B.notSynchronized
  have hin : meth.name = "<init>" := (name_of_methodNamed B.named B.method).1
  have hts : ∀ w ∈ lw_g, w.before ([.ref h0, .int p1, va_rf p2, .long p3, .long p5, va_rf p7, .int p8] : List Value).toArray s = true := fun w hw => hts w (List.mem_cons_of_mem _ hw)
  have hS : va_S A s.heap s.heap [] := va_S.rf
  have hl := lv_entry ([.ref h0, .int p1, va_rf p2, .long p3, .long p5, va_rf p7, .int p8]) (n := 9) (by simp [lg_sl, cat_rf, cat_i, cat_l, cat_r])
  rw [lg_entry_eq]
  generalize (lg_sl ([.ref h0, .int p1, va_rf p2, .long p3, .long p5, va_rf p7, .int p8]) ++ List.replicate (9 - (lg_sl ([.ref h0, .int p1, va_rf p2, .long p3, .long p5, va_rf p7, .int p8])).length) Slot.unset).toArray = ls at hl ⊢
  have hle : lv_args 0 [.ref h0, .int p1, va_rf p2, .long p3, .long p5, va_rf p7, .int p8] = [(0, .ref h0), (1, .int p1), (2, va_rf p2), (3, .long p3), (5, .long p5), (7, va_rf p7), (8, .int p8)] := by simp [lv_args, cat_rf, cat_i, cat_l, cat_r]
  rw [hle] at hl
  have hl : lv_has ls 9 [(0, va_rf (some h0)), (1, .int p1), (2, va_rf p2), (3, .long p3), (5, .long p5), (7, va_rf p7), (8, .int p8)] := hl
  unfold wp_Order_init at h
  refine mr_aload_n hx hb d_Order_init_0 rfl (lv_at hl 0 rfl) ?_
  refine W.objInit hx hb hown (hts _ wd_137) (hts _ wd_15) (hts _ wd_16) rfl (by rw [hml]; exact hl.1) rfl d_Order_init_1 (Nat.le_of_ble_eq_true rfl) (Nat.le_of_ble_eq_true rfl) ?_
  refine W.eq (g2 := F0 m 4 ls []) rfl ?_
  refine mr_aload_n hx hb d_Order_init_4 rfl (lv_at hl 0 rfl) ?_
  refine lv_iconst (v := 0) hx hb d_Order_init_5 (by decide) ?_
  obtain ⟨t_1, h⟩ := h
  obtain ⟨σ_2, z_3⟩ : ∃ y : ST, y = st_sI σ 206 h0 0 := ⟨_, rfl⟩
  have h := h σ_2 z_3
  refine ms_put (σ := σ) (r := some h0) (a := h0) (fs := fl_5 σ h0) (ci := 5) (C := R_Order) (T := T_Order) (N := 11) (v := .int 0) (ty := .int) hx hb hts in_5 ty_Order ty_Order_ok nm_Order hown hK hH hS rfl (cell_5 t_1) rfl 6 (by decide) (hts _ wd_152) (fun _ h9 => h9) rfl (by decide +kernel) rfl rfl (Nat.le_of_ble_eq_true rfl) d_Order_init_6 (σ1 := σ_2) (by rw [z_3]; exact put_5_6 σ h0 0 t_1) (by rw [z_3]; rfl) (by rw [z_3]; rfl) (fun H locs hH hK hS => ?_)
  have t_4 : st_tg σ_2 h0 = some 5 := by rw [z_3]; exact t_1
  refine mr_aload_n hx hb d_Order_init_9 rfl (lv_at hl 0 rfl) ?_
  refine lv_ldc2 (v := (-1)) hx hb hown (hts _ wd_138) d_Order_init_10 ?_
  obtain ⟨σ_5, z_6⟩ : ∃ y : ST, y = st_sJ σ_2 207 h0 ((-1)) := ⟨_, rfl⟩
  have h := h σ_5 z_6
  refine ms_put (σ := σ_2) (r := some h0) (a := h0) (fs := fl_5 σ_2 h0) (ci := 5) (C := R_Order) (T := T_Order) (N := 11) (v := .long (-1)) (ty := .long) hx hb hts in_5 ty_Order ty_Order_ok nm_Order hown hK hH hS rfl (cell_5 t_4) rfl 7 (by decide) (hts _ wd_154) (fun _ h9 => h9) rfl (by decide +kernel) rfl rfl (Nat.le_of_ble_eq_true rfl) d_Order_init_13 (σ1 := σ_5) (by rw [z_6]; exact put_5_7 σ_2 h0 ((-1)) t_4) (by rw [z_6]; rfl) (by rw [z_6]; rfl) (fun H locs hH hK hS => ?_)
  have t_7 : st_tg σ_5 h0 = some 5 := by rw [z_6]; exact t_4
  refine mr_aload_n hx hb d_Order_init_16 rfl (lv_at hl 0 rfl) ?_
  refine lv_iload_n hx hb d_Order_init_17 rfl (lv_at hl 1 rfl) ?_
  obtain ⟨σ_8, z_9⟩ : ∃ y : ST, y = st_sI σ_5 200 h0 p1 := ⟨_, rfl⟩
  have h := h σ_8 z_9
  refine ms_putF (σ := σ_5) (r := some h0) (a := h0) (fs := fl_5 σ_5 h0) (ci := 5) (C := R_Order) (T := T_Order) (N := 11) (v := .int p1) (ty := .int) hx hb hts in_5 ty_Order ty_Order_ok nm_Order hown hK hH hS rfl (cell_5 t_7) rfl 0 (by decide) (hts _ wd_139) (fun _ h9 => h9) rfl hin rfl (by decide +kernel) rfl rfl (Nat.le_of_ble_eq_true rfl) d_Order_init_18 (σ1 := σ_8) (by rw [z_9]; exact put_5_0 σ_5 h0 p1 t_7) (by rw [z_9]; rfl) (by rw [z_9]; rfl) (fun H locs hH hK hS => ?_)
  have t_10 : st_tg σ_8 h0 = some 5 := by rw [z_9]; exact t_7
  refine mr_aload_n hx hb d_Order_init_21 rfl (lv_at hl 0 rfl) ?_
  refine mr_aload_n hx hb d_Order_init_22 rfl (lv_at hl 2 rfl) ?_
  obtain ⟨σ_11, z_12⟩ : ∃ y : ST, y = st_sR σ_8 201 h0 p2 := ⟨_, rfl⟩
  have h := h σ_11 z_12
  refine ms_putF (σ := σ_8) (r := some h0) (a := h0) (fs := fl_5 σ_8 h0) (ci := 5) (C := R_Order) (T := T_Order) (N := 11) (v := va_rf p2) (ty := (.object "OrderMoney$Office")) hx hb hts in_5 ty_Order ty_Order_ok nm_Order hown hK hH hS rfl (cell_5 t_10) rfl 1 (by decide) (hts _ wd_141) (fun _ h9 => h9) rfl hin rfl (by decide +kernel) (nar_rf _ _) (fit_rf _ _) (Nat.le_of_ble_eq_true rfl) d_Order_init_23 (σ1 := σ_11) (by rw [z_12]; exact put_5_1 σ_8 h0 p2 t_10) (by rw [z_12]; rfl) (by rw [z_12]; rfl) (fun H locs hH hK hS => ?_)
  have t_13 : st_tg σ_11 h0 = some 5 := by rw [z_12]; exact t_10
  refine mr_aload_n hx hb d_Order_init_26 rfl (lv_at hl 0 rfl) ?_
  refine lv_lload_n hx hb d_Order_init_27 rfl (lv_at hl 3 rfl) ?_
  obtain ⟨σ_14, z_15⟩ : ∃ y : ST, y = st_sJ σ_11 202 h0 p3 := ⟨_, rfl⟩
  have h := h σ_14 z_15
  refine ms_putF (σ := σ_11) (r := some h0) (a := h0) (fs := fl_5 σ_11 h0) (ci := 5) (C := R_Order) (T := T_Order) (N := 11) (v := .long p3) (ty := .long) hx hb hts in_5 ty_Order ty_Order_ok nm_Order hown hK hH hS rfl (cell_5 t_13) rfl 2 (by decide) (hts _ wd_143) (fun _ h9 => h9) rfl hin rfl (by decide +kernel) rfl rfl (Nat.le_of_ble_eq_true rfl) d_Order_init_28 (σ1 := σ_14) (by rw [z_15]; exact put_5_2 σ_11 h0 p3 t_13) (by rw [z_15]; rfl) (by rw [z_15]; rfl) (fun H locs hH hK hS => ?_)
  have t_16 : st_tg σ_14 h0 = some 5 := by rw [z_15]; exact t_13
  refine mr_aload_n hx hb d_Order_init_31 rfl (lv_at hl 0 rfl) ?_
  refine lv_lload hx hb d_Order_init_32 (lv_at hl 4 rfl) ?_
  obtain ⟨σ_17, z_18⟩ : ∃ y : ST, y = st_sJ σ_14 203 h0 p5 := ⟨_, rfl⟩
  have h := h σ_17 z_18
  refine ms_putF (σ := σ_14) (r := some h0) (a := h0) (fs := fl_5 σ_14 h0) (ci := 5) (C := R_Order) (T := T_Order) (N := 11) (v := .long p5) (ty := .long) hx hb hts in_5 ty_Order ty_Order_ok nm_Order hown hK hH hS rfl (cell_5 t_16) rfl 3 (by decide) (hts _ wd_145) (fun _ h9 => h9) rfl hin rfl (by decide +kernel) rfl rfl (Nat.le_of_ble_eq_true rfl) d_Order_init_34 (σ1 := σ_17) (by rw [z_18]; exact put_5_3 σ_14 h0 p5 t_16) (by rw [z_18]; rfl) (by rw [z_18]; rfl) (fun H locs hH hK hS => ?_)
  have t_19 : st_tg σ_17 h0 = some 5 := by rw [z_18]; exact t_16
  refine mr_aload_n hx hb d_Order_init_37 rfl (lv_at hl 0 rfl) ?_
  refine mr_aload hx hb d_Order_init_38 (lv_at hl 5 rfl) ?_
  obtain ⟨σ_20, z_21⟩ : ∃ y : ST, y = st_sR σ_17 204 h0 p7 := ⟨_, rfl⟩
  have h := h σ_20 z_21
  refine ms_putF (σ := σ_17) (r := some h0) (a := h0) (fs := fl_5 σ_17 h0) (ci := 5) (C := R_Order) (T := T_Order) (N := 11) (v := va_rf p7) (ty := (.object "OrderMoney$Currency")) hx hb hts in_5 ty_Order ty_Order_ok nm_Order hown hK hH hS rfl (cell_5 t_19) rfl 4 (by decide) (hts _ wd_147) (fun _ h9 => h9) rfl hin rfl (by decide +kernel) (nar_rf _ _) (fit_rf _ _) (Nat.le_of_ble_eq_true rfl) d_Order_init_40 (σ1 := σ_20) (by rw [z_21]; exact put_5_4 σ_17 h0 p7 t_19) (by rw [z_21]; rfl) (by rw [z_21]; rfl) (fun H locs hH hK hS => ?_)
  have t_22 : st_tg σ_20 h0 = some 5 := by rw [z_21]; exact t_19
  refine mr_aload_n hx hb d_Order_init_43 rfl (lv_at hl 0 rfl) ?_
  refine lv_iload hx hb d_Order_init_44 (lv_at hl 6 rfl) ?_
  obtain ⟨σ_23, z_24⟩ : ∃ y : ST, y = st_sI σ_20 205 h0 p8 := ⟨_, rfl⟩
  have h := h σ_23 z_24
  refine ms_putF (σ := σ_20) (r := some h0) (a := h0) (fs := fl_5 σ_20 h0) (ci := 5) (C := R_Order) (T := T_Order) (N := 11) (v := .int p8) (ty := .int) hx hb hts in_5 ty_Order ty_Order_ok nm_Order hown hK hH hS rfl (cell_5 t_22) rfl 5 (by decide) (hts _ wd_149) (fun _ h9 => h9) rfl hin rfl (by decide +kernel) rfl rfl (Nat.le_of_ble_eq_true rfl) d_Order_init_46 (σ1 := σ_23) (by rw [z_24]; exact put_5_5 σ_20 h0 p8 t_22) (by rw [z_24]; rfl) (by rw [z_24]; rfl) (fun H locs hH hK hS => ?_)
  have t_25 : st_tg σ_23 h0 = some 5 := by rw [z_24]; exact t_22
  exact W.vret hx hb hr (fun t ht hW => ⟨⟨σ_23, rfl, h, mw_pass hH hK hA hS ht hW⟩, hS.F ht⟩) hS.2.2 d_Order_init_49
def wp_X_addOrder (σ : ST) (h0 : Nat) (p1 : Option Nat) (p2 : Int64) (p4 : Int64) (p6 : Option Nat) (p7 : Int32) (K : Int32 → ST → Prop) : Prop :=
  st_tg σ h0 = some 0 ∧ (wp_X_numberOf σ ((((st_I σ 3 h0)) + 1)) (fun (r_2 : Int32) σ_3 =>
  st_tg σ_3 h0 = some 0 ∧ (∀ q_5 : Nat, st_tg σ_3 q_5 = none → ∀ σ_6 : ST, σ_6 = st_new σ_3 q_5 5 → (wp_Order_init σ_6 q_5 r_2 p1 p2 p4 p6 p7 (fun σ_12 =>
  ∃ a_13 : Nat, (st_R σ_3 2 h0) = some a_13 ∧ st_tg σ_12 a_13 = some 315 ∧ (vp_in ((st_I σ_3 3 h0)) (st_ln σ_12 a_13) ∧ ((∀ y : Nat, some q_5 = some y → st_tg σ_12 y = some 5) ∧ (∀ σ_18 : ST, σ_18 = st_uR σ_12 a_13 (Int32.toNatClampNeg ((st_I σ_3 3 h0))) (some q_5) → (st_tg σ_18 h0 = some 0 ∧ (∀ σ_22 : ST, σ_22 = st_sI σ_18 3 h0 ((((st_I σ_18 3 h0)) + 1)) → (K r_2 σ_22)))))))))))
abbrev ROOM_X_addOrder : Room := { frames := 2, cells := 1, slots := 11, locals := 40 }
set_option maxHeartbeats 4000000 in
set_option maxRecDepth 100000 in
theorem mc_X_addOrder (l : Launch) (D : va_G) (A : Nat → Prop) (σ : ST) (h0 : Nat) (p1 : Option Nat) (p2 : Int64) (p4 : Int64) (p6 : Option Nat) (p7 : Int32) (K : Int32 → ST → Prop) : Met l y_X_addOrder ws_X_addOrder ROOM_X_addOrder (va_Pc [.ref h0, va_rf p1, .long p2, .long p4, va_rf p6, .int p7] (fun U => mw D A σ U ∧ mn U ∧ wp_X_addOrder σ h0 p1 p2 p4 p6 p7 K)) (va_Qi K (mw D A) A) 1 11 A := by
  refine Met.ofW (cc := c_X_addOrder) (maxL := 9) (ret := (some .int)) (by decide) rfl ?_
  intro p e s m args below meth c s₁ B hml hv
  obtain ⟨rfl, ⟨hH, hK, hA⟩, hn, h⟩ := hv
  have hx := B.exec
  have hb := B.bytes
  have hr := B.returns
  have hts := atoms_spec (ws := ws_X_addOrder) B.pre
  have hown : s.vm.findClass R_X = some m.cls := findClass_of_methodNamed B.named
  have hlocks := B.notSynchronized
  have hts : ∀ w ∈ lw_g, w.before ([.ref h0, va_rf p1, .long p2, .long p4, va_rf p6, .int p7] : List Value).toArray s = true := fun w hw => hts w (List.mem_cons_of_mem _ hw)
  have hS : va_S A s.heap s.heap [] := va_S.rf
  have hl := lv_entry ([.ref h0, va_rf p1, .long p2, .long p4, va_rf p6, .int p7]) (n := 9) (by simp [lg_sl, cat_rf, cat_i, cat_l, cat_r])
  rw [lg_entry_eq]
  generalize (lg_sl ([.ref h0, va_rf p1, .long p2, .long p4, va_rf p6, .int p7]) ++ List.replicate (9 - (lg_sl ([.ref h0, va_rf p1, .long p2, .long p4, va_rf p6, .int p7])).length) Slot.unset).toArray = ls at hl ⊢
  have hle : lv_args 0 [.ref h0, va_rf p1, .long p2, .long p4, va_rf p6, .int p7] = [(0, .ref h0), (1, va_rf p1), (2, .long p2), (4, .long p4), (6, va_rf p6), (7, .int p7)] := by simp [lv_args, cat_rf, cat_i, cat_l, cat_r]
  rw [hle] at hl
  have hl : lv_has ls 9 [(0, va_rf (some h0)), (1, va_rf p1), (2, .long p2), (4, .long p4), (6, va_rf p6), (7, .int p7)] := hl
  unfold wp_X_addOrder at h
  refine mr_aload_n hx hb d_X_addOrder_0 rfl (lv_at hl 0 rfl) ?_
  obtain ⟨t_1, h⟩ := h
  refine ms_get (σ := σ) (r := some h0) (a := h0) (fs := fl_0 σ h0) (ci := 0) (C := R_X) (T := T_X) (N := 10) hx hb hts in_0 hown hK hH rfl (cell_0 t_1) rfl 3 (by decide) (hts _ wd_82) (fun _ h9 => h9) (v := .int (st_I σ 3 h0)) rfl d_X_addOrder_1 ?_
  refine lv_iconst (v := 1) hx hb d_X_addOrder_4 (by decide) ?_
  refine lv_iadd hx hb d_X_addOrder_5 ?_
  refine ms_calli (va_runS (As := [.int (((st_I σ 3 h0)) + 1)]) (rest := []) ⟨hx, hb, hml, hown, hts⟩ (mc_X_numberOf l D A σ ((((st_I σ 3 h0)) + 1)) _) ⟨(callB_of 1 hts gw_X_numberOf rfl rfl rfl (hts _ wd_1) (hts _ wd_130) (by decide +kernel) ⟨by decide, by decide⟩), (hts _ wd_131)⟩ ⟨mw_blind, fun U hU hW => ⟨rfl, mw_pass hH hK hA hS hU hW, mn_warm hW hn, h⟩⟩ rfl rfl hl.1 rfl (lv_room (Nat.le_of_ble_eq_true rfl)) d_X_addOrder_6 ⟨by decide, by decide⟩) hS (fun r_2 σ_3 H locs h hH hK hS => ?_)
  refine lv_istore (lv' := [(8, .int r_2), (0, va_rf (some h0)), (1, va_rf p1), (2, .long p2), (4, .long p4), (6, va_rf p6), (7, .int p7)]) hx hb d_X_addOrder_9 hl (by decide) rfl (fun ls hl => ?_)
  refine mr_aload_n hx hb d_X_addOrder_11 rfl (lv_at hl 1 rfl) ?_
  obtain ⟨t_4, h⟩ := h
  refine ms_get (σ := σ_3) (r := some h0) (a := h0) (fs := fl_0 σ_3 h0) (ci := 0) (C := R_X) (T := T_X) (N := 10) hx hb hts in_0 hown hK hH rfl (cell_0 t_4) rfl 2 (by decide) (hts _ wd_81) (fun _ h9 => h9) (v := va_rf (st_R σ_3 2 h0)) rfl d_X_addOrder_12 ?_
  refine mr_aload_n hx hb d_X_addOrder_15 rfl (lv_at hl 1 rfl) ?_
  refine ms_get (σ := σ_3) (r := some h0) (a := h0) (fs := fl_0 σ_3 h0) (ci := 0) (C := R_X) (T := T_X) (N := 10) hx hb hts in_0 hown hK hH rfl (cell_0 t_4) rfl 3 (by decide) (hts _ wd_82) (fun _ h9 => h9) (v := .int (st_I σ_3 3 h0)) rfl d_X_addOrder_16 ?_
  refine ms_new (σ := σ_3) (ci := 5) (fs := df_5) (C := R_Order) (T := T_Order) (N := 11) hx hb hts in_5 ty_Order ty_Order_ok hown (hts _ wd_21) (hts _ wd_133) (hts _ wd_5) hK hH hS hA rfl dfl_5 (by decide) (by decide) d_X_addOrder_19 rfl (new_5 σ_3) (fun q_5 H f_8 hH hK hS => ?_)
  obtain ⟨σ_6, z_7⟩ : ∃ y : ST, y = st_new σ_3 q_5 5 := ⟨_, rfl⟩
  rw [← z_7] at hH hK
  have h := h q_5 f_8 σ_6 z_7
  have t_9 : st_tg σ_6 h0 = some 0 := by rw [z_7, g_tg_new, if_neg (fun y => by rw [y, f_8] at t_4; cases t_4)]; exact t_4
  have t_10 : st_tg σ_6 q_5 = some 5 := by rw [z_7, g_tg_new, if_pos rfl]
  refine lv_dup hx hb d_X_addOrder_22 (cat_rf _) ?_
  refine lv_iload hx hb d_X_addOrder_23 (lv_at hl 0 rfl) ?_
  refine mr_aload_n hx hb d_X_addOrder_25 rfl (lv_at hl 2 rfl) ?_
  refine lv_lload_n hx hb d_X_addOrder_26 rfl (lv_at hl 3 rfl) ?_
  refine lv_lload hx hb d_X_addOrder_27 (lv_at hl 4 rfl) ?_
  refine mr_aload hx hb d_X_addOrder_29 (lv_at hl 5 rfl) ?_
  refine lv_iload hx hb d_X_addOrder_31 (lv_at hl 6 rfl) ?_
  refine ms_callv (va_runI (As := [.int r_2, va_rf p1, .long p2, .long p4, va_rf p6, .int p7]) (rest := [va_rf (some q_5), .int (st_I σ_3 3 h0), va_rf (st_R σ_3 2 h0)]) ⟨hx, hb, hml, hown, hts⟩ (mc_Order_init l D A σ_6 q_5 r_2 p1 p2 p4 p6 p7 _) ⟨(callB_of 6 hts gw_Order_init rfl rfl rfl (hts _ wd_5) (hts _ wd_134) (by decide +kernel) ⟨by decide, by decide⟩), rfl, (hts _ wd_135)⟩ ⟨mw_blind, fun U hU hW => ⟨rfl, mw_pass hH hK hA hS hU hW, mn_warm hW hn, h⟩⟩ rfl rfl hl.1 rfl (lv_room (by simp [cat_rf, cat_i, cat_l, cat_r])) d_X_addOrder_33 ⟨by decide, by decide⟩) hS (fun σ_12 H locs h hH hK hS => ?_)
  refine W.cs (cells' := 1) (slots' := 11) rfl rfl ?_
  obtain ⟨a_13, e_14, t_15, h⟩ := h
  obtain ⟨b_16, h⟩ := h
  obtain ⟨o_17, h⟩ := h
  obtain ⟨σ_18, z_19⟩ : ∃ y : ST, y = st_uR σ_12 a_13 (Int32.toNatClampNeg ((st_I σ_3 3 h0))) (some q_5) := ⟨_, rfl⟩
  have h := h σ_18 z_19
  refine ms_aast (σ := σ_12) (r := (st_R σ_3 2 h0)) (a := a_13) (x := some q_5) (w := (R_Order, T_Order, 11)) (ci := 5) hx hb rfl hK hH hS e_14 t_15 rfl (cell_315 t_15) (fun y hy => ⟨_, cell_5 (o_17 y hy)⟩) b_16 d_X_addOrder_36 (σ1 := σ_18) (by rw [z_19]; exact uput_315 σ_12 a_13 _ (some q_5) t_15) (by rw [z_19]; rfl) (by rw [z_19]; rfl) (fun H locs hH hK hS => ?_)
  have t_20 : st_tg σ_18 a_13 = some 315 := by rw [z_19]; exact t_15
  refine mr_aload_n hx hb d_X_addOrder_37 rfl (lv_at hl 1 rfl) ?_
  refine lv_dup hx hb d_X_addOrder_38 (cat_rf _) ?_
  obtain ⟨t_21, h⟩ := h
  refine ms_get (σ := σ_18) (r := some h0) (a := h0) (fs := fl_0 σ_18 h0) (ci := 0) (C := R_X) (T := T_X) (N := 10) hx hb hts in_0 hown hK hH rfl (cell_0 t_21) rfl 3 (by decide) (hts _ wd_82) (fun _ h9 => h9) (v := .int (st_I σ_18 3 h0)) rfl d_X_addOrder_39 ?_
  refine lv_iconst (v := 1) hx hb d_X_addOrder_42 (by decide) ?_
  refine lv_iadd hx hb d_X_addOrder_43 ?_
  obtain ⟨σ_22, z_23⟩ : ∃ y : ST, y = st_sI σ_18 3 h0 ((((st_I σ_18 3 h0)) + 1)) := ⟨_, rfl⟩
  have h := h σ_22 z_23
  refine ms_put (σ := σ_18) (r := some h0) (a := h0) (fs := fl_0 σ_18 h0) (ci := 0) (C := R_X) (T := T_X) (N := 10) (v := .int (((st_I σ_18 3 h0)) + 1)) (ty := .int) hx hb hts in_0 ty_X ty_X_ok nm_X hown hK hH hS rfl (cell_0 t_21) rfl 3 (by decide) (hts _ wd_82) (fun _ h9 => h9) rfl (by decide +kernel) rfl rfl (Nat.le_of_ble_eq_true rfl) d_X_addOrder_44 (σ1 := σ_22) (by rw [z_23]; exact put_0_3 σ_18 h0 ((((st_I σ_18 3 h0)) + 1)) t_21) (by rw [z_23]; rfl) (by rw [z_23]; rfl) (fun H locs hH hK hS => ?_)
  have t_24 : st_tg σ_22 a_13 = some 315 := by rw [z_23]; exact t_20
  have t_25 : st_tg σ_22 h0 = some 0 := by rw [z_23]; exact t_21
  refine lv_iload hx hb d_X_addOrder_47 (lv_at hl 0 rfl) ?_
  exact W.iret (v := r_2) hx hb hr (fun t ht hW => ⟨⟨r_2, σ_22, rfl, h, mw_pass hH hK hA hS ht hW⟩, hS.F ht⟩) hS.2.2 d_X_addOrder_49
