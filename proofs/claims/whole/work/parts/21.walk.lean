def wb_M_listed_4 (h0 : Nat) (K : Int32 → ST → Prop) : Nat → ST → Int32 → Int32 → Int32 → Prop
  | 0, _, _, _, _ => False
  | n + 1, σ, v1, v2, v3 =>
  st_tg σ h0 = some 1 ∧ ((((((st_I σ 40 h0)) < v3) → K v2 σ) ∧
  ((¬ ((st_I σ 40 h0)) < v3) → ∃ a_3 : Nat, (st_R σ 48 h0) = some a_3 ∧ st_tg σ a_3 = some 301 ∧ (vp_in v3 (st_ln σ a_3) ∧ ((((¬ ((st_eI σ a_3 (Int32.toNatClampNeg v3))) = v1) → ∀ x_8 : Int32, x_8 = (v2 + 0) → (∀ x_10 : Int32, x_10 = v3 + 1 → (wb_M_listed_4 h0 K n σ v1 x_8 x_10))) ∧
  ((((st_eI σ a_3 (Int32.toNatClampNeg v3))) = v1) → ∀ x_12 : Int32, x_12 = (v2 + 1) → (∀ x_14 : Int32, x_14 = v3 + 1 → (wb_M_listed_4 h0 K n σ v1 x_12 x_14)))))))))
def wp_M_listed (σ : ST) (h0 : Nat) (p1 : Int32) (K : Int32 → ST → Prop) : Prop :=
  ∃ n : Nat, wb_M_listed_4 h0 K n σ p1 0 1
abbrev ROOM_M_listed : Room := { frames := 0, cells := 0, slots := 0, locals := 0 }
set_option maxHeartbeats 4000000 in
set_option maxRecDepth 100000 in
theorem mc_M_listed (l : Launch) (D : va_G) (A : Nat → Prop) (σ : ST) (h0 : Nat) (p1 : Int32) (K : Int32 → ST → Prop) : Met l y_M_listed ws_M_listed ROOM_M_listed (va_Pc [.ref h0, .int p1] (fun U => mw D A σ U ∧ mn U ∧ wp_M_listed σ h0 p1 K)) (va_Qi K (mw D A) A) 0 0 A := by
  refine Met.ofW (cc := c_M_listed) (maxL := 4) (ret := (some .int)) (by decide) rfl ?_
  intro p e s m args below meth c s₁ B hml hv
  obtain ⟨rfl, ⟨hH, hK, hA⟩, hn, h⟩ := hv
  have hx := B.exec
  have hb := B.bytes
  have hr := B.returns
  have hts := atoms_spec (ws := ws_M_listed) B.pre
  have hown : s.vm.findClass R_M = some m.cls := findClass_of_methodNamed B.named
  have hlocks := B.notSynchronized
  have hts : ∀ w ∈ lw_g, w.before ([.ref h0, .int p1] : List Value).toArray s = true := fun w hw => hts w (List.mem_cons_of_mem _ hw)
  have b_4 : ∀ (n : Nat), ∀ (σ : ST) (v1 : Int32) (v2 : Int32) (v3 : Int32) (H : Heap) (locs : List Loc) (ls : Array Slot), mg_H D vwCl A (st_cell σ) H → mk_K D σ s → va_S A s.heap H locs → lv_has ls 4 [(0, va_rf (some h0)), (1, .int v1), (2, .int v2), (3, .int v3)] → wb_M_listed_4 h0 K n σ v1 v2 v3 → W p l e (headSpec ws_M_listed ROOM_M_listed).room s m ([.ref h0, .int p1] : List Value).toArray below meth c H locs 0 0 (MQ below (va_Qi K (mw D A) A) ([.ref h0, .int p1] : List Value).toArray s 0 0 A) (F0 m 4 ls []) := by
    intro n
    induction n with
    | zero =>
      intro σ v1 v2 v3 H locs ls hH hK hS hl h
      exact h.elim
    | succ n ih =>
      intro σ v1 v2 v3 H locs ls hH hK hS hl h
      unfold wb_M_listed_4 at h
      refine lv_iload_n hx hb d_M_listed_4 rfl (lv_at hl 3 rfl) ?_
      refine mr_aload_n hx hb d_M_listed_5 rfl (lv_at hl 0 rfl) ?_
      obtain ⟨t_1, h⟩ := h
      refine ms_get (σ := σ) (r := some h0) (a := h0) (fs := fl_1 σ h0) (ci := 1) (C := R_M) (T := T_M) (N := 32) hx hb hts in_1 hown hK hH rfl (cell_1 t_1) rfl 0 (by decide) (hts _ wd_417) (fun _ h9 => h9) (v := .int (st_I σ 40 h0)) rfl d_M_listed_6 ?_
      refine lv_icmp_gt (tgt := 36) hx hb d_M_listed_9 (by decide) (fun c_2 => ?_) (fun c_2 => ?_)
      · have h := h.1 c_2
        refine lv_iload_n hx hb d_M_listed_36 rfl (lv_at hl 2 rfl) ?_
        exact W.iret (v := v2) hx hb hr (fun t ht hW => ⟨⟨v2, σ, rfl, h, mw_pass hH hK hA hS ht hW⟩, hS.F ht⟩) hS.2.2 d_M_listed_37
      · have h := h.2 c_2
        refine lv_iload_n hx hb d_M_listed_12 rfl (lv_at hl 2 rfl) ?_
        refine mr_aload_n hx hb d_M_listed_13 rfl (lv_at hl 0 rfl) ?_
        refine ms_get (σ := σ) (r := some h0) (a := h0) (fs := fl_1 σ h0) (ci := 1) (C := R_M) (T := T_M) (N := 32) hx hb hts in_1 hown hK hH rfl (cell_1 t_1) rfl 8 (by decide) (hts _ wd_425) (fun _ h9 => h9) (v := va_rf (st_R σ 48 h0)) rfl d_M_listed_14 ?_
        refine lv_iload_n hx hb d_M_listed_17 rfl (lv_at hl 3 rfl) ?_
        obtain ⟨a_3, e_4, t_5, h⟩ := h
        obtain ⟨b_6, h⟩ := h
        refine ms_iald (σ := σ) (r := (st_R σ 48 h0)) (a := a_3) hx hb hK hH e_4 t_5 rfl (cell_301 t_5) b_6 d_M_listed_18 ?_
        refine lv_iload_n hx hb d_M_listed_19 rfl (lv_at hl 1 rfl) ?_
        refine lv_icmp_ne (tgt := 27) hx hb d_M_listed_20 (by decide) (fun c_7 => ?_) (fun c_7 => ?_)
        · have h := h.1 c_7
          refine lv_iconst (v := 0) hx hb d_M_listed_27 (by decide) ?_
          refine lv_iadd hx hb d_M_listed_28 ?_
          refine lv_topi (fun x_8 q_9 => ?_)
          have h := h x_8 q_9
          refine lv_istore_n (lv' := [(2, .int x_8), (0, va_rf (some h0)), (1, .int v1), (3, .int v3)]) hx hb d_M_listed_29 rfl hl (by decide) rfl (fun ls hl => ?_)
          obtain ⟨x_10, q_11⟩ : ∃ y : Int32, y = v3 + 1 := ⟨_, rfl⟩
          have h := h x_10 q_11
          refine lv_iinc (v := x_10) (lv' := [(3, .int x_10), (2, .int x_8), (0, va_rf (some h0)), (1, .int v1)]) hx hb d_M_listed_30 hl (k := 3) rfl (by rw [q_11]; rfl) (by decide) rfl (fun ls hl => ?_)
          refine lv_goto (tgt := 4) hx hb d_M_listed_33 (by decide) ?_
          exact ih _ _ _ _ _ _ _ hH hK hS (lv_sub hl [2, 3, 1, 0] rfl) h
        · have h := h.2 c_7
          refine lv_iconst (v := 1) hx hb d_M_listed_23 (by decide) ?_
          refine lv_goto (tgt := 28) hx hb d_M_listed_24 (by decide) ?_
          refine lv_iadd hx hb d_M_listed_28 ?_
          refine lv_topi (fun x_12 q_13 => ?_)
          have h := h x_12 q_13
          refine lv_istore_n (lv' := [(2, .int x_12), (0, va_rf (some h0)), (1, .int v1), (3, .int v3)]) hx hb d_M_listed_29 rfl hl (by decide) rfl (fun ls hl => ?_)
          obtain ⟨x_14, q_15⟩ : ∃ y : Int32, y = v3 + 1 := ⟨_, rfl⟩
          have h := h x_14 q_15
          refine lv_iinc (v := x_14) (lv' := [(3, .int x_14), (2, .int x_12), (0, va_rf (some h0)), (1, .int v1)]) hx hb d_M_listed_30 hl (k := 3) rfl (by rw [q_15]; rfl) (by decide) rfl (fun ls hl => ?_)
          refine lv_goto (tgt := 4) hx hb d_M_listed_33 (by decide) ?_
          exact ih _ _ _ _ _ _ _ hH hK hS (lv_sub hl [2, 3, 1, 0] rfl) h
  have hS : va_S A s.heap s.heap [] := va_S.rf
  have hl := lv_entry ([.ref h0, .int p1]) (n := 4) (Nat.le_of_ble_eq_true rfl)
  rw [lg_entry_eq]
  generalize (lg_sl ([.ref h0, .int p1]) ++ List.replicate (4 - (lg_sl ([.ref h0, .int p1])).length) Slot.unset).toArray = ls at hl ⊢
  have hl : lv_has ls 4 [(0, va_rf (some h0)), (1, .int p1)] := hl
  unfold wp_M_listed at h
  refine lv_iconst (v := 0) hx hb d_M_listed_0 (by decide) ?_
  refine lv_istore_n (lv' := [(2, .int 0), (0, va_rf (some h0)), (1, .int p1)]) hx hb d_M_listed_1 rfl hl (by decide) rfl (fun ls hl => ?_)
  refine lv_iconst (v := 1) hx hb d_M_listed_2 (by decide) ?_
  refine lv_istore_n (lv' := [(3, .int 1), (2, .int 0), (0, va_rf (some h0)), (1, .int p1)]) hx hb d_M_listed_3 rfl hl (by decide) rfl (fun ls hl => ?_)
  obtain ⟨n, h⟩ := h
  exact b_4 n _ _ _ _ _ _ _ hH hK hS (lv_sub hl [2, 3, 1, 0] rfl) h
def wb_M_cut_31 (h0 : Nat) (K : Int32 → ST → Prop) : Nat → ST → Int32 → Int32 → Int32 → Prop
  | 0, _, _, _, _ => False
  | n + 1, σ, v1, v2, v3 =>
  st_tg σ h0 = some 1 ∧ ((((((st_I σ 40 h0)) < v3) → K 1 σ) ∧
  ((¬ ((st_I σ 40 h0)) < v3) → (((¬ v2 = 0) → K 1 σ) ∧
  ((v2 = 0) → ∃ a_19 : Nat, (st_R σ 48 h0) = some a_19 ∧ st_tg σ a_19 = some 301 ∧ (vp_in v3 (st_ln σ a_19) ∧ ((((¬ ((st_eI σ a_19 (Int32.toNatClampNeg v3))) = v1) → vp_in v3 (st_ln σ a_19) ∧ (vp_in v3 (st_ln σ a_19) ∧ (∀ σ_26 : ST, σ_26 = st_uI σ a_19 (Int32.toNatClampNeg v3) ((st_eI σ a_19 (Int32.toNatClampNeg v3))) → (∀ x_30 : Int32, x_30 = v3 + 1 → (wb_M_cut_31 h0 K n σ_26 v1 v2 x_30))))) ∧
  ((((st_eI σ a_19 (Int32.toNatClampNeg v3))) = v1) → vp_in v3 (st_ln σ a_19) ∧ (∀ σ_33 : ST, σ_33 = st_uI σ a_19 (Int32.toNatClampNeg v3) ((-1)) → (∀ x_37 : Int32, x_37 = v3 + 1 → (wb_M_cut_31 h0 K n σ_33 v1 v2 x_37))))))))))))
def wp_M_cut (σ : ST) (h0 : Nat) (p1 : Int32) (p2 : Int32) (K : Int32 → ST → Prop) : Prop :=
  wp_M_isOffice σ p1 (fun (r_1 : Int32) σ_2 =>
  (((¬ r_1 = 0) → st_tg σ_2 h0 = some 1 ∧ (∃ a_5 : Nat, (st_R σ_2 54 h0) = some a_5 ∧ st_tg σ_2 a_5 = some 303 ∧ (vp_in p1 (st_ln σ_2 a_5) ∧ ((((¬ ((st_eI σ_2 a_5 (Int32.toNatClampNeg p1))) = p2) → vp_in p1 (st_ln σ_2 a_5) ∧ ((p2 = 0 ∨ p2 = 1) ∧ (∀ σ_12 : ST, σ_12 = st_uI σ_2 a_5 (Int32.toNatClampNeg p1) p2 → (∃ n : Nat, wb_M_cut_31 h0 K n σ_12 p1 p2 1)))) ∧
  ((((st_eI σ_2 a_5 (Int32.toNatClampNeg p1))) = p2) → K 0 σ_2)))))) ∧
  ((r_1 = 0) → K ((-102)) σ_2)))
abbrev ROOM_M_cut : Room := { frames := 2, cells := 0, slots := 0, locals := 45 }
set_option maxHeartbeats 4000000 in
set_option maxRecDepth 100000 in
theorem mc_M_cut (l : Launch) (D : va_G) (A : Nat → Prop) (σ : ST) (h0 : Nat) (p1 : Int32) (p2 : Int32) (K : Int32 → ST → Prop) : Met l y_M_cut ws_M_cut ROOM_M_cut (va_Pc [.ref h0, .int p1, .int p2] (fun U => mw D A σ U ∧ mn U ∧ wp_M_cut σ h0 p1 p2 K)) (va_Qi K (mw D A) A) 0 0 A := by
  refine Met.ofW (cc := c_M_cut) (maxL := 4) (ret := (some .int)) (by decide) rfl ?_
  intro p e s m args below meth c s₁ B hml hv
  obtain ⟨rfl, ⟨hH, hK, hA⟩, hn, h⟩ := hv
  have hx := B.exec
  have hb := B.bytes
  have hr := B.returns
  have hts := atoms_spec (ws := ws_M_cut) B.pre
  have hown : s.vm.findClass R_M = some m.cls := findClass_of_methodNamed B.named
  have hlocks := B.notSynchronized
  have hts : ∀ w ∈ lw_g, w.before ([.ref h0, .int p1, .int p2] : List Value).toArray s = true := fun w hw => hts w (List.mem_cons_of_mem _ hw)
  have b_31 : ∀ (n : Nat), ∀ (σ : ST) (v1 : Int32) (v2 : Int32) (v3 : Int32) (H : Heap) (locs : List Loc) (ls : Array Slot), mg_H D vwCl A (st_cell σ) H → mk_K D σ s → va_S A s.heap H locs → lv_has ls 4 [(0, va_rf (some h0)), (1, .int v1), (2, .int v2), (3, .int v3)] → wb_M_cut_31 h0 K n σ v1 v2 v3 → W p l e (headSpec ws_M_cut ROOM_M_cut).room s m ([.ref h0, .int p1, .int p2] : List Value).toArray below meth c H locs 0 0 (MQ below (va_Qi K (mw D A) A) ([.ref h0, .int p1, .int p2] : List Value).toArray s 0 0 A) (F0 m 31 ls []) := by
    intro n
    induction n with
    | zero =>
      intro σ v1 v2 v3 H locs ls hH hK hS hl h
      exact h.elim
    | succ n ih =>
      intro σ v1 v2 v3 H locs ls hH hK hS hl h
      unfold wb_M_cut_31 at h
      refine lv_iload_n hx hb d_M_cut_31 rfl (lv_at hl 3 rfl) ?_
      refine mr_aload_n hx hb d_M_cut_32 rfl (lv_at hl 0 rfl) ?_
      obtain ⟨t_16, h⟩ := h
      refine ms_get (σ := σ) (r := some h0) (a := h0) (fs := fl_1 σ h0) (ci := 1) (C := R_M) (T := T_M) (N := 32) hx hb hts in_1 hown hK hH rfl (cell_1 t_16) rfl 0 (by decide) (hts _ wd_417) (fun _ h9 => h9) (v := .int (st_I σ 40 h0)) rfl d_M_cut_33 ?_
      refine lv_icmp_gt (tgt := 75) hx hb d_M_cut_36 (by decide) (fun c_17 => ?_) (fun c_17 => ?_)
      · have h := h.1 c_17
        refine lv_iconst (v := 1) hx hb d_M_cut_75 (by decide) ?_
        exact W.iret (v := 1) hx hb hr (fun t ht hW => ⟨⟨1, σ, rfl, h, mw_pass hH hK hA hS ht hW⟩, hS.F ht⟩) hS.2.2 d_M_cut_76
      · have h := h.2 c_17
        refine lv_iload_n hx hb d_M_cut_39 rfl (lv_at hl 2 rfl) ?_
        refine lv_if_ne (tgt := 75) hx hb d_M_cut_40 (by decide) (fun c_18 => ?_) (fun c_18 => ?_)
        · have h := h.1 c_18
          refine lv_iconst (v := 1) hx hb d_M_cut_75 (by decide) ?_
          exact W.iret (v := 1) hx hb hr (fun t ht hW => ⟨⟨1, σ, rfl, h, mw_pass hH hK hA hS ht hW⟩, hS.F ht⟩) hS.2.2 d_M_cut_76
        · have h := h.2 c_18
          refine mr_aload_n hx hb d_M_cut_43 rfl (lv_at hl 0 rfl) ?_
          refine ms_get (σ := σ) (r := some h0) (a := h0) (fs := fl_1 σ h0) (ci := 1) (C := R_M) (T := T_M) (N := 32) hx hb hts in_1 hown hK hH rfl (cell_1 t_16) rfl 8 (by decide) (hts _ wd_425) (fun _ h9 => h9) (v := va_rf (st_R σ 48 h0)) rfl d_M_cut_44 ?_
          refine lv_iload_n hx hb d_M_cut_47 rfl (lv_at hl 3 rfl) ?_
          refine mr_aload_n hx hb d_M_cut_48 rfl (lv_at hl 0 rfl) ?_
          refine ms_get (σ := σ) (r := some h0) (a := h0) (fs := fl_1 σ h0) (ci := 1) (C := R_M) (T := T_M) (N := 32) hx hb hts in_1 hown hK hH rfl (cell_1 t_16) rfl 8 (by decide) (hts _ wd_425) (fun _ h9 => h9) (v := va_rf (st_R σ 48 h0)) rfl d_M_cut_49 ?_
          refine lv_iload_n hx hb d_M_cut_52 rfl (lv_at hl 3 rfl) ?_
          obtain ⟨a_19, e_20, t_21, h⟩ := h
          obtain ⟨b_22, h⟩ := h
          refine ms_iald (σ := σ) (r := (st_R σ 48 h0)) (a := a_19) hx hb hK hH e_20 t_21 rfl (cell_301 t_21) b_22 d_M_cut_53 ?_
          refine lv_iload_n hx hb d_M_cut_54 rfl (lv_at hl 1 rfl) ?_
          refine lv_icmp_ne (tgt := 62) hx hb d_M_cut_55 (by decide) (fun c_23 => ?_) (fun c_23 => ?_)
          · have h := h.1 c_23
            refine mr_aload_n hx hb d_M_cut_62 rfl (lv_at hl 0 rfl) ?_
            refine ms_get (σ := σ) (r := some h0) (a := h0) (fs := fl_1 σ h0) (ci := 1) (C := R_M) (T := T_M) (N := 32) hx hb hts in_1 hown hK hH rfl (cell_1 t_16) rfl 8 (by decide) (hts _ wd_425) (fun _ h9 => h9) (v := va_rf (st_R σ 48 h0)) rfl d_M_cut_63 ?_
            refine lv_iload_n hx hb d_M_cut_66 rfl (lv_at hl 3 rfl) ?_
            obtain ⟨b_24, h⟩ := h
            refine ms_iald (σ := σ) (r := (st_R σ 48 h0)) (a := a_19) hx hb hK hH e_20 t_21 rfl (cell_301 t_21) b_24 d_M_cut_67 ?_
            obtain ⟨b_25, h⟩ := h
            obtain ⟨σ_26, z_27⟩ : ∃ y : ST, y = st_uI σ a_19 (Int32.toNatClampNeg v3) ((st_eI σ a_19 (Int32.toNatClampNeg v3))) := ⟨_, rfl⟩
            have h := h σ_26 z_27
            refine ms_iast (σ := σ) (r := (st_R σ 48 h0)) (a := a_19) (x := (st_eI σ a_19 (Int32.toNatClampNeg v3))) hx hb hK hH hS e_20 t_21 rfl (cell_301 t_21)  b_25 d_M_cut_68 (σ1 := σ_26) (by rw [z_27]; exact uput_301 σ a_19 _ ((st_eI σ a_19 (Int32.toNatClampNeg v3))) t_21) (by rw [z_27]; rfl) (by rw [z_27]; rfl) (fun H locs hH hK hS => ?_)
            have t_28 : st_tg σ_26 h0 = some 1 := by rw [z_27]; exact t_16
            have t_29 : st_tg σ_26 a_19 = some 301 := by rw [z_27]; exact t_21
            obtain ⟨x_30, q_31⟩ : ∃ y : Int32, y = v3 + 1 := ⟨_, rfl⟩
            have h := h x_30 q_31
            refine lv_iinc (v := x_30) (lv' := [(3, .int x_30), (0, va_rf (some h0)), (1, .int v1), (2, .int v2)]) hx hb d_M_cut_69 hl (k := 3) rfl (by rw [q_31]; rfl) (by decide) rfl (fun ls hl => ?_)
            refine lv_goto (tgt := 31) hx hb d_M_cut_72 (by decide) ?_
            exact ih _ _ _ _ _ _ _ hH hK hS (lv_sub hl [1, 2, 3, 0] rfl) h
          · have h := h.2 c_23
            refine lv_iconst (v := (-1)) hx hb d_M_cut_58 (by decide) ?_
            refine lv_goto (tgt := 68) hx hb d_M_cut_59 (by decide) ?_
            obtain ⟨b_32, h⟩ := h
            obtain ⟨σ_33, z_34⟩ : ∃ y : ST, y = st_uI σ a_19 (Int32.toNatClampNeg v3) ((-1)) := ⟨_, rfl⟩
            have h := h σ_33 z_34
            refine ms_iast (σ := σ) (r := (st_R σ 48 h0)) (a := a_19) (x := (-1)) hx hb hK hH hS e_20 t_21 rfl (cell_301 t_21)  b_32 d_M_cut_68 (σ1 := σ_33) (by rw [z_34]; exact uput_301 σ a_19 _ ((-1)) t_21) (by rw [z_34]; rfl) (by rw [z_34]; rfl) (fun H locs hH hK hS => ?_)
            have t_35 : st_tg σ_33 h0 = some 1 := by rw [z_34]; exact t_16
            have t_36 : st_tg σ_33 a_19 = some 301 := by rw [z_34]; exact t_21
            obtain ⟨x_37, q_38⟩ : ∃ y : Int32, y = v3 + 1 := ⟨_, rfl⟩
            have h := h x_37 q_38
            refine lv_iinc (v := x_37) (lv' := [(3, .int x_37), (0, va_rf (some h0)), (1, .int v1), (2, .int v2)]) hx hb d_M_cut_69 hl (k := 3) rfl (by rw [q_38]; rfl) (by decide) rfl (fun ls hl => ?_)
            refine lv_goto (tgt := 31) hx hb d_M_cut_72 (by decide) ?_
            exact ih _ _ _ _ _ _ _ hH hK hS (lv_sub hl [1, 2, 3, 0] rfl) h
  have hS : va_S A s.heap s.heap [] := va_S.rf
  have hl := lv_entry ([.ref h0, .int p1, .int p2]) (n := 4) (Nat.le_of_ble_eq_true rfl)
  rw [lg_entry_eq]
  generalize (lg_sl ([.ref h0, .int p1, .int p2]) ++ List.replicate (4 - (lg_sl ([.ref h0, .int p1, .int p2])).length) Slot.unset).toArray = ls at hl ⊢
  have hl : lv_has ls 4 [(0, va_rf (some h0)), (1, .int p1), (2, .int p2)] := hl
  unfold wp_M_cut at h
  refine lv_iload_n hx hb d_M_cut_0 rfl (lv_at hl 1 rfl) ?_
  refine ms_calli (va_runS (As := [.int p1]) (rest := []) ⟨hx, hb, hml, hown, hts⟩ (mc_M_isOffice l D A σ p1 _) ⟨(callB_of 1 hts gw_M_isOffice rfl rfl rfl (hts _ wd_4) (hts _ wd_520) (by decide +kernel) ⟨by decide, by decide⟩), (hts _ wd_521)⟩ ⟨mw_blind, fun U hU hW => ⟨rfl, mw_pass hH hK hA hS hU hW, mn_warm hW hn, h⟩⟩ rfl rfl hl.1 rfl (lv_room (Nat.le_of_ble_eq_true rfl)) d_M_cut_1 ⟨by decide, by decide⟩) hS (fun r_1 σ_2 H locs h hH hK hS => ?_)
  refine lv_if_ne (tgt := 10) hx hb d_M_cut_4 (by decide) (fun c_3 => ?_) (fun c_3 => ?_)
  · have h := h.1 c_3
    refine mr_aload_n hx hb d_M_cut_10 rfl (lv_at hl 0 rfl) ?_
    obtain ⟨t_4, h⟩ := h
    refine ms_get (σ := σ_2) (r := some h0) (a := h0) (fs := fl_1 σ_2 h0) (ci := 1) (C := R_M) (T := T_M) (N := 32) hx hb hts in_1 hown hK hH rfl (cell_1 t_4) rfl 14 (by decide) (hts _ wd_431) (fun _ h9 => h9) (v := va_rf (st_R σ_2 54 h0)) rfl d_M_cut_11 ?_
    refine lv_iload_n hx hb d_M_cut_14 rfl (lv_at hl 1 rfl) ?_
    obtain ⟨a_5, e_6, t_7, h⟩ := h
    obtain ⟨b_8, h⟩ := h
    refine ms_zald (σ := σ_2) (r := (st_R σ_2 54 h0)) (a := a_5) hx hb hK hH e_6 t_7 rfl (cell_303 t_7) b_8 d_M_cut_15 ?_
    refine lv_iload_n hx hb d_M_cut_16 rfl (lv_at hl 2 rfl) ?_
    refine lv_icmp_ne (tgt := 22) hx hb d_M_cut_17 (by decide) (fun c_9 => ?_) (fun c_9 => ?_)
    · have h := h.1 c_9
      refine mr_aload_n hx hb d_M_cut_22 rfl (lv_at hl 0 rfl) ?_
      refine ms_get (σ := σ_2) (r := some h0) (a := h0) (fs := fl_1 σ_2 h0) (ci := 1) (C := R_M) (T := T_M) (N := 32) hx hb hts in_1 hown hK hH rfl (cell_1 t_4) rfl 14 (by decide) (hts _ wd_431) (fun _ h9 => h9) (v := va_rf (st_R σ_2 54 h0)) rfl d_M_cut_23 ?_
      refine lv_iload_n hx hb d_M_cut_26 rfl (lv_at hl 1 rfl) ?_
      refine lv_iload_n hx hb d_M_cut_27 rfl (lv_at hl 2 rfl) ?_
      obtain ⟨b_10, h⟩ := h
      obtain ⟨n_11, h⟩ := h
      obtain ⟨σ_12, z_13⟩ : ∃ y : ST, y = st_uI σ_2 a_5 (Int32.toNatClampNeg p1) p2 := ⟨_, rfl⟩
      have h := h σ_12 z_13
      refine ms_zast (σ := σ_2) (r := (st_R σ_2 54 h0)) (a := a_5) (x := p2) hx hb hK hH hS e_6 t_7 rfl (cell_303 t_7) n_11 b_10 d_M_cut_28 (σ1 := σ_12) (by rw [z_13]; exact uput_303 σ_2 a_5 _ p2 t_7) (by rw [z_13]; rfl) (by rw [z_13]; rfl) (fun H locs hH hK hS => ?_)
      have t_14 : st_tg σ_12 h0 = some 1 := by rw [z_13]; exact t_4
      have t_15 : st_tg σ_12 a_5 = some 303 := by rw [z_13]; exact t_7
      refine lv_iconst (v := 1) hx hb d_M_cut_29 (by decide) ?_
      refine lv_istore_n (lv' := [(3, .int 1), (0, va_rf (some h0)), (1, .int p1), (2, .int p2)]) hx hb d_M_cut_30 rfl hl (by decide) rfl (fun ls hl => ?_)
      obtain ⟨n, h⟩ := h
      exact b_31 n _ _ _ _ _ _ _ hH hK hS (lv_sub hl [1, 2, 3, 0] rfl) h
    · have h := h.2 c_9
      refine lv_iconst (v := 0) hx hb d_M_cut_20 (by decide) ?_
      exact W.iret (v := 0) hx hb hr (fun t ht hW => ⟨⟨0, σ_2, rfl, h, mw_pass hH hK hA hS ht hW⟩, hS.F ht⟩) hS.2.2 d_M_cut_21
  · have h := h.2 c_3
    refine lv_bipush (v := (-102)) hx hb d_M_cut_7 (by decide) ?_
    exact W.iret (v := (-102)) hx hb hr (fun t ht hW => ⟨⟨(-102), σ_2, rfl, h, mw_pass hH hK hA hS ht hW⟩, hS.F ht⟩) hS.2.2 d_M_cut_9
def wp_M_list (σ : ST) (h0 : Nat) (p1 : Int32) (p2 : Int64) (K : Int32 → ST → Prop) : Prop :=
  st_tg σ h0 = some 1 ∧ (wp_M_find σ h0 p2 (fun (r_2 : Int32) σ_3 =>
  (((¬ r_2 = 0) → wp_M_isOffice σ_3 p1 (fun (r_5 : Int32) σ_6 =>
  (((¬ r_5 = 0) → st_tg σ_6 h0 = some 1 ∧ (∃ a_9 : Nat, (st_R σ_6 41 h0) = some a_9 ∧ st_tg σ_6 a_9 = some 301 ∧ (vp_in r_2 (st_ln σ_6 a_9) ∧ ((((¬ ((st_eI σ_6 a_9 (Int32.toNatClampNeg r_2))) = 0) → K ((-103)) σ_6) ∧
  ((((st_eI σ_6 a_9 (Int32.toNatClampNeg r_2))) = 0) → ∃ a_14 : Nat, (st_R σ_6 48 h0) = some a_14 ∧ st_tg σ_6 a_14 = some 301 ∧ (vp_in r_2 (st_ln σ_6 a_14) ∧ ((((¬ ((st_eI σ_6 a_14 (Int32.toNatClampNeg r_2))) = ((-1) : Int32)) → K ((-103)) σ_6) ∧
  ((((st_eI σ_6 a_14 (Int32.toNatClampNeg r_2))) = ((-1) : Int32)) → ∃ a_19 : Nat, (st_R σ_6 54 h0) = some a_19 ∧ st_tg σ_6 a_19 = some 303 ∧ (vp_in p1 (st_ln σ_6 a_19) ∧ ((((((st_eI σ_6 a_19 (Int32.toNatClampNeg p1))) = 0) → wp_M_listed σ_6 h0 p1 (fun (r_24 : Int32) σ_25 =>
  (((¬ r_24 = (8 : Int32)) → st_tg σ_25 h0 = some 1 ∧ (∃ a_28 : Nat, (st_R σ_25 48 h0) = some a_28 ∧ st_tg σ_25 a_28 = some 301 ∧ (vp_in r_2 (st_ln σ_25 a_28) ∧ (∀ σ_32 : ST, σ_32 = st_uI σ_25 a_28 (Int32.toNatClampNeg r_2) p1 → (wp_M_listed σ_32 h0 p1 (fun (r_36 : Int32) σ_37 =>
  K r_36 σ_37)))))) ∧
  ((r_24 = (8 : Int32)) → K ((-104)) σ_25)))) ∧
  ((¬ ((st_eI σ_6 a_19 (Int32.toNatClampNeg p1))) = 0) → K ((-103)) σ_6)))))))))))))) ∧
  ((r_5 = 0) → K ((-102)) σ_6)))) ∧
  ((r_2 = 0) → K ((-101)) σ_3))))
abbrev ROOM_M_list : Room := { frames := 2, cells := 0, slots := 0, locals := 46 }
set_option maxHeartbeats 4000000 in
set_option maxRecDepth 100000 in
theorem mc_M_list (l : Launch) (D : va_G) (A : Nat → Prop) (σ : ST) (h0 : Nat) (p1 : Int32) (p2 : Int64) (K : Int32 → ST → Prop) : Met l y_M_list ws_M_list ROOM_M_list (va_Pc [.ref h0, .int p1, .long p2] (fun U => mw D A σ U ∧ mn U ∧ wp_M_list σ h0 p1 p2 K)) (va_Qi K (mw D A) A) 0 0 A := by
  refine Met.ofW (cc := c_M_list) (maxL := 5) (ret := (some .int)) (by decide) rfl ?_
  intro p e s m args below meth c s₁ B hml hv
  obtain ⟨rfl, ⟨hH, hK, hA⟩, hn, h⟩ := hv
  have hx := B.exec
  have hb := B.bytes
  have hr := B.returns
  have hts := atoms_spec (ws := ws_M_list) B.pre
  have hown : s.vm.findClass R_M = some m.cls := findClass_of_methodNamed B.named
  have hlocks := B.notSynchronized
  have hts : ∀ w ∈ lw_g, w.before ([.ref h0, .int p1, .long p2] : List Value).toArray s = true := fun w hw => hts w (List.mem_cons_of_mem _ hw)
  have hS : va_S A s.heap s.heap [] := va_S.rf
  have hl := lv_entry ([.ref h0, .int p1, .long p2]) (n := 5) (Nat.le_of_ble_eq_true rfl)
  rw [lg_entry_eq]
  generalize (lg_sl ([.ref h0, .int p1, .long p2]) ++ List.replicate (5 - (lg_sl ([.ref h0, .int p1, .long p2])).length) Slot.unset).toArray = ls at hl ⊢
  have hl : lv_has ls 5 [(0, va_rf (some h0)), (1, .int p1), (2, .long p2)] := hl
  unfold wp_M_list at h
  refine mr_aload_n hx hb d_M_list_0 rfl (lv_at hl 0 rfl) ?_
  refine lv_lload_n hx hb d_M_list_1 rfl (lv_at hl 2 rfl) ?_
  obtain ⟨t_1, h⟩ := h
  refine ms_calli (va_runV (As := [.long p2]) (rest := []) ⟨hx, hb, hml, hown, hts⟩ (mc_M_find l D A σ h0 p2 _) ⟨(callB_of 1 hts gw_M_find rfl rfl rfl (hts _ wd_4) (hts _ wd_540) (by decide +kernel) ⟨by decide, by decide⟩), (hts _ wd_542), (hts _ wq_13)⟩ ⟨mw_blind, mg_recv hK.1 hH (ci := 1) rfl (cell_1 t_1), fun U hU hW => ⟨rfl, mw_pass hH hK hA hS hU hW, mn_warm hW hn, h⟩⟩ rfl rfl hl.1 rfl (lv_room (Nat.le_of_ble_eq_true rfl)) d_M_list_2 ⟨by decide, by decide⟩) hS (fun r_2 σ_3 H locs h hH hK hS => ?_)
  refine lv_istore (lv' := [(4, .int r_2), (0, va_rf (some h0)), (1, .int p1), (2, .long p2)]) hx hb d_M_list_5 hl (by decide) rfl (fun ls hl => ?_)
  refine lv_iload hx hb d_M_list_7 (lv_at hl 0 rfl) ?_
  refine lv_if_ne (tgt := 15) hx hb d_M_list_9 (by decide) (fun c_4 => ?_) (fun c_4 => ?_)
  · have h := h.1 c_4
    refine lv_iload_n hx hb d_M_list_15 rfl (lv_at hl 2 rfl) ?_
    refine ms_calli (va_runS (As := [.int p1]) (rest := []) ⟨hx, hb, hml, hown, hts⟩ (mc_M_isOffice l D A σ_3 p1 _) ⟨(callB_of 1 hts gw_M_isOffice rfl rfl rfl (hts _ wd_4) (hts _ wd_520) (by decide +kernel) ⟨by decide, by decide⟩), (hts _ wd_521)⟩ ⟨mw_blind, fun U hU hW => ⟨rfl, mw_pass hH hK hA hS hU hW, mn_warm hW hn, h⟩⟩ rfl rfl hl.1 rfl (lv_room (Nat.le_of_ble_eq_true rfl)) d_M_list_16 ⟨by decide, by decide⟩) hS (fun r_5 σ_6 H locs h hH hK hS => ?_)
    refine lv_if_ne (tgt := 25) hx hb d_M_list_19 (by decide) (fun c_7 => ?_) (fun c_7 => ?_)
    · have h := h.1 c_7
      refine mr_aload_n hx hb d_M_list_25 rfl (lv_at hl 1 rfl) ?_
      obtain ⟨t_8, h⟩ := h
      refine ms_get (σ := σ_6) (r := some h0) (a := h0) (fs := fl_1 σ_6 h0) (ci := 1) (C := R_M) (T := T_M) (N := 32) hx hb hts in_1 hown hK hH rfl (cell_1 t_8) rfl 1 (by decide) (hts _ wd_418) (fun _ h9 => h9) (v := va_rf (st_R σ_6 41 h0)) rfl d_M_list_26 ?_
      refine lv_iload hx hb d_M_list_29 (lv_at hl 0 rfl) ?_
      obtain ⟨a_9, e_10, t_11, h⟩ := h
      obtain ⟨b_12, h⟩ := h
      refine ms_iald (σ := σ_6) (r := (st_R σ_6 41 h0)) (a := a_9) hx hb hK hH e_10 t_11 rfl (cell_301 t_11) b_12 d_M_list_31 ?_
      refine lv_if_ne (tgt := 55) hx hb d_M_list_32 (by decide) (fun c_13 => ?_) (fun c_13 => ?_)
      · have h := h.1 c_13
        refine lv_bipush (v := (-103)) hx hb d_M_list_55 (by decide) ?_
        exact W.iret (v := (-103)) hx hb hr (fun t ht hW => ⟨⟨(-103), σ_6, rfl, h, mw_pass hH hK hA hS ht hW⟩, hS.F ht⟩) hS.2.2 d_M_list_57
      · have h := h.2 c_13
        refine mr_aload_n hx hb d_M_list_35 rfl (lv_at hl 1 rfl) ?_
        refine ms_get (σ := σ_6) (r := some h0) (a := h0) (fs := fl_1 σ_6 h0) (ci := 1) (C := R_M) (T := T_M) (N := 32) hx hb hts in_1 hown hK hH rfl (cell_1 t_8) rfl 8 (by decide) (hts _ wd_425) (fun _ h9 => h9) (v := va_rf (st_R σ_6 48 h0)) rfl d_M_list_36 ?_
        refine lv_iload hx hb d_M_list_39 (lv_at hl 0 rfl) ?_
        obtain ⟨a_14, e_15, t_16, h⟩ := h
        obtain ⟨b_17, h⟩ := h
        refine ms_iald (σ := σ_6) (r := (st_R σ_6 48 h0)) (a := a_14) hx hb hK hH e_15 t_16 rfl (cell_301 t_16) b_17 d_M_list_41 ?_
        refine lv_iconst (v := (-1)) hx hb d_M_list_42 (by decide) ?_
        refine lv_icmp_ne (tgt := 55) hx hb d_M_list_43 (by decide) (fun c_18 => ?_) (fun c_18 => ?_)
        · have h := h.1 c_18
          refine lv_bipush (v := (-103)) hx hb d_M_list_55 (by decide) ?_
          exact W.iret (v := (-103)) hx hb hr (fun t ht hW => ⟨⟨(-103), σ_6, rfl, h, mw_pass hH hK hA hS ht hW⟩, hS.F ht⟩) hS.2.2 d_M_list_57
        · have h := h.2 c_18
          refine mr_aload_n hx hb d_M_list_46 rfl (lv_at hl 1 rfl) ?_
          refine ms_get (σ := σ_6) (r := some h0) (a := h0) (fs := fl_1 σ_6 h0) (ci := 1) (C := R_M) (T := T_M) (N := 32) hx hb hts in_1 hown hK hH rfl (cell_1 t_8) rfl 14 (by decide) (hts _ wd_431) (fun _ h9 => h9) (v := va_rf (st_R σ_6 54 h0)) rfl d_M_list_47 ?_
          refine lv_iload_n hx hb d_M_list_50 rfl (lv_at hl 2 rfl) ?_
          obtain ⟨a_19, e_20, t_21, h⟩ := h
          obtain ⟨b_22, h⟩ := h
          refine ms_zald (σ := σ_6) (r := (st_R σ_6 54 h0)) (a := a_19) hx hb hK hH e_20 t_21 rfl (cell_303 t_21) b_22 d_M_list_51 ?_
          refine lv_if_eq (tgt := 58) hx hb d_M_list_52 (by decide) (fun c_23 => ?_) (fun c_23 => ?_)
          · have h := h.1 c_23
            refine mr_aload_n hx hb d_M_list_58 rfl (lv_at hl 1 rfl) ?_
            refine lv_iload_n hx hb d_M_list_59 rfl (lv_at hl 2 rfl) ?_
            refine ms_calli (va_runV (As := [.int p1]) (rest := []) ⟨hx, hb, hml, hown, hts⟩ (mc_M_listed l D A σ_6 h0 p1 _) ⟨(callB_of 1 hts gw_M_listed rfl rfl rfl (hts _ wd_4) (hts _ wd_596) (by decide +kernel) ⟨by decide, by decide⟩), (hts _ wd_598), (hts _ wq_16)⟩ ⟨mw_blind, mg_recv hK.1 hH (ci := 1) rfl (cell_1 t_8), fun U hU hW => ⟨rfl, mw_pass hH hK hA hS hU hW, mn_warm hW hn, h⟩⟩ rfl rfl hl.1 rfl (lv_room (Nat.le_of_ble_eq_true rfl)) d_M_list_60 ⟨by decide, by decide⟩) hS (fun r_24 σ_25 H locs h hH hK hS => ?_)
            refine lv_bipush (v := 8) hx hb d_M_list_63 (by decide) ?_
            refine lv_icmp_ne (tgt := 71) hx hb d_M_list_65 (by decide) (fun c_26 => ?_) (fun c_26 => ?_)
            · have h := h.1 c_26
              refine mr_aload_n hx hb d_M_list_71 rfl (lv_at hl 1 rfl) ?_
              obtain ⟨t_27, h⟩ := h
              refine ms_get (σ := σ_25) (r := some h0) (a := h0) (fs := fl_1 σ_25 h0) (ci := 1) (C := R_M) (T := T_M) (N := 32) hx hb hts in_1 hown hK hH rfl (cell_1 t_27) rfl 8 (by decide) (hts _ wd_425) (fun _ h9 => h9) (v := va_rf (st_R σ_25 48 h0)) rfl d_M_list_72 ?_
              refine lv_iload hx hb d_M_list_75 (lv_at hl 0 rfl) ?_
              refine lv_iload_n hx hb d_M_list_77 rfl (lv_at hl 2 rfl) ?_
              obtain ⟨a_28, e_29, t_30, h⟩ := h
              obtain ⟨b_31, h⟩ := h
              obtain ⟨σ_32, z_33⟩ : ∃ y : ST, y = st_uI σ_25 a_28 (Int32.toNatClampNeg r_2) p1 := ⟨_, rfl⟩
              have h := h σ_32 z_33
              refine ms_iast (σ := σ_25) (r := (st_R σ_25 48 h0)) (a := a_28) (x := p1) hx hb hK hH hS e_29 t_30 rfl (cell_301 t_30)  b_31 d_M_list_78 (σ1 := σ_32) (by rw [z_33]; exact uput_301 σ_25 a_28 _ p1 t_30) (by rw [z_33]; rfl) (by rw [z_33]; rfl) (fun H locs hH hK hS => ?_)
              have t_34 : st_tg σ_32 h0 = some 1 := by rw [z_33]; exact t_27
              have t_35 : st_tg σ_32 a_28 = some 301 := by rw [z_33]; exact t_30
              refine mr_aload_n hx hb d_M_list_79 rfl (lv_at hl 1 rfl) ?_
              refine lv_iload_n hx hb d_M_list_80 rfl (lv_at hl 2 rfl) ?_
              refine ms_calli (va_runV (As := [.int p1]) (rest := []) ⟨hx, hb, hml, hown, hts⟩ (mc_M_listed l D A σ_32 h0 p1 _) ⟨(callB_of 1 hts gw_M_listed rfl rfl rfl (hts _ wd_4) (hts _ wd_596) (by decide +kernel) ⟨by decide, by decide⟩), (hts _ wd_598), (hts _ wq_16)⟩ ⟨mw_blind, mg_recv hK.1 hH (ci := 1) rfl (cell_1 t_34), fun U hU hW => ⟨rfl, mw_pass hH hK hA hS hU hW, mn_warm hW hn, h⟩⟩ rfl rfl hl.1 rfl (lv_room (Nat.le_of_ble_eq_true rfl)) d_M_list_81 ⟨by decide, by decide⟩) hS (fun r_36 σ_37 H locs h hH hK hS => ?_)
              exact W.iret (v := r_36) hx hb hr (fun t ht hW => ⟨⟨r_36, σ_37, rfl, h, mw_pass hH hK hA hS ht hW⟩, hS.F ht⟩) hS.2.2 d_M_list_84
            · have h := h.2 c_26
              refine lv_bipush (v := (-104)) hx hb d_M_list_68 (by decide) ?_
              exact W.iret (v := (-104)) hx hb hr (fun t ht hW => ⟨⟨(-104), σ_25, rfl, h, mw_pass hH hK hA hS ht hW⟩, hS.F ht⟩) hS.2.2 d_M_list_70
          · have h := h.2 c_23
            refine lv_bipush (v := (-103)) hx hb d_M_list_55 (by decide) ?_
            exact W.iret (v := (-103)) hx hb hr (fun t ht hW => ⟨⟨(-103), σ_6, rfl, h, mw_pass hH hK hA hS ht hW⟩, hS.F ht⟩) hS.2.2 d_M_list_57
    · have h := h.2 c_7
      refine lv_bipush (v := (-102)) hx hb d_M_list_22 (by decide) ?_
      exact W.iret (v := (-102)) hx hb hr (fun t ht hW => ⟨⟨(-102), σ_6, rfl, h, mw_pass hH hK hA hS ht hW⟩, hS.F ht⟩) hS.2.2 d_M_list_24
  · have h := h.2 c_4
    refine lv_bipush (v := (-101)) hx hb d_M_list_12 (by decide) ?_
    exact W.iret (v := (-101)) hx hb hr (fun t ht hW => ⟨⟨(-101), σ_3, rfl, h, mw_pass hH hK hA hS ht hW⟩, hS.F ht⟩) hS.2.2 d_M_list_14
def wb_M_set_101 (h0 : Nat) (K : Int32 → ST → Prop) (σ : ST) (v1 : Int32) (v2 : Int32) (v3 : Int64) : Prop :=
  (((¬ v1 = 0) → (((¬ v1 = (1 : Int32)) → st_tg σ h0 = some 1 ∧ (∃ a_18 : Nat, (st_R σ 51 h0) = some a_18 ∧ st_tg σ a_18 = some 302 ∧ (vp_in v2 (st_ln σ a_18) ∧ (∀ σ_22 : ST, σ_22 = st_uJ σ a_18 (Int32.toNatClampNeg v2) v3 → (K 1 σ_22))))) ∧
  ((v1 = (1 : Int32)) → st_tg σ h0 = some 1 ∧ (∃ a_27 : Nat, (st_R σ 53 h0) = some a_27 ∧ st_tg σ a_27 = some 302 ∧ (vp_in v2 (st_ln σ a_27) ∧ (∀ σ_31 : ST, σ_31 = st_uJ σ a_27 (Int32.toNatClampNeg v2) v3 → (K 1 σ_31))))))) ∧
  ((v1 = 0) → st_tg σ h0 = some 1 ∧ (∃ a_36 : Nat, (st_R σ 52 h0) = some a_36 ∧ st_tg σ a_36 = some 302 ∧ (vp_in v2 (st_ln σ a_36) ∧ (vp_in v2 (st_ln σ a_36) ∧ (∀ σ_41 : ST, σ_41 = st_uJ σ a_36 (Int32.toNatClampNeg v2) ((((st_eJ σ a_36 (Int32.toNatClampNeg v2))) + v3)) → (∃ a_45 : Nat, (st_R σ_41 71 h0) = some a_45 ∧ st_tg σ_41 a_45 = some 302 ∧ (vp_in 5 (st_ln σ_41 a_45) ∧ (vp_in 5 (st_ln σ_41 a_45) ∧ (∀ σ_50 : ST, σ_50 = st_uJ σ_41 a_45 (Int32.toNatClampNeg 5) ((((st_eJ σ_41 a_45 (Int32.toNatClampNeg 5))) + v3)) → (K 1 σ_50)))))))))))
def wb_M_set_72 (h0 : Nat) (K : Int32 → ST → Prop) (σ : ST) (v1 : Int32) (v2 : Int32) (v3 : Int64) (s0 : Int64) (s1 : Int64) (s2 : Int64) : Prop :=
  wp_M_in σ s2 s1 s0 (fun (r_11 : Int32) σ_12 =>
  (((¬ r_11 = 0) → (((¬ v1 = 0) → wb_M_set_101 h0 K σ_12 v1 v2 v3) ∧
  ((v1 = 0) → st_tg σ_12 h0 = some 1 ∧ (∃ a_56 : Nat, (st_R σ_12 52 h0) = some a_56 ∧ st_tg σ_12 a_56 = some 302 ∧ (vp_in v2 (st_ln σ_12 a_56) ∧ ((((0 ≤ ((lg_cmp ((((st_eJ σ_12 a_56 (Int32.toNatClampNeg v2))) + v3)) 0))) → wb_M_set_101 h0 K σ_12 v1 v2 v3) ∧
  ((¬ 0 ≤ ((lg_cmp ((((st_eJ σ_12 a_56 (Int32.toNatClampNeg v2))) + v3)) 0))) → K ((-103)) σ_12)))))))) ∧
  ((r_11 = 0) → K ((-102)) σ_12)))
def wb_M_set_58 (h0 : Nat) (K : Int32 → ST → Prop) (σ : ST) (v1 : Int32) (v2 : Int32) (v3 : Int64) (s0 : Int64) (s1 : Int64) : Prop :=
  (((¬ v1 = (2 : Int32)) → wb_M_set_72 h0 K σ v1 v2 v3 1000000000 s0 s1) ∧
  ((v1 = (2 : Int32)) → wb_M_set_72 h0 K σ v1 v2 v3 100000 s0 s1))
def wb_M_set_29 (h0 : Nat) (K : Int32 → ST → Prop) (σ : ST) (v1 : Int32) (v2 : Int32) (v3 : Int64) (s0 : Int64) (s1 : Int64) (s2 : Int64) : Prop :=
  wp_M_in σ s2 s1 s0 (fun (r_5 : Int32) σ_6 =>
  (((r_5 = 0) → K ((-102)) σ_6) ∧
  ((¬ r_5 = 0) → (((¬ v1 = 0) → (((¬ v1 = (1 : Int32)) → wb_M_set_58 h0 K σ_6 v1 v2 v3 1 v3) ∧
  ((v1 = (1 : Int32)) → wb_M_set_58 h0 K σ_6 v1 v2 v3 ((-1)) v3))) ∧
  ((v1 = 0) → wb_M_set_58 h0 K σ_6 v1 v2 v3 ((-1000000000)) v3)))))
def wp_M_set (σ : ST) (h0 : Nat) (p1 : Int32) (p2 : Int32) (p3 : Int64) (K : Int32 → ST → Prop) : Prop :=
  wp_M_in σ ((Int32.toInt64 p1)) 0 2 (fun (r_1 : Int32) σ_2 =>
  (((r_1 = 0) → K ((-102)) σ_2) ∧
  ((¬ r_1 = 0) → (((¬ p1 = (2 : Int32)) → wb_M_set_29 h0 K σ_2 p1 p2 p3 7 0 ((Int32.toInt64 p2))) ∧
  ((p1 = (2 : Int32)) → wb_M_set_29 h0 K σ_2 p1 p2 p3 3 0 ((Int32.toInt64 p2)))))))
abbrev ROOM_M_set : Room := { frames := 1, cells := 0, slots := 0, locals := 25 }
set_option maxHeartbeats 4000000 in
set_option maxRecDepth 100000 in
theorem mc_M_set (l : Launch) (D : va_G) (A : Nat → Prop) (σ : ST) (h0 : Nat) (p1 : Int32) (p2 : Int32) (p3 : Int64) (K : Int32 → ST → Prop) : Met l y_M_set ws_M_set ROOM_M_set (va_Pc [.ref h0, .int p1, .int p2, .long p3] (fun U => mw D A σ U ∧ mn U ∧ wp_M_set σ h0 p1 p2 p3 K)) (va_Qi K (mw D A) A) 0 0 A := by
  refine Met.ofW (cc := c_M_set) (maxL := 5) (ret := (some .int)) (by decide) rfl ?_
  intro p e s m args below meth c s₁ B hml hv
  obtain ⟨rfl, ⟨hH, hK, hA⟩, hn, h⟩ := hv
  have hx := B.exec
  have hb := B.bytes
  have hr := B.returns
  have hts := atoms_spec (ws := ws_M_set) B.pre
  have hown : s.vm.findClass R_M = some m.cls := findClass_of_methodNamed B.named
  have hlocks := B.notSynchronized
  have hts : ∀ w ∈ lw_g, w.before ([.ref h0, .int p1, .int p2, .long p3] : List Value).toArray s = true := fun w hw => hts w (List.mem_cons_of_mem _ hw)
  have b_101 : ∀ (σ : ST) (v1 : Int32) (v2 : Int32) (v3 : Int64) (H : Heap) (locs : List Loc) (ls : Array Slot), mg_H D vwCl A (st_cell σ) H → mk_K D σ s → va_S A s.heap H locs → lv_has ls 5 [(0, va_rf (some h0)), (1, .int v1), (2, .int v2), (3, .long v3)] → wb_M_set_101 h0 K σ v1 v2 v3 → W p l e (headSpec ws_M_set ROOM_M_set).room s m ([.ref h0, .int p1, .int p2, .long p3] : List Value).toArray below meth c H locs 0 0 (MQ below (va_Qi K (mw D A) A) ([.ref h0, .int p1, .int p2, .long p3] : List Value).toArray s 0 0 A) (F0 m 101 ls []) := by
    intro σ v1 v2 v3 H locs ls hH hK hS hl h
    unfold wb_M_set_101 at h
    refine lv_iload_n hx hb d_M_set_101 rfl (lv_at hl 1 rfl) ?_
    refine lv_if_ne (tgt := 128) hx hb d_M_set_102 (by decide) (fun c_15 => ?_) (fun c_15 => ?_)
    · have h := h.1 c_15
      refine lv_iload_n hx hb d_M_set_128 rfl (lv_at hl 1 rfl) ?_
      refine lv_iconst (v := 1) hx hb d_M_set_129 (by decide) ?_
      refine lv_icmp_ne (tgt := 143) hx hb d_M_set_130 (by decide) (fun c_16 => ?_) (fun c_16 => ?_)
      · have h := h.1 c_16
        refine mr_aload_n hx hb d_M_set_143 rfl (lv_at hl 0 rfl) ?_
        obtain ⟨t_17, h⟩ := h
        refine ms_get (σ := σ) (r := some h0) (a := h0) (fs := fl_1 σ h0) (ci := 1) (C := R_M) (T := T_M) (N := 32) hx hb hts in_1 hown hK hH rfl (cell_1 t_17) rfl 11 (by decide) (hts _ wd_428) (fun _ h9 => h9) (v := va_rf (st_R σ 51 h0)) rfl d_M_set_144 ?_
        refine lv_iload_n hx hb d_M_set_147 rfl (lv_at hl 2 rfl) ?_
        refine lv_lload_n hx hb d_M_set_148 rfl (lv_at hl 3 rfl) ?_
        obtain ⟨a_18, e_19, t_20, h⟩ := h
        obtain ⟨b_21, h⟩ := h
        obtain ⟨σ_22, z_23⟩ : ∃ y : ST, y = st_uJ σ a_18 (Int32.toNatClampNeg v2) v3 := ⟨_, rfl⟩
        have h := h σ_22 z_23
        refine ms_last (σ := σ) (r := (st_R σ 51 h0)) (a := a_18) (x := v3) hx hb hK hH hS e_19 t_20 rfl (cell_302 t_20)  b_21 d_M_set_149 (σ1 := σ_22) (by rw [z_23]; exact uput_302 σ a_18 _ v3 t_20) (by rw [z_23]; rfl) (by rw [z_23]; rfl) (fun H locs hH hK hS => ?_)
        have t_24 : st_tg σ_22 h0 = some 1 := by rw [z_23]; exact t_17
        have t_25 : st_tg σ_22 a_18 = some 302 := by rw [z_23]; exact t_20
        refine lv_iconst (v := 1) hx hb d_M_set_150 (by decide) ?_
        exact W.iret (v := 1) hx hb hr (fun t ht hW => ⟨⟨1, σ_22, rfl, h, mw_pass hH hK hA hS ht hW⟩, hS.F ht⟩) hS.2.2 d_M_set_151
      · have h := h.2 c_16
        refine mr_aload_n hx hb d_M_set_133 rfl (lv_at hl 0 rfl) ?_
        obtain ⟨t_26, h⟩ := h
        refine ms_get (σ := σ) (r := some h0) (a := h0) (fs := fl_1 σ h0) (ci := 1) (C := R_M) (T := T_M) (N := 32) hx hb hts in_1 hown hK hH rfl (cell_1 t_26) rfl 13 (by decide) (hts _ wd_430) (fun _ h9 => h9) (v := va_rf (st_R σ 53 h0)) rfl d_M_set_134 ?_
        refine lv_iload_n hx hb d_M_set_137 rfl (lv_at hl 2 rfl) ?_
        refine lv_lload_n hx hb d_M_set_138 rfl (lv_at hl 3 rfl) ?_
        obtain ⟨a_27, e_28, t_29, h⟩ := h
        obtain ⟨b_30, h⟩ := h
        obtain ⟨σ_31, z_32⟩ : ∃ y : ST, y = st_uJ σ a_27 (Int32.toNatClampNeg v2) v3 := ⟨_, rfl⟩
        have h := h σ_31 z_32
        refine ms_last (σ := σ) (r := (st_R σ 53 h0)) (a := a_27) (x := v3) hx hb hK hH hS e_28 t_29 rfl (cell_302 t_29)  b_30 d_M_set_139 (σ1 := σ_31) (by rw [z_32]; exact uput_302 σ a_27 _ v3 t_29) (by rw [z_32]; rfl) (by rw [z_32]; rfl) (fun H locs hH hK hS => ?_)
        have t_33 : st_tg σ_31 h0 = some 1 := by rw [z_32]; exact t_26
        have t_34 : st_tg σ_31 a_27 = some 302 := by rw [z_32]; exact t_29
        refine lv_goto (tgt := 150) hx hb d_M_set_140 (by decide) ?_
        refine lv_iconst (v := 1) hx hb d_M_set_150 (by decide) ?_
        exact W.iret (v := 1) hx hb hr (fun t ht hW => ⟨⟨1, σ_31, rfl, h, mw_pass hH hK hA hS ht hW⟩, hS.F ht⟩) hS.2.2 d_M_set_151
    · have h := h.2 c_15
      refine mr_aload_n hx hb d_M_set_105 rfl (lv_at hl 0 rfl) ?_
      obtain ⟨t_35, h⟩ := h
      refine ms_get (σ := σ) (r := some h0) (a := h0) (fs := fl_1 σ h0) (ci := 1) (C := R_M) (T := T_M) (N := 32) hx hb hts in_1 hown hK hH rfl (cell_1 t_35) rfl 12 (by decide) (hts _ wd_429) (fun _ h9 => h9) (v := va_rf (st_R σ 52 h0)) rfl d_M_set_106 ?_
      refine lv_iload_n hx hb d_M_set_109 rfl (lv_at hl 2 rfl) ?_
      refine lv_dup2_11 hx hb d_M_set_110 rfl (cat_rf _) ?_
      obtain ⟨a_36, e_37, t_38, h⟩ := h
      obtain ⟨b_39, h⟩ := h
      refine ms_lald (σ := σ) (r := (st_R σ 52 h0)) (a := a_36) hx hb hK hH e_37 t_38 rfl (cell_302 t_38) b_39 d_M_set_111 ?_
      refine lv_lload_n hx hb d_M_set_112 rfl (lv_at hl 3 rfl) ?_
      refine lv_ladd hx hb d_M_set_113 ?_
      obtain ⟨b_40, h⟩ := h
      obtain ⟨σ_41, z_42⟩ : ∃ y : ST, y = st_uJ σ a_36 (Int32.toNatClampNeg v2) ((((st_eJ σ a_36 (Int32.toNatClampNeg v2))) + v3)) := ⟨_, rfl⟩
      have h := h σ_41 z_42
      refine ms_last (σ := σ) (r := (st_R σ 52 h0)) (a := a_36) (x := (((st_eJ σ a_36 (Int32.toNatClampNeg v2))) + v3)) hx hb hK hH hS e_37 t_38 rfl (cell_302 t_38)  b_40 d_M_set_114 (σ1 := σ_41) (by rw [z_42]; exact uput_302 σ a_36 _ ((((st_eJ σ a_36 (Int32.toNatClampNeg v2))) + v3)) t_38) (by rw [z_42]; rfl) (by rw [z_42]; rfl) (fun H locs hH hK hS => ?_)
      have t_43 : st_tg σ_41 h0 = some 1 := by rw [z_42]; exact t_35
      have t_44 : st_tg σ_41 a_36 = some 302 := by rw [z_42]; exact t_38
      refine mr_aload_n hx hb d_M_set_115 rfl (lv_at hl 0 rfl) ?_
      refine ms_get (σ := σ_41) (r := some h0) (a := h0) (fs := fl_1 σ_41 h0) (ci := 1) (C := R_M) (T := T_M) (N := 32) hx hb hts in_1 hown hK hH rfl (cell_1 t_43) rfl 31 (by decide) (hts _ wd_448) (fun _ h9 => h9) (v := va_rf (st_R σ_41 71 h0)) rfl d_M_set_116 ?_
      refine lv_iconst (v := 5) hx hb d_M_set_119 (by decide) ?_
      refine lv_dup2_11 hx hb d_M_set_120 rfl (cat_rf _) ?_
      obtain ⟨a_45, e_46, t_47, h⟩ := h
      obtain ⟨b_48, h⟩ := h
      refine ms_lald (σ := σ_41) (r := (st_R σ_41 71 h0)) (a := a_45) hx hb hK hH e_46 t_47 rfl (cell_302 t_47) b_48 d_M_set_121 ?_
      refine lv_lload_n hx hb d_M_set_122 rfl (lv_at hl 3 rfl) ?_
      refine lv_ladd hx hb d_M_set_123 ?_
      obtain ⟨b_49, h⟩ := h
      obtain ⟨σ_50, z_51⟩ : ∃ y : ST, y = st_uJ σ_41 a_45 (Int32.toNatClampNeg 5) ((((st_eJ σ_41 a_45 (Int32.toNatClampNeg 5))) + v3)) := ⟨_, rfl⟩
      have h := h σ_50 z_51
      refine ms_last (σ := σ_41) (r := (st_R σ_41 71 h0)) (a := a_45) (x := (((st_eJ σ_41 a_45 (Int32.toNatClampNeg 5))) + v3)) hx hb hK hH hS e_46 t_47 rfl (cell_302 t_47)  b_49 d_M_set_124 (σ1 := σ_50) (by rw [z_51]; exact uput_302 σ_41 a_45 _ ((((st_eJ σ_41 a_45 (Int32.toNatClampNeg 5))) + v3)) t_47) (by rw [z_51]; rfl) (by rw [z_51]; rfl) (fun H locs hH hK hS => ?_)
      have t_52 : st_tg σ_50 h0 = some 1 := by rw [z_51]; exact t_43
      have t_53 : st_tg σ_50 a_36 = some 302 := by rw [z_51]; exact t_44
      have t_54 : st_tg σ_50 a_45 = some 302 := by rw [z_51]; exact t_47
      refine lv_goto (tgt := 150) hx hb d_M_set_125 (by decide) ?_
      refine lv_iconst (v := 1) hx hb d_M_set_150 (by decide) ?_
      exact W.iret (v := 1) hx hb hr (fun t ht hW => ⟨⟨1, σ_50, rfl, h, mw_pass hH hK hA hS ht hW⟩, hS.F ht⟩) hS.2.2 d_M_set_151
  have b_72 : ∀ (σ : ST) (v1 : Int32) (v2 : Int32) (v3 : Int64) (s0 : Int64) (s1 : Int64) (s2 : Int64) (H : Heap) (locs : List Loc) (ls : Array Slot), mg_H D vwCl A (st_cell σ) H → mk_K D σ s → va_S A s.heap H locs → lv_has ls 5 [(0, va_rf (some h0)), (1, .int v1), (2, .int v2), (3, .long v3)] → wb_M_set_72 h0 K σ v1 v2 v3 s0 s1 s2 → W p l e (headSpec ws_M_set ROOM_M_set).room s m ([.ref h0, .int p1, .int p2, .long p3] : List Value).toArray below meth c H locs 0 0 (MQ below (va_Qi K (mw D A) A) ([.ref h0, .int p1, .int p2, .long p3] : List Value).toArray s 0 0 A) (F0 m 72 ls [.long s0, .long s1, .long s2]) := by
    intro σ v1 v2 v3 s0 s1 s2 H locs ls hH hK hS hl h
    unfold wb_M_set_72 at h
    refine ms_calli (va_runS (As := [.long s2, .long s1, .long s0]) (rest := []) ⟨hx, hb, hml, hown, hts⟩ (mc_M_in l D A σ s2 s1 s0 _) ⟨(callB_of 3 hts gw_M_in rfl rfl rfl (hts _ wd_4) (hts _ wd_524) (by decide +kernel) ⟨by decide, by decide⟩), (hts _ wd_525)⟩ ⟨mw_blind, fun U hU hW => ⟨rfl, mw_pass hH hK hA hS hU hW, mn_warm hW hn, h⟩⟩ rfl rfl hl.1 rfl (lv_room (Nat.le_of_ble_eq_true rfl)) d_M_set_72 ⟨by decide, by decide⟩) hS (fun r_11 σ_12 H locs h hH hK hS => ?_)
    refine lv_if_ne (tgt := 81) hx hb d_M_set_75 (by decide) (fun c_13 => ?_) (fun c_13 => ?_)
    · have h := h.1 c_13
      refine lv_iload_n hx hb d_M_set_81 rfl (lv_at hl 1 rfl) ?_
      refine lv_if_ne (tgt := 101) hx hb d_M_set_82 (by decide) (fun c_14 => ?_) (fun c_14 => ?_)
      · have h := h.1 c_14
        exact b_101 _ _ _ _ _ _ _ hH hK hS (lv_sub hl [0, 1, 2, 3] rfl) h
      · have h := h.2 c_14
        refine mr_aload_n hx hb d_M_set_85 rfl (lv_at hl 0 rfl) ?_
        obtain ⟨t_55, h⟩ := h
        refine ms_get (σ := σ_12) (r := some h0) (a := h0) (fs := fl_1 σ_12 h0) (ci := 1) (C := R_M) (T := T_M) (N := 32) hx hb hts in_1 hown hK hH rfl (cell_1 t_55) rfl 12 (by decide) (hts _ wd_429) (fun _ h9 => h9) (v := va_rf (st_R σ_12 52 h0)) rfl d_M_set_86 ?_
        refine lv_iload_n hx hb d_M_set_89 rfl (lv_at hl 2 rfl) ?_
        obtain ⟨a_56, e_57, t_58, h⟩ := h
        obtain ⟨b_59, h⟩ := h
        refine ms_lald (σ := σ_12) (r := (st_R σ_12 52 h0)) (a := a_56) hx hb hK hH e_57 t_58 rfl (cell_302 t_58) b_59 d_M_set_90 ?_
        refine lv_lload_n hx hb d_M_set_91 rfl (lv_at hl 3 rfl) ?_
        refine lv_ladd hx hb d_M_set_92 ?_
        refine lv_lconst (v := 0) hx hb d_M_set_93 rfl ?_
        refine W.lcmp hx hb d_M_set_94 ?_
        refine lv_if_ge (tgt := 101) hx hb d_M_set_95 (by decide) (fun c_60 => ?_) (fun c_60 => ?_)
        · have h := h.1 c_60
          exact b_101 _ _ _ _ _ _ _ hH hK hS (lv_sub hl [0, 1, 2, 3] rfl) h
        · have h := h.2 c_60
          refine lv_bipush (v := (-103)) hx hb d_M_set_98 (by decide) ?_
          exact W.iret (v := (-103)) hx hb hr (fun t ht hW => ⟨⟨(-103), σ_12, rfl, h, mw_pass hH hK hA hS ht hW⟩, hS.F ht⟩) hS.2.2 d_M_set_100
    · have h := h.2 c_13
      refine lv_bipush (v := (-102)) hx hb d_M_set_78 (by decide) ?_
      exact W.iret (v := (-102)) hx hb hr (fun t ht hW => ⟨⟨(-102), σ_12, rfl, h, mw_pass hH hK hA hS ht hW⟩, hS.F ht⟩) hS.2.2 d_M_set_80
  have b_58 : ∀ (σ : ST) (v1 : Int32) (v2 : Int32) (v3 : Int64) (s0 : Int64) (s1 : Int64) (H : Heap) (locs : List Loc) (ls : Array Slot), mg_H D vwCl A (st_cell σ) H → mk_K D σ s → va_S A s.heap H locs → lv_has ls 5 [(0, va_rf (some h0)), (1, .int v1), (2, .int v2), (3, .long v3)] → wb_M_set_58 h0 K σ v1 v2 v3 s0 s1 → W p l e (headSpec ws_M_set ROOM_M_set).room s m ([.ref h0, .int p1, .int p2, .long p3] : List Value).toArray below meth c H locs 0 0 (MQ below (va_Qi K (mw D A) A) ([.ref h0, .int p1, .int p2, .long p3] : List Value).toArray s 0 0 A) (F0 m 58 ls [.long s0, .long s1]) := by
    intro σ v1 v2 v3 s0 s1 H locs ls hH hK hS hl h
    unfold wb_M_set_58 at h
    refine lv_iload_n hx hb d_M_set_58 rfl (lv_at hl 1 rfl) ?_
    refine lv_iconst (v := 2) hx hb d_M_set_59 (by decide) ?_
    refine lv_icmp_ne (tgt := 69) hx hb d_M_set_60 (by decide) (fun c_10 => ?_) (fun c_10 => ?_)
    · have h := h.1 c_10
      refine lv_ldc2 (v := 1000000000) hx hb hown (hts _ wd_607) d_M_set_69 ?_
      exact b_72 _ _ _ _ _ _ _ _ _ _ hH hK hS (lv_sub hl [0, 1, 2, 3] rfl) h
    · have h := h.2 c_10
      refine lv_ldc2 (v := 100000) hx hb hown (hts _ wd_606) d_M_set_63 ?_
      refine lv_goto (tgt := 72) hx hb d_M_set_66 (by decide) ?_
      exact b_72 _ _ _ _ _ _ _ _ _ _ hH hK hS (lv_sub hl [0, 1, 2, 3] rfl) h
  have b_29 : ∀ (σ : ST) (v1 : Int32) (v2 : Int32) (v3 : Int64) (s0 : Int64) (s1 : Int64) (s2 : Int64) (H : Heap) (locs : List Loc) (ls : Array Slot), mg_H D vwCl A (st_cell σ) H → mk_K D σ s → va_S A s.heap H locs → lv_has ls 5 [(0, va_rf (some h0)), (1, .int v1), (2, .int v2), (3, .long v3)] → wb_M_set_29 h0 K σ v1 v2 v3 s0 s1 s2 → W p l e (headSpec ws_M_set ROOM_M_set).room s m ([.ref h0, .int p1, .int p2, .long p3] : List Value).toArray below meth c H locs 0 0 (MQ below (va_Qi K (mw D A) A) ([.ref h0, .int p1, .int p2, .long p3] : List Value).toArray s 0 0 A) (F0 m 29 ls [.long s0, .long s1, .long s2]) := by
    intro σ v1 v2 v3 s0 s1 s2 H locs ls hH hK hS hl h
    unfold wb_M_set_29 at h
    refine ms_calli (va_runS (As := [.long s2, .long s1, .long s0]) (rest := []) ⟨hx, hb, hml, hown, hts⟩ (mc_M_in l D A σ s2 s1 s0 _) ⟨(callB_of 3 hts gw_M_in rfl rfl rfl (hts _ wd_4) (hts _ wd_524) (by decide +kernel) ⟨by decide, by decide⟩), (hts _ wd_525)⟩ ⟨mw_blind, fun U hU hW => ⟨rfl, mw_pass hH hK hA hS hU hW, mn_warm hW hn, h⟩⟩ rfl rfl hl.1 rfl (lv_room (Nat.le_of_ble_eq_true rfl)) d_M_set_29 ⟨by decide, by decide⟩) hS (fun r_5 σ_6 H locs h hH hK hS => ?_)
    refine lv_if_eq (tgt := 78) hx hb d_M_set_32 (by decide) (fun c_7 => ?_) (fun c_7 => ?_)
    · have h := h.1 c_7
      refine lv_bipush (v := (-102)) hx hb d_M_set_78 (by decide) ?_
      exact W.iret (v := (-102)) hx hb hr (fun t ht hW => ⟨⟨(-102), σ_6, rfl, h, mw_pass hH hK hA hS ht hW⟩, hS.F ht⟩) hS.2.2 d_M_set_80
    · have h := h.2 c_7
      refine lv_lload_n hx hb d_M_set_35 rfl (lv_at hl 3 rfl) ?_
      refine lv_iload_n hx hb d_M_set_36 rfl (lv_at hl 1 rfl) ?_
      refine lv_if_ne (tgt := 46) hx hb d_M_set_37 (by decide) (fun c_8 => ?_) (fun c_8 => ?_)
      · have h := h.1 c_8
        refine lv_iload_n hx hb d_M_set_46 rfl (lv_at hl 1 rfl) ?_
        refine lv_iconst (v := 1) hx hb d_M_set_47 (by decide) ?_
        refine lv_icmp_ne (tgt := 57) hx hb d_M_set_48 (by decide) (fun c_9 => ?_) (fun c_9 => ?_)
        · have h := h.1 c_9
          refine lv_lconst (v := 1) hx hb d_M_set_57 rfl ?_
          exact b_58 _ _ _ _ _ _ _ _ _ hH hK hS (lv_sub hl [0, 1, 2, 3] rfl) h
        · have h := h.2 c_9
          refine lv_ldc2 (v := (-1)) hx hb hown (hts _ wd_416) d_M_set_51 ?_
          refine lv_goto (tgt := 58) hx hb d_M_set_54 (by decide) ?_
          exact b_58 _ _ _ _ _ _ _ _ _ hH hK hS (lv_sub hl [0, 1, 2, 3] rfl) h
      · have h := h.2 c_8
        refine lv_ldc2 (v := (-1000000000)) hx hb hown (hts _ wd_605) d_M_set_40 ?_
        refine lv_goto (tgt := 58) hx hb d_M_set_43 (by decide) ?_
        exact b_58 _ _ _ _ _ _ _ _ _ hH hK hS (lv_sub hl [0, 1, 2, 3] rfl) h
  have hS : va_S A s.heap s.heap [] := va_S.rf
  have hl := lv_entry ([.ref h0, .int p1, .int p2, .long p3]) (n := 5) (Nat.le_of_ble_eq_true rfl)
  rw [lg_entry_eq]
  generalize (lg_sl ([.ref h0, .int p1, .int p2, .long p3]) ++ List.replicate (5 - (lg_sl ([.ref h0, .int p1, .int p2, .long p3])).length) Slot.unset).toArray = ls at hl ⊢
  have hl : lv_has ls 5 [(0, va_rf (some h0)), (1, .int p1), (2, .int p2), (3, .long p3)] := hl
  unfold wp_M_set at h
  refine lv_iload_n hx hb d_M_set_0 rfl (lv_at hl 1 rfl) ?_
  refine lv_i2l hx hb d_M_set_1 rfl ?_
  refine lv_lconst (v := 0) hx hb d_M_set_2 rfl ?_
  refine lv_ldc2 (v := 2) hx hb hown (hts _ wd_604) d_M_set_3 ?_
  refine ms_calli (va_runS (As := [.long (Int32.toInt64 p1), .long 0, .long 2]) (rest := []) ⟨hx, hb, hml, hown, hts⟩ (mc_M_in l D A σ ((Int32.toInt64 p1)) 0 2 _) ⟨(callB_of 3 hts gw_M_in rfl rfl rfl (hts _ wd_4) (hts _ wd_524) (by decide +kernel) ⟨by decide, by decide⟩), (hts _ wd_525)⟩ ⟨mw_blind, fun U hU hW => ⟨rfl, mw_pass hH hK hA hS hU hW, mn_warm hW hn, h⟩⟩ rfl rfl hl.1 rfl (lv_room (Nat.le_of_ble_eq_true rfl)) d_M_set_6 ⟨by decide, by decide⟩) hS (fun r_1 σ_2 H locs h hH hK hS => ?_)
  refine lv_if_eq (tgt := 78) hx hb d_M_set_9 (by decide) (fun c_3 => ?_) (fun c_3 => ?_)
  · have h := h.1 c_3
    refine lv_bipush (v := (-102)) hx hb d_M_set_78 (by decide) ?_
    exact W.iret (v := (-102)) hx hb hr (fun t ht hW => ⟨⟨(-102), σ_2, rfl, h, mw_pass hH hK hA hS ht hW⟩, hS.F ht⟩) hS.2.2 d_M_set_80
  · have h := h.2 c_3
    refine lv_iload_n hx hb d_M_set_12 rfl (lv_at hl 2 rfl) ?_
    refine lv_i2l hx hb d_M_set_13 rfl ?_
    refine lv_lconst (v := 0) hx hb d_M_set_14 rfl ?_
    refine lv_iload_n hx hb d_M_set_15 rfl (lv_at hl 1 rfl) ?_
    refine lv_iconst (v := 2) hx hb d_M_set_16 (by decide) ?_
    refine lv_icmp_ne (tgt := 26) hx hb d_M_set_17 (by decide) (fun c_4 => ?_) (fun c_4 => ?_)
    · have h := h.1 c_4
      refine lv_ldc2 (v := 7) hx hb hown (hts _ wd_523) d_M_set_26 ?_
      exact b_29 _ _ _ _ _ _ _ _ _ _ hH hK hS (lv_sub hl [0, 1, 2, 3] rfl) h
    · have h := h.2 c_4
      refine lv_ldc2 (v := 3) hx hb hown (hts _ wd_528) d_M_set_20 ?_
      refine lv_goto (tgt := 29) hx hb d_M_set_23 (by decide) ?_
      exact b_29 _ _ _ _ _ _ _ _ _ _ hH hK hS (lv_sub hl [0, 1, 2, 3] rfl) h
def wp_M_collect (σ : ST) (h0 : Nat) (p1 : Int32) (p2 : Int64) (p4 : Int32) (K : Int32 → ST → Prop) : Prop :=
  wp_M_isOffice σ p1 (fun (r_1 : Int32) σ_2 =>
  (((r_1 = 0) → K ((-102)) σ_2) ∧
  ((¬ r_1 = 0) → wp_M_in σ_2 p2 1 500000 (fun (r_4 : Int32) σ_5 =>
  (((r_4 = 0) → K ((-102)) σ_5) ∧
  ((¬ r_4 = 0) → wp_M_in σ_5 ((Int32.toInt64 p4)) 0 9999 (fun (r_7 : Int32) σ_8 =>
  (((¬ r_7 = 0) → st_tg σ_8 h0 = some 1 ∧ ((((¬ ((st_I σ_8 67 h0)) = (100 : Int32)) → ∃ a_12 : Nat, (st_R σ_8 68 h0) = some a_12 ∧ st_tg σ_8 a_12 = some 301 ∧ (vp_in ((st_I σ_8 67 h0)) (st_ln σ_8 a_12) ∧ (∀ σ_16 : ST, σ_16 = st_uI σ_8 a_12 (Int32.toNatClampNeg ((st_I σ_8 67 h0))) p1 → (∃ a_20 : Nat, (st_R σ_16 69 h0) = some a_20 ∧ st_tg σ_16 a_20 = some 302 ∧ (vp_in ((st_I σ_16 67 h0)) (st_ln σ_16 a_20) ∧ (∀ σ_24 : ST, σ_24 = st_uJ σ_16 a_20 (Int32.toNatClampNeg ((st_I σ_16 67 h0))) p2 → (∃ a_29 : Nat, (st_R σ_24 70 h0) = some a_29 ∧ st_tg σ_24 a_29 = some 301 ∧ (vp_in ((st_I σ_24 67 h0)) (st_ln σ_24 a_29) ∧ (∀ σ_33 : ST, σ_33 = st_uI σ_24 a_29 (Int32.toNatClampNeg ((st_I σ_24 67 h0))) p4 → (∀ σ_39 : ST, σ_39 = st_sI σ_33 67 h0 ((((st_I σ_33 67 h0)) + 1)) → (∃ a_45 : Nat, (st_R σ_39 52 h0) = some a_45 ∧ st_tg σ_39 a_45 = some 302 ∧ (vp_in p1 (st_ln σ_39 a_45) ∧ (vp_in p1 (st_ln σ_39 a_45) ∧ (∀ σ_50 : ST, σ_50 = st_uJ σ_39 a_45 (Int32.toNatClampNeg p1) ((((st_eJ σ_39 a_45 (Int32.toNatClampNeg p1))) + p2)) → (∃ a_57 : Nat, (st_R σ_50 71 h0) = some a_57 ∧ st_tg σ_50 a_57 = some 302 ∧ (vp_in 2 (st_ln σ_50 a_57) ∧ (vp_in 2 (st_ln σ_50 a_57) ∧ (∀ σ_62 : ST, σ_62 = st_uJ σ_50 a_57 (Int32.toNatClampNeg 2) ((((st_eJ σ_50 a_57 (Int32.toNatClampNeg 2))) + p2)) → (K ((st_I σ_62 67 h0)) σ_62))))))))))))))))))) ∧
  ((((st_I σ_8 67 h0)) = (100 : Int32)) → K ((-104)) σ_8)))) ∧
  ((r_7 = 0) → K ((-102)) σ_8)))))))))
abbrev ROOM_M_collect : Room := { frames := 2, cells := 0, slots := 0, locals := 45 }
set_option maxHeartbeats 4000000 in
set_option maxRecDepth 100000 in
theorem mc_M_collect (l : Launch) (D : va_G) (A : Nat → Prop) (σ : ST) (h0 : Nat) (p1 : Int32) (p2 : Int64) (p4 : Int32) (K : Int32 → ST → Prop) : Met l y_M_collect ws_M_collect ROOM_M_collect (va_Pc [.ref h0, .int p1, .long p2, .int p4] (fun U => mw D A σ U ∧ mn U ∧ wp_M_collect σ h0 p1 p2 p4 K)) (va_Qi K (mw D A) A) 0 0 A := by
  refine Met.ofW (cc := c_M_collect) (maxL := 5) (ret := (some .int)) (by decide) rfl ?_
  intro p e s m args below meth c s₁ B hml hv
  obtain ⟨rfl, ⟨hH, hK, hA⟩, hn, h⟩ := hv
  have hx := B.exec
  have hb := B.bytes
  have hr := B.returns
  have hts := atoms_spec (ws := ws_M_collect) B.pre
  have hown : s.vm.findClass R_M = some m.cls := findClass_of_methodNamed B.named
  have hlocks := B.notSynchronized
  have hts : ∀ w ∈ lw_g, w.before ([.ref h0, .int p1, .long p2, .int p4] : List Value).toArray s = true := fun w hw => hts w (List.mem_cons_of_mem _ hw)
  have hS : va_S A s.heap s.heap [] := va_S.rf
  have hl := lv_entry ([.ref h0, .int p1, .long p2, .int p4]) (n := 5) (Nat.le_of_ble_eq_true rfl)
  rw [lg_entry_eq]
  generalize (lg_sl ([.ref h0, .int p1, .long p2, .int p4]) ++ List.replicate (5 - (lg_sl ([.ref h0, .int p1, .long p2, .int p4])).length) Slot.unset).toArray = ls at hl ⊢
  have hl : lv_has ls 5 [(0, va_rf (some h0)), (1, .int p1), (2, .long p2), (4, .int p4)] := hl
  unfold wp_M_collect at h
  refine lv_iload_n hx hb d_M_collect_0 rfl (lv_at hl 1 rfl) ?_
  refine ms_calli (va_runS (As := [.int p1]) (rest := []) ⟨hx, hb, hml, hown, hts⟩ (mc_M_isOffice l D A σ p1 _) ⟨(callB_of 1 hts gw_M_isOffice rfl rfl rfl (hts _ wd_4) (hts _ wd_520) (by decide +kernel) ⟨by decide, by decide⟩), (hts _ wd_521)⟩ ⟨mw_blind, fun U hU hW => ⟨rfl, mw_pass hH hK hA hS hU hW, mn_warm hW hn, h⟩⟩ rfl rfl hl.1 rfl (lv_room (Nat.le_of_ble_eq_true rfl)) d_M_collect_1 ⟨by decide, by decide⟩) hS (fun r_1 σ_2 H locs h hH hK hS => ?_)
  refine lv_if_eq (tgt := 31) hx hb d_M_collect_4 (by decide) (fun c_3 => ?_) (fun c_3 => ?_)
  · have h := h.1 c_3
    refine lv_bipush (v := (-102)) hx hb d_M_collect_31 (by decide) ?_
    exact W.iret (v := (-102)) hx hb hr (fun t ht hW => ⟨⟨(-102), σ_2, rfl, h, mw_pass hH hK hA hS ht hW⟩, hS.F ht⟩) hS.2.2 d_M_collect_33
  · have h := h.2 c_3
    refine lv_lload_n hx hb d_M_collect_7 rfl (lv_at hl 2 rfl) ?_
    refine lv_lconst (v := 1) hx hb d_M_collect_8 rfl ?_
    refine lv_ldc2 (v := 500000) hx hb hown (hts _ wd_527) d_M_collect_9 ?_
    refine ms_calli (va_runS (As := [.long p2, .long 1, .long 500000]) (rest := []) ⟨hx, hb, hml, hown, hts⟩ (mc_M_in l D A σ_2 p2 1 500000 _) ⟨(callB_of 3 hts gw_M_in rfl rfl rfl (hts _ wd_4) (hts _ wd_524) (by decide +kernel) ⟨by decide, by decide⟩), (hts _ wd_525)⟩ ⟨mw_blind, fun U hU hW => ⟨rfl, mw_pass hH hK hA hS hU hW, mn_warm hW hn, h⟩⟩ rfl rfl hl.1 rfl (lv_room (Nat.le_of_ble_eq_true rfl)) d_M_collect_12 ⟨by decide, by decide⟩) hS (fun r_4 σ_5 H locs h hH hK hS => ?_)
    refine lv_if_eq (tgt := 31) hx hb d_M_collect_15 (by decide) (fun c_6 => ?_) (fun c_6 => ?_)
    · have h := h.1 c_6
      refine lv_bipush (v := (-102)) hx hb d_M_collect_31 (by decide) ?_
      exact W.iret (v := (-102)) hx hb hr (fun t ht hW => ⟨⟨(-102), σ_5, rfl, h, mw_pass hH hK hA hS ht hW⟩, hS.F ht⟩) hS.2.2 d_M_collect_33
    · have h := h.2 c_6
      refine lv_iload hx hb d_M_collect_18 (lv_at hl 3 rfl) ?_
      refine lv_i2l hx hb d_M_collect_20 rfl ?_
      refine lv_lconst (v := 0) hx hb d_M_collect_21 rfl ?_
      refine lv_ldc2 (v := 9999) hx hb hown (hts _ wd_612) d_M_collect_22 ?_
      refine ms_calli (va_runS (As := [.long (Int32.toInt64 p4), .long 0, .long 9999]) (rest := []) ⟨hx, hb, hml, hown, hts⟩ (mc_M_in l D A σ_5 ((Int32.toInt64 p4)) 0 9999 _) ⟨(callB_of 3 hts gw_M_in rfl rfl rfl (hts _ wd_4) (hts _ wd_524) (by decide +kernel) ⟨by decide, by decide⟩), (hts _ wd_525)⟩ ⟨mw_blind, fun U hU hW => ⟨rfl, mw_pass hH hK hA hS hU hW, mn_warm hW hn, h⟩⟩ rfl rfl hl.1 rfl (lv_room (Nat.le_of_ble_eq_true rfl)) d_M_collect_25 ⟨by decide, by decide⟩) hS (fun r_7 σ_8 H locs h hH hK hS => ?_)
      refine lv_if_ne (tgt := 34) hx hb d_M_collect_28 (by decide) (fun c_9 => ?_) (fun c_9 => ?_)
      · have h := h.1 c_9
        refine mr_aload_n hx hb d_M_collect_34 rfl (lv_at hl 0 rfl) ?_
        obtain ⟨t_10, h⟩ := h
        refine ms_get (σ := σ_8) (r := some h0) (a := h0) (fs := fl_1 σ_8 h0) (ci := 1) (C := R_M) (T := T_M) (N := 32) hx hb hts in_1 hown hK hH rfl (cell_1 t_10) rfl 27 (by decide) (hts _ wd_444) (fun _ h9 => h9) (v := .int (st_I σ_8 67 h0)) rfl d_M_collect_35 ?_
        refine lv_bipush (v := 100) hx hb d_M_collect_38 (by decide) ?_
        refine lv_icmp_ne (tgt := 46) hx hb d_M_collect_40 (by decide) (fun c_11 => ?_) (fun c_11 => ?_)
        · have h := h.1 c_11
          refine mr_aload_n hx hb d_M_collect_46 rfl (lv_at hl 0 rfl) ?_
          refine ms_get (σ := σ_8) (r := some h0) (a := h0) (fs := fl_1 σ_8 h0) (ci := 1) (C := R_M) (T := T_M) (N := 32) hx hb hts in_1 hown hK hH rfl (cell_1 t_10) rfl 28 (by decide) (hts _ wd_445) (fun _ h9 => h9) (v := va_rf (st_R σ_8 68 h0)) rfl d_M_collect_47 ?_
          refine mr_aload_n hx hb d_M_collect_50 rfl (lv_at hl 0 rfl) ?_
          refine ms_get (σ := σ_8) (r := some h0) (a := h0) (fs := fl_1 σ_8 h0) (ci := 1) (C := R_M) (T := T_M) (N := 32) hx hb hts in_1 hown hK hH rfl (cell_1 t_10) rfl 27 (by decide) (hts _ wd_444) (fun _ h9 => h9) (v := .int (st_I σ_8 67 h0)) rfl d_M_collect_51 ?_
          refine lv_iload_n hx hb d_M_collect_54 rfl (lv_at hl 1 rfl) ?_
          obtain ⟨a_12, e_13, t_14, h⟩ := h
          obtain ⟨b_15, h⟩ := h
          obtain ⟨σ_16, z_17⟩ : ∃ y : ST, y = st_uI σ_8 a_12 (Int32.toNatClampNeg ((st_I σ_8 67 h0))) p1 := ⟨_, rfl⟩
          have h := h σ_16 z_17
          refine ms_iast (σ := σ_8) (r := (st_R σ_8 68 h0)) (a := a_12) (x := p1) hx hb hK hH hS e_13 t_14 rfl (cell_301 t_14)  b_15 d_M_collect_55 (σ1 := σ_16) (by rw [z_17]; exact uput_301 σ_8 a_12 _ p1 t_14) (by rw [z_17]; rfl) (by rw [z_17]; rfl) (fun H locs hH hK hS => ?_)
          have t_18 : st_tg σ_16 h0 = some 1 := by rw [z_17]; exact t_10
          have t_19 : st_tg σ_16 a_12 = some 301 := by rw [z_17]; exact t_14
          refine mr_aload_n hx hb d_M_collect_56 rfl (lv_at hl 0 rfl) ?_
          refine ms_get (σ := σ_16) (r := some h0) (a := h0) (fs := fl_1 σ_16 h0) (ci := 1) (C := R_M) (T := T_M) (N := 32) hx hb hts in_1 hown hK hH rfl (cell_1 t_18) rfl 29 (by decide) (hts _ wd_446) (fun _ h9 => h9) (v := va_rf (st_R σ_16 69 h0)) rfl d_M_collect_57 ?_
          refine mr_aload_n hx hb d_M_collect_60 rfl (lv_at hl 0 rfl) ?_
          refine ms_get (σ := σ_16) (r := some h0) (a := h0) (fs := fl_1 σ_16 h0) (ci := 1) (C := R_M) (T := T_M) (N := 32) hx hb hts in_1 hown hK hH rfl (cell_1 t_18) rfl 27 (by decide) (hts _ wd_444) (fun _ h9 => h9) (v := .int (st_I σ_16 67 h0)) rfl d_M_collect_61 ?_
          refine lv_lload_n hx hb d_M_collect_64 rfl (lv_at hl 2 rfl) ?_
          obtain ⟨a_20, e_21, t_22, h⟩ := h
          obtain ⟨b_23, h⟩ := h
          obtain ⟨σ_24, z_25⟩ : ∃ y : ST, y = st_uJ σ_16 a_20 (Int32.toNatClampNeg ((st_I σ_16 67 h0))) p2 := ⟨_, rfl⟩
          have h := h σ_24 z_25
          refine ms_last (σ := σ_16) (r := (st_R σ_16 69 h0)) (a := a_20) (x := p2) hx hb hK hH hS e_21 t_22 rfl (cell_302 t_22)  b_23 d_M_collect_65 (σ1 := σ_24) (by rw [z_25]; exact uput_302 σ_16 a_20 _ p2 t_22) (by rw [z_25]; rfl) (by rw [z_25]; rfl) (fun H locs hH hK hS => ?_)
          have t_26 : st_tg σ_24 h0 = some 1 := by rw [z_25]; exact t_18
          have t_27 : st_tg σ_24 a_12 = some 301 := by rw [z_25]; exact t_19
          have t_28 : st_tg σ_24 a_20 = some 302 := by rw [z_25]; exact t_22
          refine mr_aload_n hx hb d_M_collect_66 rfl (lv_at hl 0 rfl) ?_
          refine ms_get (σ := σ_24) (r := some h0) (a := h0) (fs := fl_1 σ_24 h0) (ci := 1) (C := R_M) (T := T_M) (N := 32) hx hb hts in_1 hown hK hH rfl (cell_1 t_26) rfl 30 (by decide) (hts _ wd_447) (fun _ h9 => h9) (v := va_rf (st_R σ_24 70 h0)) rfl d_M_collect_67 ?_
          refine mr_aload_n hx hb d_M_collect_70 rfl (lv_at hl 0 rfl) ?_
          refine ms_get (σ := σ_24) (r := some h0) (a := h0) (fs := fl_1 σ_24 h0) (ci := 1) (C := R_M) (T := T_M) (N := 32) hx hb hts in_1 hown hK hH rfl (cell_1 t_26) rfl 27 (by decide) (hts _ wd_444) (fun _ h9 => h9) (v := .int (st_I σ_24 67 h0)) rfl d_M_collect_71 ?_
          refine lv_iload hx hb d_M_collect_74 (lv_at hl 3 rfl) ?_
          obtain ⟨a_29, e_30, t_31, h⟩ := h
          obtain ⟨b_32, h⟩ := h
          obtain ⟨σ_33, z_34⟩ : ∃ y : ST, y = st_uI σ_24 a_29 (Int32.toNatClampNeg ((st_I σ_24 67 h0))) p4 := ⟨_, rfl⟩
          have h := h σ_33 z_34
          refine ms_iast (σ := σ_24) (r := (st_R σ_24 70 h0)) (a := a_29) (x := p4) hx hb hK hH hS e_30 t_31 rfl (cell_301 t_31)  b_32 d_M_collect_76 (σ1 := σ_33) (by rw [z_34]; exact uput_301 σ_24 a_29 _ p4 t_31) (by rw [z_34]; rfl) (by rw [z_34]; rfl) (fun H locs hH hK hS => ?_)
          have t_35 : st_tg σ_33 h0 = some 1 := by rw [z_34]; exact t_26
          have t_36 : st_tg σ_33 a_12 = some 301 := by rw [z_34]; exact t_27
          have t_37 : st_tg σ_33 a_20 = some 302 := by rw [z_34]; exact t_28
          have t_38 : st_tg σ_33 a_29 = some 301 := by rw [z_34]; exact t_31
          refine mr_aload_n hx hb d_M_collect_77 rfl (lv_at hl 0 rfl) ?_
          refine lv_dup hx hb d_M_collect_78 (cat_rf _) ?_
          refine ms_get (σ := σ_33) (r := some h0) (a := h0) (fs := fl_1 σ_33 h0) (ci := 1) (C := R_M) (T := T_M) (N := 32) hx hb hts in_1 hown hK hH rfl (cell_1 t_35) rfl 27 (by decide) (hts _ wd_444) (fun _ h9 => h9) (v := .int (st_I σ_33 67 h0)) rfl d_M_collect_79 ?_
          refine lv_iconst (v := 1) hx hb d_M_collect_82 (by decide) ?_
          refine lv_iadd hx hb d_M_collect_83 ?_
          obtain ⟨σ_39, z_40⟩ : ∃ y : ST, y = st_sI σ_33 67 h0 ((((st_I σ_33 67 h0)) + 1)) := ⟨_, rfl⟩
          have h := h σ_39 z_40
          refine ms_put (σ := σ_33) (r := some h0) (a := h0) (fs := fl_1 σ_33 h0) (ci := 1) (C := R_M) (T := T_M) (N := 32) (v := .int (((st_I σ_33 67 h0)) + 1)) (ty := .int) hx hb hts in_1 ty_M ty_M_ok nm_M hown hK hH hS rfl (cell_1 t_35) rfl 27 (by decide) (hts _ wd_444) (fun _ h9 => h9) rfl (by decide +kernel) rfl rfl (Nat.le_of_ble_eq_true rfl) d_M_collect_84 (σ1 := σ_39) (by rw [z_40]; exact put_1_27 σ_33 h0 ((((st_I σ_33 67 h0)) + 1)) t_35) (by rw [z_40]; rfl) (by rw [z_40]; rfl) (fun H locs hH hK hS => ?_)
          have t_41 : st_tg σ_39 h0 = some 1 := by rw [z_40]; exact t_35
          have t_42 : st_tg σ_39 a_12 = some 301 := by rw [z_40]; exact t_36
          have t_43 : st_tg σ_39 a_20 = some 302 := by rw [z_40]; exact t_37
          have t_44 : st_tg σ_39 a_29 = some 301 := by rw [z_40]; exact t_38
          refine mr_aload_n hx hb d_M_collect_87 rfl (lv_at hl 0 rfl) ?_
          refine ms_get (σ := σ_39) (r := some h0) (a := h0) (fs := fl_1 σ_39 h0) (ci := 1) (C := R_M) (T := T_M) (N := 32) hx hb hts in_1 hown hK hH rfl (cell_1 t_41) rfl 12 (by decide) (hts _ wd_429) (fun _ h9 => h9) (v := va_rf (st_R σ_39 52 h0)) rfl d_M_collect_88 ?_
          refine lv_iload_n hx hb d_M_collect_91 rfl (lv_at hl 1 rfl) ?_
          refine lv_dup2_11 hx hb d_M_collect_92 rfl (cat_rf _) ?_
          obtain ⟨a_45, e_46, t_47, h⟩ := h
          obtain ⟨b_48, h⟩ := h
          refine ms_lald (σ := σ_39) (r := (st_R σ_39 52 h0)) (a := a_45) hx hb hK hH e_46 t_47 rfl (cell_302 t_47) b_48 d_M_collect_93 ?_
          refine lv_lload_n hx hb d_M_collect_94 rfl (lv_at hl 2 rfl) ?_
          refine lv_ladd hx hb d_M_collect_95 ?_
          obtain ⟨b_49, h⟩ := h
          obtain ⟨σ_50, z_51⟩ : ∃ y : ST, y = st_uJ σ_39 a_45 (Int32.toNatClampNeg p1) ((((st_eJ σ_39 a_45 (Int32.toNatClampNeg p1))) + p2)) := ⟨_, rfl⟩
          have h := h σ_50 z_51
          refine ms_last (σ := σ_39) (r := (st_R σ_39 52 h0)) (a := a_45) (x := (((st_eJ σ_39 a_45 (Int32.toNatClampNeg p1))) + p2)) hx hb hK hH hS e_46 t_47 rfl (cell_302 t_47)  b_49 d_M_collect_96 (σ1 := σ_50) (by rw [z_51]; exact uput_302 σ_39 a_45 _ ((((st_eJ σ_39 a_45 (Int32.toNatClampNeg p1))) + p2)) t_47) (by rw [z_51]; rfl) (by rw [z_51]; rfl) (fun H locs hH hK hS => ?_)
          have t_52 : st_tg σ_50 h0 = some 1 := by rw [z_51]; exact t_41
          have t_53 : st_tg σ_50 a_12 = some 301 := by rw [z_51]; exact t_42
          have t_54 : st_tg σ_50 a_20 = some 302 := by rw [z_51]; exact t_43
          have t_55 : st_tg σ_50 a_29 = some 301 := by rw [z_51]; exact t_44
          have t_56 : st_tg σ_50 a_45 = some 302 := by rw [z_51]; exact t_47
          refine mr_aload_n hx hb d_M_collect_97 rfl (lv_at hl 0 rfl) ?_
          refine ms_get (σ := σ_50) (r := some h0) (a := h0) (fs := fl_1 σ_50 h0) (ci := 1) (C := R_M) (T := T_M) (N := 32) hx hb hts in_1 hown hK hH rfl (cell_1 t_52) rfl 31 (by decide) (hts _ wd_448) (fun _ h9 => h9) (v := va_rf (st_R σ_50 71 h0)) rfl d_M_collect_98 ?_
          refine lv_iconst (v := 2) hx hb d_M_collect_101 (by decide) ?_
          refine lv_dup2_11 hx hb d_M_collect_102 rfl (cat_rf _) ?_
          obtain ⟨a_57, e_58, t_59, h⟩ := h
          obtain ⟨b_60, h⟩ := h
          refine ms_lald (σ := σ_50) (r := (st_R σ_50 71 h0)) (a := a_57) hx hb hK hH e_58 t_59 rfl (cell_302 t_59) b_60 d_M_collect_103 ?_
          refine lv_lload_n hx hb d_M_collect_104 rfl (lv_at hl 2 rfl) ?_
          refine lv_ladd hx hb d_M_collect_105 ?_
          obtain ⟨b_61, h⟩ := h
          obtain ⟨σ_62, z_63⟩ : ∃ y : ST, y = st_uJ σ_50 a_57 (Int32.toNatClampNeg 2) ((((st_eJ σ_50 a_57 (Int32.toNatClampNeg 2))) + p2)) := ⟨_, rfl⟩
          have h := h σ_62 z_63
          refine ms_last (σ := σ_50) (r := (st_R σ_50 71 h0)) (a := a_57) (x := (((st_eJ σ_50 a_57 (Int32.toNatClampNeg 2))) + p2)) hx hb hK hH hS e_58 t_59 rfl (cell_302 t_59)  b_61 d_M_collect_106 (σ1 := σ_62) (by rw [z_63]; exact uput_302 σ_50 a_57 _ ((((st_eJ σ_50 a_57 (Int32.toNatClampNeg 2))) + p2)) t_59) (by rw [z_63]; rfl) (by rw [z_63]; rfl) (fun H locs hH hK hS => ?_)
          have t_64 : st_tg σ_62 h0 = some 1 := by rw [z_63]; exact t_52
          have t_65 : st_tg σ_62 a_12 = some 301 := by rw [z_63]; exact t_53
          have t_66 : st_tg σ_62 a_20 = some 302 := by rw [z_63]; exact t_54
          have t_67 : st_tg σ_62 a_29 = some 301 := by rw [z_63]; exact t_55
          have t_68 : st_tg σ_62 a_45 = some 302 := by rw [z_63]; exact t_56
          have t_69 : st_tg σ_62 a_57 = some 302 := by rw [z_63]; exact t_59
          refine mr_aload_n hx hb d_M_collect_107 rfl (lv_at hl 0 rfl) ?_
          refine ms_get (σ := σ_62) (r := some h0) (a := h0) (fs := fl_1 σ_62 h0) (ci := 1) (C := R_M) (T := T_M) (N := 32) hx hb hts in_1 hown hK hH rfl (cell_1 t_64) rfl 27 (by decide) (hts _ wd_444) (fun _ h9 => h9) (v := .int (st_I σ_62 67 h0)) rfl d_M_collect_108 ?_
          exact W.iret (v := (st_I σ_62 67 h0)) hx hb hr (fun t ht hW => ⟨⟨(st_I σ_62 67 h0), σ_62, rfl, h, mw_pass hH hK hA hS ht hW⟩, hS.F ht⟩) hS.2.2 d_M_collect_111
        · have h := h.2 c_11
          refine lv_bipush (v := (-104)) hx hb d_M_collect_43 (by decide) ?_
          exact W.iret (v := (-104)) hx hb hr (fun t ht hW => ⟨⟨(-104), σ_8, rfl, h, mw_pass hH hK hA hS ht hW⟩, hS.F ht⟩) hS.2.2 d_M_collect_45
      · have h := h.2 c_9
        refine lv_bipush (v := (-102)) hx hb d_M_collect_31 (by decide) ?_
        exact W.iret (v := (-102)) hx hb hr (fun t ht hW => ⟨⟨(-102), σ_8, rfl, h, mw_pass hH hK hA hS ht hW⟩, hS.F ht⟩) hS.2.2 d_M_collect_33
