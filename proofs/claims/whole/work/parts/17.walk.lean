def wp_M_in (σ : ST) (p0 : Int64) (p2 : Int64) (p4 : Int64) (K : Int32 → ST → Prop) : Prop :=
  (((((lg_cmp p0 p2)) < 0) → K 0 σ) ∧
  ((¬ ((lg_cmp p0 p2)) < 0) → (((0 < ((lg_cmp p0 p4))) → K 0 σ) ∧
  ((¬ 0 < ((lg_cmp p0 p4))) → K 1 σ))))
abbrev ROOM_M_in : Room := { frames := 0, cells := 0, slots := 0, locals := 0 }
set_option maxHeartbeats 4000000 in
set_option maxRecDepth 100000 in
theorem mc_M_in (l : Launch) (D : va_G) (A : Nat → Prop) (σ : ST) (p0 : Int64) (p2 : Int64) (p4 : Int64) (K : Int32 → ST → Prop) : Met l y_M_in ws_M_in ROOM_M_in (va_Pc [.long p0, .long p2, .long p4] (fun U => mw D A σ U ∧ mn U ∧ wp_M_in σ p0 p2 p4 K)) (va_Qi K (mw D A) A) 0 0 A := by
  refine Met.ofW (cc := c_M_in) (maxL := 6) (ret := (some .boolean)) (by decide) rfl ?_
  intro p e s m args below meth c s₁ B hml hv
  obtain ⟨rfl, ⟨hH, hK, hA⟩, hn, h⟩ := hv
  have hx := B.exec
  have hb := B.bytes
  have hr := B.returns
  have hts := atoms_spec (ws := ws_M_in) B.pre
  have hown : s.vm.findClass R_M = some m.cls := findClass_of_methodNamed B.named
  have hlocks := B.notSynchronized
  have hts : ∀ w ∈ lw_g, w.before ([.long p0, .long p2, .long p4] : List Value).toArray s = true := fun w hw => hts w (List.mem_cons_of_mem _ hw)
  have hS : va_S A s.heap s.heap [] := va_S.rf
  have hl := lv_entry ([.long p0, .long p2, .long p4]) (n := 6) (Nat.le_of_ble_eq_true rfl)
  rw [lg_entry_eq]
  generalize (lg_sl ([.long p0, .long p2, .long p4]) ++ List.replicate (6 - (lg_sl ([.long p0, .long p2, .long p4])).length) Slot.unset).toArray = ls at hl ⊢
  have hl : lv_has ls 6 [(0, .long p0), (2, .long p2), (4, .long p4)] := hl
  unfold wp_M_in at h
  refine lv_lload_n hx hb d_M_in_0 rfl (lv_at hl 0 rfl) ?_
  refine lv_lload_n hx hb d_M_in_1 rfl (lv_at hl 1 rfl) ?_
  refine W.lcmp hx hb d_M_in_2 ?_
  refine lv_if_lt (tgt := 17) hx hb d_M_in_3 (by decide) (fun c_1 => ?_) (fun c_1 => ?_)
  · have h := h.1 c_1
    refine lv_iconst (v := 0) hx hb d_M_in_17 (by decide) ?_
    exact W.zret (v := 0) hx hb hr rfl (fun t ht hW => ⟨⟨0, σ, rfl, h, mw_pass hH hK hA hS ht hW⟩, hS.F ht⟩) hS.2.2 d_M_in_18
  · have h := h.2 c_1
    refine lv_lload_n hx hb d_M_in_6 rfl (lv_at hl 0 rfl) ?_
    refine lv_lload hx hb d_M_in_7 (lv_at hl 2 rfl) ?_
    refine W.lcmp hx hb d_M_in_9 ?_
    refine lv_if_gt (tgt := 17) hx hb d_M_in_10 (by decide) (fun c_2 => ?_) (fun c_2 => ?_)
    · have h := h.1 c_2
      refine lv_iconst (v := 0) hx hb d_M_in_17 (by decide) ?_
      exact W.zret (v := 0) hx hb hr rfl (fun t ht hW => ⟨⟨0, σ, rfl, h, mw_pass hH hK hA hS ht hW⟩, hS.F ht⟩) hS.2.2 d_M_in_18
    · have h := h.2 c_2
      refine lv_iconst (v := 1) hx hb d_M_in_13 (by decide) ?_
      refine lv_goto (tgt := 18) hx hb d_M_in_14 (by decide) ?_
      exact W.zret (v := 1) hx hb hr rfl (fun t ht hW => ⟨⟨1, σ, rfl, h, mw_pass hH hK hA hS ht hW⟩, hS.F ht⟩) hS.2.2 d_M_in_18
def wp_M_isOffice (σ : ST) (p0 : Int32) (K : Int32 → ST → Prop) : Prop :=
  wp_M_in σ ((Int32.toInt64 p0)) 0 7 (fun (r_1 : Int32) σ_2 =>
  ((r_1 = 0 ∨ r_1 = 1) ∧ K r_1 σ_2))
abbrev ROOM_M_isOffice : Room := { frames := 1, cells := 0, slots := 0, locals := 25 }
set_option maxHeartbeats 4000000 in
set_option maxRecDepth 100000 in
theorem mc_M_isOffice (l : Launch) (D : va_G) (A : Nat → Prop) (σ : ST) (p0 : Int32) (K : Int32 → ST → Prop) : Met l y_M_isOffice ws_M_isOffice ROOM_M_isOffice (va_Pc [.int p0] (fun U => mw D A σ U ∧ mn U ∧ wp_M_isOffice σ p0 K)) (va_Qi K (mw D A) A) 0 0 A := by
  refine Met.ofW (cc := c_M_isOffice) (maxL := 1) (ret := (some .boolean)) (by decide) rfl ?_
  intro p e s m args below meth c s₁ B hml hv
  obtain ⟨rfl, ⟨hH, hK, hA⟩, hn, h⟩ := hv
  have hx := B.exec
  have hb := B.bytes
  have hr := B.returns
  have hts := atoms_spec (ws := ws_M_isOffice) B.pre
  have hown : s.vm.findClass R_M = some m.cls := findClass_of_methodNamed B.named
  have hlocks := B.notSynchronized
  have hts : ∀ w ∈ lw_g, w.before ([.int p0] : List Value).toArray s = true := fun w hw => hts w (List.mem_cons_of_mem _ hw)
  have hS : va_S A s.heap s.heap [] := va_S.rf
  have hl := lv_entry ([.int p0]) (n := 1) (Nat.le_of_ble_eq_true rfl)
  rw [lg_entry_eq]
  generalize (lg_sl ([.int p0]) ++ List.replicate (1 - (lg_sl ([.int p0])).length) Slot.unset).toArray = ls at hl ⊢
  have hl : lv_has ls 1 [(0, .int p0)] := hl
  unfold wp_M_isOffice at h
  refine lv_iload_n hx hb d_M_isOffice_0 rfl (lv_at hl 0 rfl) ?_
  refine lv_i2l hx hb d_M_isOffice_1 rfl ?_
  refine lv_lconst (v := 0) hx hb d_M_isOffice_2 rfl ?_
  refine lv_ldc2 (v := 7) hx hb hown (hts _ wd_523) d_M_isOffice_3 ?_
  refine ms_calli (va_runS (As := [.long (Int32.toInt64 p0), .long 0, .long 7]) (rest := []) ⟨hx, hb, hml, hown, hts⟩ (mc_M_in l D A σ ((Int32.toInt64 p0)) 0 7 _) ⟨(callB_of 3 hts gw_M_in rfl rfl rfl (hts _ wd_4) (hts _ wd_524) (by decide +kernel) ⟨by decide, by decide⟩), (hts _ wd_525)⟩ ⟨mw_blind, fun U hU hW => ⟨rfl, mw_pass hH hK hA hS hU hW, mn_warm hW hn, h⟩⟩ rfl rfl hl.1 rfl (lv_room (Nat.le_of_ble_eq_true rfl)) d_M_isOffice_6 ⟨by decide, by decide⟩) hS (fun r_1 σ_2 H locs h hH hK hS => ?_)
  obtain ⟨n_3, h⟩ := h
  exact W.zret (v := r_1) hx hb hr (narb n_3) (fun t ht hW => ⟨⟨r_1, σ_2, rfl, h, mw_pass hH hK hA hS ht hW⟩, hS.F ht⟩) hS.2.2 d_M_isOffice_9
def wb_M_numberOf_6 (K : Int32 → ST → Prop) : Nat → ST → Int32 → Int32 → Int32 → Int32 → Prop
  | 0, _, _, _, _, _ => False
  | n + 1, σ, v0, v1, v2, v3 =>
  (((v3 ≤ 0) → K ((((10 * v0)) + ((v1 - v1 / 10 * 10)))) σ) ∧
  ((¬ v3 ≤ 0) → ∀ x_2 : Int32, x_2 = (v1 + ((((v3 - v3 / 10 * 10)) * v2))) → ((((¬ v2 = (7 : Int32)) → ∀ x_5 : Int32, x_5 = (v2 + 1) → (∀ x_7 : Int32, x_7 = (v3 / 10) → (wb_M_numberOf_6 K n σ v0 x_2 x_5 x_7))) ∧
  ((v2 = (7 : Int32)) → ∀ x_9 : Int32, x_9 = (v3 / 10) → (wb_M_numberOf_6 K n σ v0 x_2 2 x_9))))))
def wp_M_numberOf (σ : ST) (p0 : Int32) (K : Int32 → ST → Prop) : Prop :=
  ∃ n : Nat, wb_M_numberOf_6 K n σ p0 0 2 p0
abbrev ROOM_M_numberOf : Room := { frames := 0, cells := 0, slots := 0, locals := 0 }
set_option maxHeartbeats 4000000 in
set_option maxRecDepth 100000 in
theorem mc_M_numberOf (l : Launch) (D : va_G) (A : Nat → Prop) (σ : ST) (p0 : Int32) (K : Int32 → ST → Prop) : Met l y_M_numberOf ws_M_numberOf ROOM_M_numberOf (va_Pc [.int p0] (fun U => mw D A σ U ∧ mn U ∧ wp_M_numberOf σ p0 K)) (va_Qi K (mw D A) A) 0 0 A := by
  refine Met.ofW (cc := c_M_numberOf) (maxL := 4) (ret := (some .int)) (by decide) rfl ?_
  intro p e s m args below meth c s₁ B hml hv
  obtain ⟨rfl, ⟨hH, hK, hA⟩, hn, h⟩ := hv
  have hx := B.exec
  have hb := B.bytes
  have hr := B.returns
  have hts := atoms_spec (ws := ws_M_numberOf) B.pre
  have hown : s.vm.findClass R_M = some m.cls := findClass_of_methodNamed B.named
  have hlocks := B.notSynchronized
  have hts : ∀ w ∈ lw_g, w.before ([.int p0] : List Value).toArray s = true := fun w hw => hts w (List.mem_cons_of_mem _ hw)
  have b_6 : ∀ (n : Nat), ∀ (σ : ST) (v0 : Int32) (v1 : Int32) (v2 : Int32) (v3 : Int32) (H : Heap) (locs : List Loc) (ls : Array Slot), mg_H D vwCl A (st_cell σ) H → mk_K D σ s → va_S A s.heap H locs → lv_has ls 4 [(0, .int v0), (1, .int v1), (2, .int v2), (3, .int v3)] → wb_M_numberOf_6 K n σ v0 v1 v2 v3 → W p l e (headSpec ws_M_numberOf ROOM_M_numberOf).room s m ([.int p0] : List Value).toArray below meth c H locs 0 0 (MQ below (va_Qi K (mw D A) A) ([.int p0] : List Value).toArray s 0 0 A) (F0 m 6 ls []) := by
    intro n
    induction n with
    | zero =>
      intro σ v0 v1 v2 v3 H locs ls hH hK hS hl h
      exact h.elim
    | succ n ih =>
      intro σ v0 v1 v2 v3 H locs ls hH hK hS hl h
      unfold wb_M_numberOf_6 at h
      refine lv_iload_n hx hb d_M_numberOf_6 rfl (lv_at hl 3 rfl) ?_
      refine lv_if_le (tgt := 41) hx hb d_M_numberOf_7 (by decide) (fun c_1 => ?_) (fun c_1 => ?_)
      · have h := h.1 c_1
        refine lv_bipush (v := 10) hx hb d_M_numberOf_41 (by decide) ?_
        refine lv_iload_n hx hb d_M_numberOf_43 rfl (lv_at hl 0 rfl) ?_
        refine lv_imul hx hb d_M_numberOf_44 ?_
        refine lv_iload_n hx hb d_M_numberOf_45 rfl (lv_at hl 1 rfl) ?_
        refine lv_bipush (v := 10) hx hb d_M_numberOf_46 (by decide) ?_
        refine lv_irem hx hb d_M_numberOf_48 (by decide) ?_
        refine lv_iadd hx hb d_M_numberOf_49 ?_
        exact W.iret (v := (((10 * v0)) + ((v1 - v1 / 10 * 10)))) hx hb hr (fun t ht hW => ⟨⟨(((10 * v0)) + ((v1 - v1 / 10 * 10))), σ, rfl, h, mw_pass hH hK hA hS ht hW⟩, hS.F ht⟩) hS.2.2 d_M_numberOf_50
      · have h := h.2 c_1
        refine lv_iload_n hx hb d_M_numberOf_10 rfl (lv_at hl 1 rfl) ?_
        refine lv_iload_n hx hb d_M_numberOf_11 rfl (lv_at hl 3 rfl) ?_
        refine lv_bipush (v := 10) hx hb d_M_numberOf_12 (by decide) ?_
        refine lv_irem hx hb d_M_numberOf_14 (by decide) ?_
        refine lv_iload_n hx hb d_M_numberOf_15 rfl (lv_at hl 2 rfl) ?_
        refine lv_imul hx hb d_M_numberOf_16 ?_
        refine lv_iadd hx hb d_M_numberOf_17 ?_
        refine lv_topi (fun x_2 q_3 => ?_)
        have h := h x_2 q_3
        refine lv_istore_n (lv' := [(1, .int x_2), (0, .int v0), (2, .int v2), (3, .int v3)]) hx hb d_M_numberOf_18 rfl hl (by decide) rfl (fun ls hl => ?_)
        refine lv_iload_n hx hb d_M_numberOf_19 rfl (lv_at hl 2 rfl) ?_
        refine lv_bipush (v := 7) hx hb d_M_numberOf_20 (by decide) ?_
        refine lv_icmp_ne (tgt := 29) hx hb d_M_numberOf_22 (by decide) (fun c_4 => ?_) (fun c_4 => ?_)
        · have h := h.1 c_4
          refine lv_iload_n hx hb d_M_numberOf_29 rfl (lv_at hl 2 rfl) ?_
          refine lv_iconst (v := 1) hx hb d_M_numberOf_30 (by decide) ?_
          refine lv_iadd hx hb d_M_numberOf_31 ?_
          refine lv_topi (fun x_5 q_6 => ?_)
          have h := h x_5 q_6
          refine lv_istore_n (lv' := [(2, .int x_5), (1, .int x_2), (0, .int v0), (3, .int v3)]) hx hb d_M_numberOf_32 rfl hl (by decide) rfl (fun ls hl => ?_)
          refine lv_iload_n hx hb d_M_numberOf_33 rfl (lv_at hl 3 rfl) ?_
          refine lv_bipush (v := 10) hx hb d_M_numberOf_34 (by decide) ?_
          refine lv_idiv hx hb d_M_numberOf_36 (by decide) ?_
          refine lv_topi (fun x_7 q_8 => ?_)
          have h := h x_7 q_8
          refine lv_istore_n (lv' := [(3, .int x_7), (2, .int x_5), (1, .int x_2), (0, .int v0)]) hx hb d_M_numberOf_37 rfl hl (by decide) rfl (fun ls hl => ?_)
          refine lv_goto (tgt := 6) hx hb d_M_numberOf_38 (by decide) ?_
          exact ih _ _ _ _ _ _ _ _ hH hK hS (lv_sub hl [3, 2, 1, 0] rfl) h
        · have h := h.2 c_4
          refine lv_iconst (v := 2) hx hb d_M_numberOf_25 (by decide) ?_
          refine lv_goto (tgt := 32) hx hb d_M_numberOf_26 (by decide) ?_
          refine lv_istore_n (lv' := [(2, .int 2), (1, .int x_2), (0, .int v0), (3, .int v3)]) hx hb d_M_numberOf_32 rfl hl (by decide) rfl (fun ls hl => ?_)
          refine lv_iload_n hx hb d_M_numberOf_33 rfl (lv_at hl 3 rfl) ?_
          refine lv_bipush (v := 10) hx hb d_M_numberOf_34 (by decide) ?_
          refine lv_idiv hx hb d_M_numberOf_36 (by decide) ?_
          refine lv_topi (fun x_9 q_10 => ?_)
          have h := h x_9 q_10
          refine lv_istore_n (lv' := [(3, .int x_9), (2, .int 2), (1, .int x_2), (0, .int v0)]) hx hb d_M_numberOf_37 rfl hl (by decide) rfl (fun ls hl => ?_)
          refine lv_goto (tgt := 6) hx hb d_M_numberOf_38 (by decide) ?_
          exact ih _ _ _ _ _ _ _ _ hH hK hS (lv_sub hl [3, 2, 1, 0] rfl) h
  have hS : va_S A s.heap s.heap [] := va_S.rf
  have hl := lv_entry ([.int p0]) (n := 4) (Nat.le_of_ble_eq_true rfl)
  rw [lg_entry_eq]
  generalize (lg_sl ([.int p0]) ++ List.replicate (4 - (lg_sl ([.int p0])).length) Slot.unset).toArray = ls at hl ⊢
  have hl : lv_has ls 4 [(0, .int p0)] := hl
  unfold wp_M_numberOf at h
  refine lv_iconst (v := 0) hx hb d_M_numberOf_0 (by decide) ?_
  refine lv_istore_n (lv' := [(1, .int 0), (0, .int p0)]) hx hb d_M_numberOf_1 rfl hl (by decide) rfl (fun ls hl => ?_)
  refine lv_iconst (v := 2) hx hb d_M_numberOf_2 (by decide) ?_
  refine lv_istore_n (lv' := [(2, .int 2), (1, .int 0), (0, .int p0)]) hx hb d_M_numberOf_3 rfl hl (by decide) rfl (fun ls hl => ?_)
  refine lv_iload_n hx hb d_M_numberOf_4 rfl (lv_at hl 2 rfl) ?_
  refine lv_istore_n (lv' := [(3, .int p0), (2, .int 2), (1, .int 0), (0, .int p0)]) hx hb d_M_numberOf_5 rfl hl (by decide) rfl (fun ls hl => ?_)
  obtain ⟨n, h⟩ := h
  exact b_6 n _ _ _ _ _ _ _ _ hH hK hS (lv_sub hl [3, 2, 1, 0] rfl) h
def wb_M_find_2 (h0 : Nat) (K : Int32 → ST → Prop) : Nat → ST → Int64 → Int32 → Prop
  | 0, _, _, _ => False
  | n + 1, σ, v1, v3 =>
  st_tg σ h0 = some 1 ∧ ((((((st_I σ 40 h0)) < v3) → K 0 σ) ∧
  ((¬ ((st_I σ 40 h0)) < v3) → wp_M_numberOf σ v3 (fun (r_3 : Int32) σ_4 =>
  (((¬ ((lg_cmp ((Int32.toInt64 r_3)) v1)) = 0) → ∀ x_6 : Int32, x_6 = v3 + 1 → (wb_M_find_2 h0 K n σ_4 v1 x_6)) ∧
  ((((lg_cmp ((Int32.toInt64 r_3)) v1)) = 0) → K v3 σ_4))))))
def wp_M_find (σ : ST) (h0 : Nat) (p1 : Int64) (K : Int32 → ST → Prop) : Prop :=
  ∃ n : Nat, wb_M_find_2 h0 K n σ p1 1
abbrev ROOM_M_find : Room := { frames := 1, cells := 0, slots := 0, locals := 23 }
set_option maxHeartbeats 4000000 in
set_option maxRecDepth 100000 in
theorem mc_M_find (l : Launch) (D : va_G) (A : Nat → Prop) (σ : ST) (h0 : Nat) (p1 : Int64) (K : Int32 → ST → Prop) : Met l y_M_find ws_M_find ROOM_M_find (va_Pc [.ref h0, .long p1] (fun U => mw D A σ U ∧ mn U ∧ wp_M_find σ h0 p1 K)) (va_Qi K (mw D A) A) 0 0 A := by
  refine Met.ofW (cc := c_M_find) (maxL := 4) (ret := (some .int)) (by decide) rfl ?_
  intro p e s m args below meth c s₁ B hml hv
  obtain ⟨rfl, ⟨hH, hK, hA⟩, hn, h⟩ := hv
  have hx := B.exec
  have hb := B.bytes
  have hr := B.returns
  have hts := atoms_spec (ws := ws_M_find) B.pre
  have hown : s.vm.findClass R_M = some m.cls := findClass_of_methodNamed B.named
  have hlocks := B.notSynchronized
  have hts : ∀ w ∈ lw_g, w.before ([.ref h0, .long p1] : List Value).toArray s = true := fun w hw => hts w (List.mem_cons_of_mem _ hw)
  have b_2 : ∀ (n : Nat), ∀ (σ : ST) (v1 : Int64) (v3 : Int32) (H : Heap) (locs : List Loc) (ls : Array Slot), mg_H D vwCl A (st_cell σ) H → mk_K D σ s → va_S A s.heap H locs → lv_has ls 4 [(0, va_rf (some h0)), (1, .long v1), (3, .int v3)] → wb_M_find_2 h0 K n σ v1 v3 → W p l e (headSpec ws_M_find ROOM_M_find).room s m ([.ref h0, .long p1] : List Value).toArray below meth c H locs 0 0 (MQ below (va_Qi K (mw D A) A) ([.ref h0, .long p1] : List Value).toArray s 0 0 A) (F0 m 2 ls []) := by
    intro n
    induction n with
    | zero =>
      intro σ v1 v3 H locs ls hH hK hS hl h
      exact h.elim
    | succ n ih =>
      intro σ v1 v3 H locs ls hH hK hS hl h
      unfold wb_M_find_2 at h
      refine lv_iload_n hx hb d_M_find_2 rfl (lv_at hl 2 rfl) ?_
      refine mr_aload_n hx hb d_M_find_3 rfl (lv_at hl 0 rfl) ?_
      obtain ⟨t_1, h⟩ := h
      refine ms_get (σ := σ) (r := some h0) (a := h0) (fs := fl_1 σ h0) (ci := 1) (C := R_M) (T := T_M) (N := 32) hx hb hts in_1 hown hK hH rfl (cell_1 t_1) rfl 0 (by decide) (hts _ wd_417) (fun _ h9 => h9) (v := .int (st_I σ 40 h0)) rfl d_M_find_4 ?_
      refine lv_icmp_gt (tgt := 28) hx hb d_M_find_7 (by decide) (fun c_2 => ?_) (fun c_2 => ?_)
      · have h := h.1 c_2
        refine lv_iconst (v := 0) hx hb d_M_find_28 (by decide) ?_
        exact W.iret (v := 0) hx hb hr (fun t ht hW => ⟨⟨0, σ, rfl, h, mw_pass hH hK hA hS ht hW⟩, hS.F ht⟩) hS.2.2 d_M_find_29
      · have h := h.2 c_2
        refine lv_iload_n hx hb d_M_find_10 rfl (lv_at hl 2 rfl) ?_
        refine ms_calli (va_runS (As := [.int v3]) (rest := []) ⟨hx, hb, hml, hown, hts⟩ (mc_M_numberOf l D A σ v3 _) ⟨(callB_of 1 hts gw_M_numberOf rfl rfl rfl (hts _ wd_4) (hts _ wd_533) (by decide +kernel) ⟨by decide, by decide⟩), (hts _ wd_534)⟩ ⟨mw_blind, fun U hU hW => ⟨rfl, mw_pass hH hK hA hS hU hW, mn_warm hW hn, h⟩⟩ rfl rfl hl.1 rfl (lv_room (Nat.le_of_ble_eq_true rfl)) d_M_find_11 ⟨by decide, by decide⟩) hS (fun r_3 σ_4 H locs h hH hK hS => ?_)
        refine lv_i2l hx hb d_M_find_14 rfl ?_
        refine lv_lload_n hx hb d_M_find_15 rfl (lv_at hl 1 rfl) ?_
        refine W.lcmp hx hb d_M_find_16 ?_
        refine lv_if_ne (tgt := 22) hx hb d_M_find_17 (by decide) (fun c_5 => ?_) (fun c_5 => ?_)
        · have h := h.1 c_5
          obtain ⟨x_6, q_7⟩ : ∃ y : Int32, y = v3 + 1 := ⟨_, rfl⟩
          have h := h x_6 q_7
          refine lv_iinc (v := x_6) (lv' := [(3, .int x_6), (0, va_rf (some h0)), (1, .long v1)]) hx hb d_M_find_22 hl (k := 2) rfl (by rw [q_7]; rfl) (by decide) rfl (fun ls hl => ?_)
          refine lv_goto (tgt := 2) hx hb d_M_find_25 (by decide) ?_
          exact ih _ _ _ _ _ _ hH hK hS (lv_sub hl [1, 2, 0] rfl) h
        · have h := h.2 c_5
          refine lv_iload_n hx hb d_M_find_20 rfl (lv_at hl 2 rfl) ?_
          exact W.iret (v := v3) hx hb hr (fun t ht hW => ⟨⟨v3, σ_4, rfl, h, mw_pass hH hK hA hS ht hW⟩, hS.F ht⟩) hS.2.2 d_M_find_21
  have hS : va_S A s.heap s.heap [] := va_S.rf
  have hl := lv_entry ([.ref h0, .long p1]) (n := 4) (Nat.le_of_ble_eq_true rfl)
  rw [lg_entry_eq]
  generalize (lg_sl ([.ref h0, .long p1]) ++ List.replicate (4 - (lg_sl ([.ref h0, .long p1])).length) Slot.unset).toArray = ls at hl ⊢
  have hl : lv_has ls 4 [(0, va_rf (some h0)), (1, .long p1)] := hl
  unfold wp_M_find at h
  refine lv_iconst (v := 1) hx hb d_M_find_0 (by decide) ?_
  refine lv_istore_n (lv' := [(3, .int 1), (0, va_rf (some h0)), (1, .long p1)]) hx hb d_M_find_1 rfl hl (by decide) rfl (fun ls hl => ?_)
  obtain ⟨n, h⟩ := h
  exact b_2 n _ _ _ _ _ _ hH hK hS (lv_sub hl [1, 2, 0] rfl) h
def wp_M_add (σ : ST) (h0 : Nat) (p1 : Int32) (p2 : Int64) (p4 : Int64) (p6 : Int32) (p7 : Int32) (K : Int32 → ST → Prop) : Prop :=
  st_tg σ h0 = some 1 ∧ (∀ σ_2 : ST, σ_2 = st_sI σ 40 h0 ((((st_I σ 40 h0)) + 1)) → (∃ a_5 : Nat, (st_R σ_2 41 h0) = some a_5 ∧ st_tg σ_2 a_5 = some 301 ∧ (vp_in ((st_I σ_2 40 h0)) (st_ln σ_2 a_5) ∧ (∀ σ_9 : ST, σ_9 = st_uI σ_2 a_5 (Int32.toNatClampNeg ((st_I σ_2 40 h0))) 0 → (∃ a_13 : Nat, (st_R σ_9 42 h0) = some a_13 ∧ st_tg σ_9 a_13 = some 302 ∧ (vp_in ((st_I σ_9 40 h0)) (st_ln σ_9 a_13) ∧ (∀ σ_17 : ST, σ_17 = st_uJ σ_9 a_13 (Int32.toNatClampNeg ((st_I σ_9 40 h0))) p2 → (∃ a_22 : Nat, (st_R σ_17 43 h0) = some a_22 ∧ st_tg σ_17 a_22 = some 302 ∧ (vp_in ((st_I σ_17 40 h0)) (st_ln σ_17 a_22) ∧ (∀ σ_26 : ST, σ_26 = st_uJ σ_17 a_22 (Int32.toNatClampNeg ((st_I σ_17 40 h0))) p4 → (∃ a_32 : Nat, (st_R σ_26 44 h0) = some a_32 ∧ st_tg σ_26 a_32 = some 301 ∧ (vp_in ((st_I σ_26 40 h0)) (st_ln σ_26 a_32) ∧ (∀ σ_36 : ST, σ_36 = st_uI σ_26 a_32 (Int32.toNatClampNeg ((st_I σ_26 40 h0))) p6 → (∃ a_43 : Nat, (st_R σ_36 45 h0) = some a_43 ∧ st_tg σ_36 a_43 = some 301 ∧ (vp_in ((st_I σ_36 40 h0)) (st_ln σ_36 a_43) ∧ (∀ σ_47 : ST, σ_47 = st_uI σ_36 a_43 (Int32.toNatClampNeg ((st_I σ_36 40 h0))) p7 → (∃ a_55 : Nat, (st_R σ_47 46 h0) = some a_55 ∧ st_tg σ_47 a_55 = some 301 ∧ (vp_in ((st_I σ_47 40 h0)) (st_ln σ_47 a_55) ∧ (∀ σ_59 : ST, σ_59 = st_uI σ_47 a_55 (Int32.toNatClampNeg ((st_I σ_47 40 h0))) p1 → (∃ a_68 : Nat, (st_R σ_59 47 h0) = some a_68 ∧ st_tg σ_59 a_68 = some 301 ∧ (vp_in ((st_I σ_59 40 h0)) (st_ln σ_59 a_68) ∧ (∀ σ_72 : ST, σ_72 = st_uI σ_59 a_68 (Int32.toNatClampNeg ((st_I σ_59 40 h0))) ((-1)) → (∃ a_82 : Nat, (st_R σ_72 48 h0) = some a_82 ∧ st_tg σ_72 a_82 = some 301 ∧ (vp_in ((st_I σ_72 40 h0)) (st_ln σ_72 a_82) ∧ (∀ σ_86 : ST, σ_86 = st_uI σ_72 a_82 (Int32.toNatClampNeg ((st_I σ_72 40 h0))) ((-1)) → (wp_M_numberOf σ_86 ((st_I σ_86 40 h0)) (fun (r_97 : Int32) σ_98 =>
  K r_97 σ_98)))))))))))))))))))))))))))
abbrev ROOM_M_add : Room := { frames := 1, cells := 0, slots := 0, locals := 23 }
set_option maxHeartbeats 4000000 in
set_option maxRecDepth 100000 in
theorem mc_M_add (l : Launch) (D : va_G) (A : Nat → Prop) (σ : ST) (h0 : Nat) (p1 : Int32) (p2 : Int64) (p4 : Int64) (p6 : Int32) (p7 : Int32) (K : Int32 → ST → Prop) : Met l y_M_add ws_M_add ROOM_M_add (va_Pc [.ref h0, .int p1, .long p2, .long p4, .int p6, .int p7] (fun U => mw D A σ U ∧ mn U ∧ wp_M_add σ h0 p1 p2 p4 p6 p7 K)) (va_Qi K (mw D A) A) 0 0 A := by
  refine Met.ofW (cc := c_M_add) (maxL := 8) (ret := (some .int)) (by decide) rfl ?_
  intro p e s m args below meth c s₁ B hml hv
  obtain ⟨rfl, ⟨hH, hK, hA⟩, hn, h⟩ := hv
  have hx := B.exec
  have hb := B.bytes
  have hr := B.returns
  have hts := atoms_spec (ws := ws_M_add) B.pre
  have hown : s.vm.findClass R_M = some m.cls := findClass_of_methodNamed B.named
  have hlocks := B.notSynchronized
  have hts : ∀ w ∈ lw_g, w.before ([.ref h0, .int p1, .long p2, .long p4, .int p6, .int p7] : List Value).toArray s = true := fun w hw => hts w (List.mem_cons_of_mem _ hw)
  have hS : va_S A s.heap s.heap [] := va_S.rf
  have hl := lv_entry ([.ref h0, .int p1, .long p2, .long p4, .int p6, .int p7]) (n := 8) (Nat.le_of_ble_eq_true rfl)
  rw [lg_entry_eq]
  generalize (lg_sl ([.ref h0, .int p1, .long p2, .long p4, .int p6, .int p7]) ++ List.replicate (8 - (lg_sl ([.ref h0, .int p1, .long p2, .long p4, .int p6, .int p7])).length) Slot.unset).toArray = ls at hl ⊢
  have hl : lv_has ls 8 [(0, va_rf (some h0)), (1, .int p1), (2, .long p2), (4, .long p4), (6, .int p6), (7, .int p7)] := hl
  unfold wp_M_add at h
  refine mr_aload_n hx hb d_M_add_0 rfl (lv_at hl 0 rfl) ?_
  refine lv_dup hx hb d_M_add_1 (cat_rf _) ?_
  obtain ⟨t_1, h⟩ := h
  refine ms_get (σ := σ) (r := some h0) (a := h0) (fs := fl_1 σ h0) (ci := 1) (C := R_M) (T := T_M) (N := 32) hx hb hts in_1 hown hK hH rfl (cell_1 t_1) rfl 0 (by decide) (hts _ wd_417) (fun _ h9 => h9) (v := .int (st_I σ 40 h0)) rfl d_M_add_2 ?_
  refine lv_iconst (v := 1) hx hb d_M_add_5 (by decide) ?_
  refine lv_iadd hx hb d_M_add_6 ?_
  obtain ⟨σ_2, z_3⟩ : ∃ y : ST, y = st_sI σ 40 h0 ((((st_I σ 40 h0)) + 1)) := ⟨_, rfl⟩
  have h := h σ_2 z_3
  refine ms_put (σ := σ) (r := some h0) (a := h0) (fs := fl_1 σ h0) (ci := 1) (C := R_M) (T := T_M) (N := 32) (v := .int (((st_I σ 40 h0)) + 1)) (ty := .int) hx hb hts in_1 ty_M ty_M_ok nm_M hown hK hH hS rfl (cell_1 t_1) rfl 0 (by decide) (hts _ wd_417) (fun _ h9 => h9) rfl (by decide +kernel) rfl rfl (Nat.le_of_ble_eq_true rfl) d_M_add_7 (σ1 := σ_2) (by rw [z_3]; exact put_1_0 σ h0 ((((st_I σ 40 h0)) + 1)) t_1) (by rw [z_3]; rfl) (by rw [z_3]; rfl) (fun H locs hH hK hS => ?_)
  have t_4 : st_tg σ_2 h0 = some 1 := by rw [z_3]; exact t_1
  refine mr_aload_n hx hb d_M_add_10 rfl (lv_at hl 0 rfl) ?_
  refine ms_get (σ := σ_2) (r := some h0) (a := h0) (fs := fl_1 σ_2 h0) (ci := 1) (C := R_M) (T := T_M) (N := 32) hx hb hts in_1 hown hK hH rfl (cell_1 t_4) rfl 1 (by decide) (hts _ wd_418) (fun _ h9 => h9) (v := va_rf (st_R σ_2 41 h0)) rfl d_M_add_11 ?_
  refine mr_aload_n hx hb d_M_add_14 rfl (lv_at hl 0 rfl) ?_
  refine ms_get (σ := σ_2) (r := some h0) (a := h0) (fs := fl_1 σ_2 h0) (ci := 1) (C := R_M) (T := T_M) (N := 32) hx hb hts in_1 hown hK hH rfl (cell_1 t_4) rfl 0 (by decide) (hts _ wd_417) (fun _ h9 => h9) (v := .int (st_I σ_2 40 h0)) rfl d_M_add_15 ?_
  refine lv_iconst (v := 0) hx hb d_M_add_18 (by decide) ?_
  obtain ⟨a_5, e_6, t_7, h⟩ := h
  obtain ⟨b_8, h⟩ := h
  obtain ⟨σ_9, z_10⟩ : ∃ y : ST, y = st_uI σ_2 a_5 (Int32.toNatClampNeg ((st_I σ_2 40 h0))) 0 := ⟨_, rfl⟩
  have h := h σ_9 z_10
  refine ms_iast (σ := σ_2) (r := (st_R σ_2 41 h0)) (a := a_5) (x := 0) hx hb hK hH hS e_6 t_7 rfl (cell_301 t_7)  b_8 d_M_add_19 (σ1 := σ_9) (by rw [z_10]; exact uput_301 σ_2 a_5 _ 0 t_7) (by rw [z_10]; rfl) (by rw [z_10]; rfl) (fun H locs hH hK hS => ?_)
  have t_11 : st_tg σ_9 h0 = some 1 := by rw [z_10]; exact t_4
  have t_12 : st_tg σ_9 a_5 = some 301 := by rw [z_10]; exact t_7
  refine mr_aload_n hx hb d_M_add_20 rfl (lv_at hl 0 rfl) ?_
  refine ms_get (σ := σ_9) (r := some h0) (a := h0) (fs := fl_1 σ_9 h0) (ci := 1) (C := R_M) (T := T_M) (N := 32) hx hb hts in_1 hown hK hH rfl (cell_1 t_11) rfl 2 (by decide) (hts _ wd_419) (fun _ h9 => h9) (v := va_rf (st_R σ_9 42 h0)) rfl d_M_add_21 ?_
  refine mr_aload_n hx hb d_M_add_24 rfl (lv_at hl 0 rfl) ?_
  refine ms_get (σ := σ_9) (r := some h0) (a := h0) (fs := fl_1 σ_9 h0) (ci := 1) (C := R_M) (T := T_M) (N := 32) hx hb hts in_1 hown hK hH rfl (cell_1 t_11) rfl 0 (by decide) (hts _ wd_417) (fun _ h9 => h9) (v := .int (st_I σ_9 40 h0)) rfl d_M_add_25 ?_
  refine lv_lload_n hx hb d_M_add_28 rfl (lv_at hl 2 rfl) ?_
  obtain ⟨a_13, e_14, t_15, h⟩ := h
  obtain ⟨b_16, h⟩ := h
  obtain ⟨σ_17, z_18⟩ : ∃ y : ST, y = st_uJ σ_9 a_13 (Int32.toNatClampNeg ((st_I σ_9 40 h0))) p2 := ⟨_, rfl⟩
  have h := h σ_17 z_18
  refine ms_last (σ := σ_9) (r := (st_R σ_9 42 h0)) (a := a_13) (x := p2) hx hb hK hH hS e_14 t_15 rfl (cell_302 t_15)  b_16 d_M_add_29 (σ1 := σ_17) (by rw [z_18]; exact uput_302 σ_9 a_13 _ p2 t_15) (by rw [z_18]; rfl) (by rw [z_18]; rfl) (fun H locs hH hK hS => ?_)
  have t_19 : st_tg σ_17 h0 = some 1 := by rw [z_18]; exact t_11
  have t_20 : st_tg σ_17 a_5 = some 301 := by rw [z_18]; exact t_12
  have t_21 : st_tg σ_17 a_13 = some 302 := by rw [z_18]; exact t_15
  refine mr_aload_n hx hb d_M_add_30 rfl (lv_at hl 0 rfl) ?_
  refine ms_get (σ := σ_17) (r := some h0) (a := h0) (fs := fl_1 σ_17 h0) (ci := 1) (C := R_M) (T := T_M) (N := 32) hx hb hts in_1 hown hK hH rfl (cell_1 t_19) rfl 3 (by decide) (hts _ wd_420) (fun _ h9 => h9) (v := va_rf (st_R σ_17 43 h0)) rfl d_M_add_31 ?_
  refine mr_aload_n hx hb d_M_add_34 rfl (lv_at hl 0 rfl) ?_
  refine ms_get (σ := σ_17) (r := some h0) (a := h0) (fs := fl_1 σ_17 h0) (ci := 1) (C := R_M) (T := T_M) (N := 32) hx hb hts in_1 hown hK hH rfl (cell_1 t_19) rfl 0 (by decide) (hts _ wd_417) (fun _ h9 => h9) (v := .int (st_I σ_17 40 h0)) rfl d_M_add_35 ?_
  refine lv_lload hx hb d_M_add_38 (lv_at hl 3 rfl) ?_
  obtain ⟨a_22, e_23, t_24, h⟩ := h
  obtain ⟨b_25, h⟩ := h
  obtain ⟨σ_26, z_27⟩ : ∃ y : ST, y = st_uJ σ_17 a_22 (Int32.toNatClampNeg ((st_I σ_17 40 h0))) p4 := ⟨_, rfl⟩
  have h := h σ_26 z_27
  refine ms_last (σ := σ_17) (r := (st_R σ_17 43 h0)) (a := a_22) (x := p4) hx hb hK hH hS e_23 t_24 rfl (cell_302 t_24)  b_25 d_M_add_40 (σ1 := σ_26) (by rw [z_27]; exact uput_302 σ_17 a_22 _ p4 t_24) (by rw [z_27]; rfl) (by rw [z_27]; rfl) (fun H locs hH hK hS => ?_)
  have t_28 : st_tg σ_26 h0 = some 1 := by rw [z_27]; exact t_19
  have t_29 : st_tg σ_26 a_5 = some 301 := by rw [z_27]; exact t_20
  have t_30 : st_tg σ_26 a_13 = some 302 := by rw [z_27]; exact t_21
  have t_31 : st_tg σ_26 a_22 = some 302 := by rw [z_27]; exact t_24
  refine mr_aload_n hx hb d_M_add_41 rfl (lv_at hl 0 rfl) ?_
  refine ms_get (σ := σ_26) (r := some h0) (a := h0) (fs := fl_1 σ_26 h0) (ci := 1) (C := R_M) (T := T_M) (N := 32) hx hb hts in_1 hown hK hH rfl (cell_1 t_28) rfl 4 (by decide) (hts _ wd_421) (fun _ h9 => h9) (v := va_rf (st_R σ_26 44 h0)) rfl d_M_add_42 ?_
  refine mr_aload_n hx hb d_M_add_45 rfl (lv_at hl 0 rfl) ?_
  refine ms_get (σ := σ_26) (r := some h0) (a := h0) (fs := fl_1 σ_26 h0) (ci := 1) (C := R_M) (T := T_M) (N := 32) hx hb hts in_1 hown hK hH rfl (cell_1 t_28) rfl 0 (by decide) (hts _ wd_417) (fun _ h9 => h9) (v := .int (st_I σ_26 40 h0)) rfl d_M_add_46 ?_
  refine lv_iload hx hb d_M_add_49 (lv_at hl 4 rfl) ?_
  obtain ⟨a_32, e_33, t_34, h⟩ := h
  obtain ⟨b_35, h⟩ := h
  obtain ⟨σ_36, z_37⟩ : ∃ y : ST, y = st_uI σ_26 a_32 (Int32.toNatClampNeg ((st_I σ_26 40 h0))) p6 := ⟨_, rfl⟩
  have h := h σ_36 z_37
  refine ms_iast (σ := σ_26) (r := (st_R σ_26 44 h0)) (a := a_32) (x := p6) hx hb hK hH hS e_33 t_34 rfl (cell_301 t_34)  b_35 d_M_add_51 (σ1 := σ_36) (by rw [z_37]; exact uput_301 σ_26 a_32 _ p6 t_34) (by rw [z_37]; rfl) (by rw [z_37]; rfl) (fun H locs hH hK hS => ?_)
  have t_38 : st_tg σ_36 h0 = some 1 := by rw [z_37]; exact t_28
  have t_39 : st_tg σ_36 a_5 = some 301 := by rw [z_37]; exact t_29
  have t_40 : st_tg σ_36 a_13 = some 302 := by rw [z_37]; exact t_30
  have t_41 : st_tg σ_36 a_22 = some 302 := by rw [z_37]; exact t_31
  have t_42 : st_tg σ_36 a_32 = some 301 := by rw [z_37]; exact t_34
  refine mr_aload_n hx hb d_M_add_52 rfl (lv_at hl 0 rfl) ?_
  refine ms_get (σ := σ_36) (r := some h0) (a := h0) (fs := fl_1 σ_36 h0) (ci := 1) (C := R_M) (T := T_M) (N := 32) hx hb hts in_1 hown hK hH rfl (cell_1 t_38) rfl 5 (by decide) (hts _ wd_422) (fun _ h9 => h9) (v := va_rf (st_R σ_36 45 h0)) rfl d_M_add_53 ?_
  refine mr_aload_n hx hb d_M_add_56 rfl (lv_at hl 0 rfl) ?_
  refine ms_get (σ := σ_36) (r := some h0) (a := h0) (fs := fl_1 σ_36 h0) (ci := 1) (C := R_M) (T := T_M) (N := 32) hx hb hts in_1 hown hK hH rfl (cell_1 t_38) rfl 0 (by decide) (hts _ wd_417) (fun _ h9 => h9) (v := .int (st_I σ_36 40 h0)) rfl d_M_add_57 ?_
  refine lv_iload hx hb d_M_add_60 (lv_at hl 5 rfl) ?_
  obtain ⟨a_43, e_44, t_45, h⟩ := h
  obtain ⟨b_46, h⟩ := h
  obtain ⟨σ_47, z_48⟩ : ∃ y : ST, y = st_uI σ_36 a_43 (Int32.toNatClampNeg ((st_I σ_36 40 h0))) p7 := ⟨_, rfl⟩
  have h := h σ_47 z_48
  refine ms_iast (σ := σ_36) (r := (st_R σ_36 45 h0)) (a := a_43) (x := p7) hx hb hK hH hS e_44 t_45 rfl (cell_301 t_45)  b_46 d_M_add_62 (σ1 := σ_47) (by rw [z_48]; exact uput_301 σ_36 a_43 _ p7 t_45) (by rw [z_48]; rfl) (by rw [z_48]; rfl) (fun H locs hH hK hS => ?_)
  have t_49 : st_tg σ_47 h0 = some 1 := by rw [z_48]; exact t_38
  have t_50 : st_tg σ_47 a_5 = some 301 := by rw [z_48]; exact t_39
  have t_51 : st_tg σ_47 a_13 = some 302 := by rw [z_48]; exact t_40
  have t_52 : st_tg σ_47 a_22 = some 302 := by rw [z_48]; exact t_41
  have t_53 : st_tg σ_47 a_32 = some 301 := by rw [z_48]; exact t_42
  have t_54 : st_tg σ_47 a_43 = some 301 := by rw [z_48]; exact t_45
  refine mr_aload_n hx hb d_M_add_63 rfl (lv_at hl 0 rfl) ?_
  refine ms_get (σ := σ_47) (r := some h0) (a := h0) (fs := fl_1 σ_47 h0) (ci := 1) (C := R_M) (T := T_M) (N := 32) hx hb hts in_1 hown hK hH rfl (cell_1 t_49) rfl 6 (by decide) (hts _ wd_423) (fun _ h9 => h9) (v := va_rf (st_R σ_47 46 h0)) rfl d_M_add_64 ?_
  refine mr_aload_n hx hb d_M_add_67 rfl (lv_at hl 0 rfl) ?_
  refine ms_get (σ := σ_47) (r := some h0) (a := h0) (fs := fl_1 σ_47 h0) (ci := 1) (C := R_M) (T := T_M) (N := 32) hx hb hts in_1 hown hK hH rfl (cell_1 t_49) rfl 0 (by decide) (hts _ wd_417) (fun _ h9 => h9) (v := .int (st_I σ_47 40 h0)) rfl d_M_add_68 ?_
  refine lv_iload_n hx hb d_M_add_71 rfl (lv_at hl 1 rfl) ?_
  obtain ⟨a_55, e_56, t_57, h⟩ := h
  obtain ⟨b_58, h⟩ := h
  obtain ⟨σ_59, z_60⟩ : ∃ y : ST, y = st_uI σ_47 a_55 (Int32.toNatClampNeg ((st_I σ_47 40 h0))) p1 := ⟨_, rfl⟩
  have h := h σ_59 z_60
  refine ms_iast (σ := σ_47) (r := (st_R σ_47 46 h0)) (a := a_55) (x := p1) hx hb hK hH hS e_56 t_57 rfl (cell_301 t_57)  b_58 d_M_add_72 (σ1 := σ_59) (by rw [z_60]; exact uput_301 σ_47 a_55 _ p1 t_57) (by rw [z_60]; rfl) (by rw [z_60]; rfl) (fun H locs hH hK hS => ?_)
  have t_61 : st_tg σ_59 h0 = some 1 := by rw [z_60]; exact t_49
  have t_62 : st_tg σ_59 a_5 = some 301 := by rw [z_60]; exact t_50
  have t_63 : st_tg σ_59 a_13 = some 302 := by rw [z_60]; exact t_51
  have t_64 : st_tg σ_59 a_22 = some 302 := by rw [z_60]; exact t_52
  have t_65 : st_tg σ_59 a_32 = some 301 := by rw [z_60]; exact t_53
  have t_66 : st_tg σ_59 a_43 = some 301 := by rw [z_60]; exact t_54
  have t_67 : st_tg σ_59 a_55 = some 301 := by rw [z_60]; exact t_57
  refine mr_aload_n hx hb d_M_add_73 rfl (lv_at hl 0 rfl) ?_
  refine ms_get (σ := σ_59) (r := some h0) (a := h0) (fs := fl_1 σ_59 h0) (ci := 1) (C := R_M) (T := T_M) (N := 32) hx hb hts in_1 hown hK hH rfl (cell_1 t_61) rfl 7 (by decide) (hts _ wd_424) (fun _ h9 => h9) (v := va_rf (st_R σ_59 47 h0)) rfl d_M_add_74 ?_
  refine mr_aload_n hx hb d_M_add_77 rfl (lv_at hl 0 rfl) ?_
  refine ms_get (σ := σ_59) (r := some h0) (a := h0) (fs := fl_1 σ_59 h0) (ci := 1) (C := R_M) (T := T_M) (N := 32) hx hb hts in_1 hown hK hH rfl (cell_1 t_61) rfl 0 (by decide) (hts _ wd_417) (fun _ h9 => h9) (v := .int (st_I σ_59 40 h0)) rfl d_M_add_78 ?_
  refine lv_iconst (v := (-1)) hx hb d_M_add_81 (by decide) ?_
  obtain ⟨a_68, e_69, t_70, h⟩ := h
  obtain ⟨b_71, h⟩ := h
  obtain ⟨σ_72, z_73⟩ : ∃ y : ST, y = st_uI σ_59 a_68 (Int32.toNatClampNeg ((st_I σ_59 40 h0))) ((-1)) := ⟨_, rfl⟩
  have h := h σ_72 z_73
  refine ms_iast (σ := σ_59) (r := (st_R σ_59 47 h0)) (a := a_68) (x := (-1)) hx hb hK hH hS e_69 t_70 rfl (cell_301 t_70)  b_71 d_M_add_82 (σ1 := σ_72) (by rw [z_73]; exact uput_301 σ_59 a_68 _ ((-1)) t_70) (by rw [z_73]; rfl) (by rw [z_73]; rfl) (fun H locs hH hK hS => ?_)
  have t_74 : st_tg σ_72 h0 = some 1 := by rw [z_73]; exact t_61
  have t_75 : st_tg σ_72 a_5 = some 301 := by rw [z_73]; exact t_62
  have t_76 : st_tg σ_72 a_13 = some 302 := by rw [z_73]; exact t_63
  have t_77 : st_tg σ_72 a_22 = some 302 := by rw [z_73]; exact t_64
  have t_78 : st_tg σ_72 a_32 = some 301 := by rw [z_73]; exact t_65
  have t_79 : st_tg σ_72 a_43 = some 301 := by rw [z_73]; exact t_66
  have t_80 : st_tg σ_72 a_55 = some 301 := by rw [z_73]; exact t_67
  have t_81 : st_tg σ_72 a_68 = some 301 := by rw [z_73]; exact t_70
  refine mr_aload_n hx hb d_M_add_83 rfl (lv_at hl 0 rfl) ?_
  refine ms_get (σ := σ_72) (r := some h0) (a := h0) (fs := fl_1 σ_72 h0) (ci := 1) (C := R_M) (T := T_M) (N := 32) hx hb hts in_1 hown hK hH rfl (cell_1 t_74) rfl 8 (by decide) (hts _ wd_425) (fun _ h9 => h9) (v := va_rf (st_R σ_72 48 h0)) rfl d_M_add_84 ?_
  refine mr_aload_n hx hb d_M_add_87 rfl (lv_at hl 0 rfl) ?_
  refine ms_get (σ := σ_72) (r := some h0) (a := h0) (fs := fl_1 σ_72 h0) (ci := 1) (C := R_M) (T := T_M) (N := 32) hx hb hts in_1 hown hK hH rfl (cell_1 t_74) rfl 0 (by decide) (hts _ wd_417) (fun _ h9 => h9) (v := .int (st_I σ_72 40 h0)) rfl d_M_add_88 ?_
  refine lv_iconst (v := (-1)) hx hb d_M_add_91 (by decide) ?_
  obtain ⟨a_82, e_83, t_84, h⟩ := h
  obtain ⟨b_85, h⟩ := h
  obtain ⟨σ_86, z_87⟩ : ∃ y : ST, y = st_uI σ_72 a_82 (Int32.toNatClampNeg ((st_I σ_72 40 h0))) ((-1)) := ⟨_, rfl⟩
  have h := h σ_86 z_87
  refine ms_iast (σ := σ_72) (r := (st_R σ_72 48 h0)) (a := a_82) (x := (-1)) hx hb hK hH hS e_83 t_84 rfl (cell_301 t_84)  b_85 d_M_add_92 (σ1 := σ_86) (by rw [z_87]; exact uput_301 σ_72 a_82 _ ((-1)) t_84) (by rw [z_87]; rfl) (by rw [z_87]; rfl) (fun H locs hH hK hS => ?_)
  have t_88 : st_tg σ_86 h0 = some 1 := by rw [z_87]; exact t_74
  have t_89 : st_tg σ_86 a_5 = some 301 := by rw [z_87]; exact t_75
  have t_90 : st_tg σ_86 a_13 = some 302 := by rw [z_87]; exact t_76
  have t_91 : st_tg σ_86 a_22 = some 302 := by rw [z_87]; exact t_77
  have t_92 : st_tg σ_86 a_32 = some 301 := by rw [z_87]; exact t_78
  have t_93 : st_tg σ_86 a_43 = some 301 := by rw [z_87]; exact t_79
  have t_94 : st_tg σ_86 a_55 = some 301 := by rw [z_87]; exact t_80
  have t_95 : st_tg σ_86 a_68 = some 301 := by rw [z_87]; exact t_81
  have t_96 : st_tg σ_86 a_82 = some 301 := by rw [z_87]; exact t_84
  refine mr_aload_n hx hb d_M_add_93 rfl (lv_at hl 0 rfl) ?_
  refine ms_get (σ := σ_86) (r := some h0) (a := h0) (fs := fl_1 σ_86 h0) (ci := 1) (C := R_M) (T := T_M) (N := 32) hx hb hts in_1 hown hK hH rfl (cell_1 t_88) rfl 0 (by decide) (hts _ wd_417) (fun _ h9 => h9) (v := .int (st_I σ_86 40 h0)) rfl d_M_add_94 ?_
  refine ms_calli (va_runS (As := [.int (st_I σ_86 40 h0)]) (rest := []) ⟨hx, hb, hml, hown, hts⟩ (mc_M_numberOf l D A σ_86 ((st_I σ_86 40 h0)) _) ⟨(callB_of 1 hts gw_M_numberOf rfl rfl rfl (hts _ wd_4) (hts _ wd_533) (by decide +kernel) ⟨by decide, by decide⟩), (hts _ wd_534)⟩ ⟨mw_blind, fun U hU hW => ⟨rfl, mw_pass hH hK hA hS hU hW, mn_warm hW hn, h⟩⟩ rfl rfl hl.1 rfl (lv_room (Nat.le_of_ble_eq_true rfl)) d_M_add_97 ⟨by decide, by decide⟩) hS (fun r_97 σ_98 H locs h hH hK hS => ?_)
  exact W.iret (v := r_97) hx hb hr (fun t ht hW => ⟨⟨r_97, σ_98, rfl, h, mw_pass hH hK hA hS ht hW⟩, hS.F ht⟩) hS.2.2 d_M_add_100
def wp_M_order (σ : ST) (h0 : Nat) (p1 : Int32) (p2 : Int64) (p4 : Int64) (p6 : Int32) (p7 : Int32) (K : Int32 → ST → Prop) : Prop :=
  wp_M_isOffice σ p1 (fun (r_1 : Int32) σ_2 =>
  (((r_1 = 0) → K ((-102)) σ_2) ∧
  ((¬ r_1 = 0) → wp_M_in σ_2 p2 1 500000 (fun (r_4 : Int32) σ_5 =>
  (((r_4 = 0) → K ((-102)) σ_5) ∧
  ((¬ r_4 = 0) → (((((lg_cmp p4 0)) < 0) → K ((-102)) σ_5) ∧
  ((¬ ((lg_cmp p4 0)) < 0) → wp_M_in σ_5 ((Int32.toInt64 p6)) 0 3 (fun (r_8 : Int32) σ_9 =>
  (((r_8 = 0) → K ((-102)) σ_9) ∧
  ((¬ r_8 = 0) → (((0 ≤ p7) → st_tg σ_9 h0 = some 1 ∧ ((((¬ ((st_I σ_9 40 h0)) = (300 : Int32)) → ∃ a_14 : Nat, (st_R σ_9 52 h0) = some a_14 ∧ st_tg σ_9 a_14 = some 302 ∧ (vp_in p1 (st_ln σ_9 a_14) ∧ (vp_in p1 (st_ln σ_9 a_14) ∧ (∀ σ_19 : ST, σ_19 = st_uJ σ_9 a_14 (Int32.toNatClampNeg p1) ((((st_eJ σ_9 a_14 (Int32.toNatClampNeg p1))) + p2)) → (∃ a_23 : Nat, (st_R σ_19 71 h0) = some a_23 ∧ st_tg σ_19 a_23 = some 302 ∧ (vp_in 0 (st_ln σ_19 a_23) ∧ (vp_in 0 (st_ln σ_19 a_23) ∧ (∀ σ_28 : ST, σ_28 = st_uJ σ_19 a_23 (Int32.toNatClampNeg 0) ((((st_eJ σ_19 a_23 (Int32.toNatClampNeg 0))) + p2)) → (wp_M_add σ_28 h0 p1 p2 p4 p6 p7 (fun (r_33 : Int32) σ_34 =>
  K r_33 σ_34)))))))))) ∧
  ((((st_I σ_9 40 h0)) = (300 : Int32)) → K ((-104)) σ_9)))) ∧
  ((¬ 0 ≤ p7) → K ((-102)) σ_9)))))))))))))
abbrev ROOM_M_order : Room := { frames := 2, cells := 0, slots := 0, locals := 50 }
set_option maxHeartbeats 4000000 in
set_option maxRecDepth 100000 in
theorem mc_M_order (l : Launch) (D : va_G) (A : Nat → Prop) (σ : ST) (h0 : Nat) (p1 : Int32) (p2 : Int64) (p4 : Int64) (p6 : Int32) (p7 : Int32) (K : Int32 → ST → Prop) : Met l y_M_order ws_M_order ROOM_M_order (va_Pc [.ref h0, .int p1, .long p2, .long p4, .int p6, .int p7] (fun U => mw D A σ U ∧ mn U ∧ wp_M_order σ h0 p1 p2 p4 p6 p7 K)) (va_Qi K (mw D A) A) 0 0 A := by
  refine Met.ofW (cc := c_M_order) (maxL := 8) (ret := (some .int)) (by decide) rfl ?_
  intro p e s m args below meth c s₁ B hml hv
  obtain ⟨rfl, ⟨hH, hK, hA⟩, hn, h⟩ := hv
  have hx := B.exec
  have hb := B.bytes
  have hr := B.returns
  have hts := atoms_spec (ws := ws_M_order) B.pre
  have hown : s.vm.findClass R_M = some m.cls := findClass_of_methodNamed B.named
  have hlocks := B.notSynchronized
  have hts : ∀ w ∈ lw_g, w.before ([.ref h0, .int p1, .long p2, .long p4, .int p6, .int p7] : List Value).toArray s = true := fun w hw => hts w (List.mem_cons_of_mem _ hw)
  have hS : va_S A s.heap s.heap [] := va_S.rf
  have hl := lv_entry ([.ref h0, .int p1, .long p2, .long p4, .int p6, .int p7]) (n := 8) (Nat.le_of_ble_eq_true rfl)
  rw [lg_entry_eq]
  generalize (lg_sl ([.ref h0, .int p1, .long p2, .long p4, .int p6, .int p7]) ++ List.replicate (8 - (lg_sl ([.ref h0, .int p1, .long p2, .long p4, .int p6, .int p7])).length) Slot.unset).toArray = ls at hl ⊢
  have hl : lv_has ls 8 [(0, va_rf (some h0)), (1, .int p1), (2, .long p2), (4, .long p4), (6, .int p6), (7, .int p7)] := hl
  unfold wp_M_order at h
  refine lv_iload_n hx hb d_M_order_0 rfl (lv_at hl 1 rfl) ?_
  refine ms_calli (va_runS (As := [.int p1]) (rest := []) ⟨hx, hb, hml, hown, hts⟩ (mc_M_isOffice l D A σ p1 _) ⟨(callB_of 1 hts gw_M_isOffice rfl rfl rfl (hts _ wd_4) (hts _ wd_520) (by decide +kernel) ⟨by decide, by decide⟩), (hts _ wd_521)⟩ ⟨mw_blind, fun U hU hW => ⟨rfl, mw_pass hH hK hA hS hU hW, mn_warm hW hn, h⟩⟩ rfl rfl hl.1 rfl (lv_room (Nat.le_of_ble_eq_true rfl)) d_M_order_1 ⟨by decide, by decide⟩) hS (fun r_1 σ_2 H locs h hH hK hS => ?_)
  refine lv_if_eq (tgt := 43) hx hb d_M_order_4 (by decide) (fun c_3 => ?_) (fun c_3 => ?_)
  · have h := h.1 c_3
    refine lv_bipush (v := (-102)) hx hb d_M_order_43 (by decide) ?_
    exact W.iret (v := (-102)) hx hb hr (fun t ht hW => ⟨⟨(-102), σ_2, rfl, h, mw_pass hH hK hA hS ht hW⟩, hS.F ht⟩) hS.2.2 d_M_order_45
  · have h := h.2 c_3
    refine lv_lload_n hx hb d_M_order_7 rfl (lv_at hl 2 rfl) ?_
    refine lv_lconst (v := 1) hx hb d_M_order_8 rfl ?_
    refine lv_ldc2 (v := 500000) hx hb hown (hts _ wd_527) d_M_order_9 ?_
    refine ms_calli (va_runS (As := [.long p2, .long 1, .long 500000]) (rest := []) ⟨hx, hb, hml, hown, hts⟩ (mc_M_in l D A σ_2 p2 1 500000 _) ⟨(callB_of 3 hts gw_M_in rfl rfl rfl (hts _ wd_4) (hts _ wd_524) (by decide +kernel) ⟨by decide, by decide⟩), (hts _ wd_525)⟩ ⟨mw_blind, fun U hU hW => ⟨rfl, mw_pass hH hK hA hS hU hW, mn_warm hW hn, h⟩⟩ rfl rfl hl.1 rfl (lv_room (Nat.le_of_ble_eq_true rfl)) d_M_order_12 ⟨by decide, by decide⟩) hS (fun r_4 σ_5 H locs h hH hK hS => ?_)
    refine lv_if_eq (tgt := 43) hx hb d_M_order_15 (by decide) (fun c_6 => ?_) (fun c_6 => ?_)
    · have h := h.1 c_6
      refine lv_bipush (v := (-102)) hx hb d_M_order_43 (by decide) ?_
      exact W.iret (v := (-102)) hx hb hr (fun t ht hW => ⟨⟨(-102), σ_5, rfl, h, mw_pass hH hK hA hS ht hW⟩, hS.F ht⟩) hS.2.2 d_M_order_45
    · have h := h.2 c_6
      refine lv_lload hx hb d_M_order_18 (lv_at hl 3 rfl) ?_
      refine lv_lconst (v := 0) hx hb d_M_order_20 rfl ?_
      refine W.lcmp hx hb d_M_order_21 ?_
      refine lv_if_lt (tgt := 43) hx hb d_M_order_22 (by decide) (fun c_7 => ?_) (fun c_7 => ?_)
      · have h := h.1 c_7
        refine lv_bipush (v := (-102)) hx hb d_M_order_43 (by decide) ?_
        exact W.iret (v := (-102)) hx hb hr (fun t ht hW => ⟨⟨(-102), σ_5, rfl, h, mw_pass hH hK hA hS ht hW⟩, hS.F ht⟩) hS.2.2 d_M_order_45
      · have h := h.2 c_7
        refine lv_iload hx hb d_M_order_25 (lv_at hl 4 rfl) ?_
        refine lv_i2l hx hb d_M_order_27 rfl ?_
        refine lv_lconst (v := 0) hx hb d_M_order_28 rfl ?_
        refine lv_ldc2 (v := 3) hx hb hown (hts _ wd_528) d_M_order_29 ?_
        refine ms_calli (va_runS (As := [.long (Int32.toInt64 p6), .long 0, .long 3]) (rest := []) ⟨hx, hb, hml, hown, hts⟩ (mc_M_in l D A σ_5 ((Int32.toInt64 p6)) 0 3 _) ⟨(callB_of 3 hts gw_M_in rfl rfl rfl (hts _ wd_4) (hts _ wd_524) (by decide +kernel) ⟨by decide, by decide⟩), (hts _ wd_525)⟩ ⟨mw_blind, fun U hU hW => ⟨rfl, mw_pass hH hK hA hS hU hW, mn_warm hW hn, h⟩⟩ rfl rfl hl.1 rfl (lv_room (Nat.le_of_ble_eq_true rfl)) d_M_order_32 ⟨by decide, by decide⟩) hS (fun r_8 σ_9 H locs h hH hK hS => ?_)
        refine lv_if_eq (tgt := 43) hx hb d_M_order_35 (by decide) (fun c_10 => ?_) (fun c_10 => ?_)
        · have h := h.1 c_10
          refine lv_bipush (v := (-102)) hx hb d_M_order_43 (by decide) ?_
          exact W.iret (v := (-102)) hx hb hr (fun t ht hW => ⟨⟨(-102), σ_9, rfl, h, mw_pass hH hK hA hS ht hW⟩, hS.F ht⟩) hS.2.2 d_M_order_45
        · have h := h.2 c_10
          refine lv_iload hx hb d_M_order_38 (lv_at hl 5 rfl) ?_
          refine lv_if_ge (tgt := 46) hx hb d_M_order_40 (by decide) (fun c_11 => ?_) (fun c_11 => ?_)
          · have h := h.1 c_11
            refine mr_aload_n hx hb d_M_order_46 rfl (lv_at hl 0 rfl) ?_
            obtain ⟨t_12, h⟩ := h
            refine ms_get (σ := σ_9) (r := some h0) (a := h0) (fs := fl_1 σ_9 h0) (ci := 1) (C := R_M) (T := T_M) (N := 32) hx hb hts in_1 hown hK hH rfl (cell_1 t_12) rfl 0 (by decide) (hts _ wd_417) (fun _ h9 => h9) (v := .int (st_I σ_9 40 h0)) rfl d_M_order_47 ?_
            refine lv_sipush (v := 300) hx hb d_M_order_50 (by decide) ?_
            refine lv_icmp_ne (tgt := 59) hx hb d_M_order_53 (by decide) (fun c_13 => ?_) (fun c_13 => ?_)
            · have h := h.1 c_13
              refine mr_aload_n hx hb d_M_order_59 rfl (lv_at hl 0 rfl) ?_
              refine ms_get (σ := σ_9) (r := some h0) (a := h0) (fs := fl_1 σ_9 h0) (ci := 1) (C := R_M) (T := T_M) (N := 32) hx hb hts in_1 hown hK hH rfl (cell_1 t_12) rfl 12 (by decide) (hts _ wd_429) (fun _ h9 => h9) (v := va_rf (st_R σ_9 52 h0)) rfl d_M_order_60 ?_
              refine lv_iload_n hx hb d_M_order_63 rfl (lv_at hl 1 rfl) ?_
              refine lv_dup2_11 hx hb d_M_order_64 rfl (cat_rf _) ?_
              obtain ⟨a_14, e_15, t_16, h⟩ := h
              obtain ⟨b_17, h⟩ := h
              refine ms_lald (σ := σ_9) (r := (st_R σ_9 52 h0)) (a := a_14) hx hb hK hH e_15 t_16 rfl (cell_302 t_16) b_17 d_M_order_65 ?_
              refine lv_lload_n hx hb d_M_order_66 rfl (lv_at hl 2 rfl) ?_
              refine lv_ladd hx hb d_M_order_67 ?_
              obtain ⟨b_18, h⟩ := h
              obtain ⟨σ_19, z_20⟩ : ∃ y : ST, y = st_uJ σ_9 a_14 (Int32.toNatClampNeg p1) ((((st_eJ σ_9 a_14 (Int32.toNatClampNeg p1))) + p2)) := ⟨_, rfl⟩
              have h := h σ_19 z_20
              refine ms_last (σ := σ_9) (r := (st_R σ_9 52 h0)) (a := a_14) (x := (((st_eJ σ_9 a_14 (Int32.toNatClampNeg p1))) + p2)) hx hb hK hH hS e_15 t_16 rfl (cell_302 t_16)  b_18 d_M_order_68 (σ1 := σ_19) (by rw [z_20]; exact uput_302 σ_9 a_14 _ ((((st_eJ σ_9 a_14 (Int32.toNatClampNeg p1))) + p2)) t_16) (by rw [z_20]; rfl) (by rw [z_20]; rfl) (fun H locs hH hK hS => ?_)
              have t_21 : st_tg σ_19 h0 = some 1 := by rw [z_20]; exact t_12
              have t_22 : st_tg σ_19 a_14 = some 302 := by rw [z_20]; exact t_16
              refine mr_aload_n hx hb d_M_order_69 rfl (lv_at hl 0 rfl) ?_
              refine ms_get (σ := σ_19) (r := some h0) (a := h0) (fs := fl_1 σ_19 h0) (ci := 1) (C := R_M) (T := T_M) (N := 32) hx hb hts in_1 hown hK hH rfl (cell_1 t_21) rfl 31 (by decide) (hts _ wd_448) (fun _ h9 => h9) (v := va_rf (st_R σ_19 71 h0)) rfl d_M_order_70 ?_
              refine lv_iconst (v := 0) hx hb d_M_order_73 (by decide) ?_
              refine lv_dup2_11 hx hb d_M_order_74 rfl (cat_rf _) ?_
              obtain ⟨a_23, e_24, t_25, h⟩ := h
              obtain ⟨b_26, h⟩ := h
              refine ms_lald (σ := σ_19) (r := (st_R σ_19 71 h0)) (a := a_23) hx hb hK hH e_24 t_25 rfl (cell_302 t_25) b_26 d_M_order_75 ?_
              refine lv_lload_n hx hb d_M_order_76 rfl (lv_at hl 2 rfl) ?_
              refine lv_ladd hx hb d_M_order_77 ?_
              obtain ⟨b_27, h⟩ := h
              obtain ⟨σ_28, z_29⟩ : ∃ y : ST, y = st_uJ σ_19 a_23 (Int32.toNatClampNeg 0) ((((st_eJ σ_19 a_23 (Int32.toNatClampNeg 0))) + p2)) := ⟨_, rfl⟩
              have h := h σ_28 z_29
              refine ms_last (σ := σ_19) (r := (st_R σ_19 71 h0)) (a := a_23) (x := (((st_eJ σ_19 a_23 (Int32.toNatClampNeg 0))) + p2)) hx hb hK hH hS e_24 t_25 rfl (cell_302 t_25)  b_27 d_M_order_78 (σ1 := σ_28) (by rw [z_29]; exact uput_302 σ_19 a_23 _ ((((st_eJ σ_19 a_23 (Int32.toNatClampNeg 0))) + p2)) t_25) (by rw [z_29]; rfl) (by rw [z_29]; rfl) (fun H locs hH hK hS => ?_)
              have t_30 : st_tg σ_28 h0 = some 1 := by rw [z_29]; exact t_21
              have t_31 : st_tg σ_28 a_14 = some 302 := by rw [z_29]; exact t_22
              have t_32 : st_tg σ_28 a_23 = some 302 := by rw [z_29]; exact t_25
              refine mr_aload_n hx hb d_M_order_79 rfl (lv_at hl 0 rfl) ?_
              refine lv_iload_n hx hb d_M_order_80 rfl (lv_at hl 1 rfl) ?_
              refine lv_lload_n hx hb d_M_order_81 rfl (lv_at hl 2 rfl) ?_
              refine lv_lload hx hb d_M_order_82 (lv_at hl 3 rfl) ?_
              refine lv_iload hx hb d_M_order_84 (lv_at hl 4 rfl) ?_
              refine lv_iload hx hb d_M_order_86 (lv_at hl 5 rfl) ?_
              refine ms_calli (va_runV (As := [.int p1, .long p2, .long p4, .int p6, .int p7]) (rest := []) ⟨hx, hb, hml, hown, hts⟩ (mc_M_add l D A σ_28 h0 p1 p2 p4 p6 p7 _) ⟨(callB_of 5 hts gw_M_add rfl rfl rfl (hts _ wd_4) (hts _ wd_529) (by decide +kernel) ⟨by decide, by decide⟩), (hts _ wd_531), (hts _ wq_12)⟩ ⟨mw_blind, mg_recv hK.1 hH (ci := 1) rfl (cell_1 t_30), fun U hU hW => ⟨rfl, mw_pass hH hK hA hS hU hW, mn_warm hW hn, h⟩⟩ rfl rfl hl.1 rfl (lv_room (Nat.le_of_ble_eq_true rfl)) d_M_order_88 ⟨by decide, by decide⟩) hS (fun r_33 σ_34 H locs h hH hK hS => ?_)
              exact W.iret (v := r_33) hx hb hr (fun t ht hW => ⟨⟨r_33, σ_34, rfl, h, mw_pass hH hK hA hS ht hW⟩, hS.F ht⟩) hS.2.2 d_M_order_91
            · have h := h.2 c_13
              refine lv_bipush (v := (-104)) hx hb d_M_order_56 (by decide) ?_
              exact W.iret (v := (-104)) hx hb hr (fun t ht hW => ⟨⟨(-104), σ_9, rfl, h, mw_pass hH hK hA hS ht hW⟩, hS.F ht⟩) hS.2.2 d_M_order_58
          · have h := h.2 c_11
            refine lv_bipush (v := (-102)) hx hb d_M_order_43 (by decide) ?_
            exact W.iret (v := (-102)) hx hb hr (fun t ht hW => ⟨⟨(-102), σ_9, rfl, h, mw_pass hH hK hA hS ht hW⟩, hS.F ht⟩) hS.2.2 d_M_order_45
def wp_M_sumOf (σ : ST) (h0 : Nat) (p1 : Int32) (K : Int64 → ST → Prop) : Prop :=
  st_tg σ h0 = some 1 ∧ (∃ a_2 : Nat, (st_R σ 42 h0) = some a_2 ∧ st_tg σ a_2 = some 302 ∧ (vp_in p1 (st_ln σ a_2) ∧ (∃ a_6 : Nat, (st_R σ 44 h0) = some a_6 ∧ st_tg σ a_6 = some 301 ∧ (vp_in p1 (st_ln σ a_6) ∧ (∃ a_10 : Nat, (st_R σ 51 h0) = some a_10 ∧ st_tg σ a_10 = some 302 ∧ (vp_in ((st_eI σ a_6 (Int32.toNatClampNeg p1))) (st_ln σ a_10) ∧ (K ((((((st_eJ σ a_2 (Int32.toNatClampNeg p1))) * ((st_eJ σ a_10 (Int32.toNatClampNeg ((st_eI σ a_6 (Int32.toNatClampNeg p1)))))))) / 1000)) σ)))))))
abbrev ROOM_M_sumOf : Room := { frames := 0, cells := 0, slots := 0, locals := 0 }
set_option maxHeartbeats 4000000 in
set_option maxRecDepth 100000 in
theorem mc_M_sumOf (l : Launch) (D : va_G) (A : Nat → Prop) (σ : ST) (h0 : Nat) (p1 : Int32) (K : Int64 → ST → Prop) : Met l y_M_sumOf ws_M_sumOf ROOM_M_sumOf (va_Pc [.ref h0, .int p1] (fun U => mw D A σ U ∧ mn U ∧ wp_M_sumOf σ h0 p1 K)) (va_Ql K (mw D A) A) 0 0 A := by
  refine Met.ofW (cc := c_M_sumOf) (maxL := 2) (ret := (some .long)) (by decide) rfl ?_
  intro p e s m args below meth c s₁ B hml hv
  obtain ⟨rfl, ⟨hH, hK, hA⟩, hn, h⟩ := hv
  have hx := B.exec
  have hb := B.bytes
  have hr := B.returns
  have hts := atoms_spec (ws := ws_M_sumOf) B.pre
  have hown : s.vm.findClass R_M = some m.cls := findClass_of_methodNamed B.named
  have hlocks := B.notSynchronized
  have hts : ∀ w ∈ lw_g, w.before ([.ref h0, .int p1] : List Value).toArray s = true := fun w hw => hts w (List.mem_cons_of_mem _ hw)
  have hS : va_S A s.heap s.heap [] := va_S.rf
  have hl := lv_entry ([.ref h0, .int p1]) (n := 2) (Nat.le_of_ble_eq_true rfl)
  rw [lg_entry_eq]
  generalize (lg_sl ([.ref h0, .int p1]) ++ List.replicate (2 - (lg_sl ([.ref h0, .int p1])).length) Slot.unset).toArray = ls at hl ⊢
  have hl : lv_has ls 2 [(0, va_rf (some h0)), (1, .int p1)] := hl
  unfold wp_M_sumOf at h
  refine mr_aload_n hx hb d_M_sumOf_0 rfl (lv_at hl 0 rfl) ?_
  obtain ⟨t_1, h⟩ := h
  refine ms_get (σ := σ) (r := some h0) (a := h0) (fs := fl_1 σ h0) (ci := 1) (C := R_M) (T := T_M) (N := 32) hx hb hts in_1 hown hK hH rfl (cell_1 t_1) rfl 2 (by decide) (hts _ wd_419) (fun _ h9 => h9) (v := va_rf (st_R σ 42 h0)) rfl d_M_sumOf_1 ?_
  refine lv_iload_n hx hb d_M_sumOf_4 rfl (lv_at hl 1 rfl) ?_
  obtain ⟨a_2, e_3, t_4, h⟩ := h
  obtain ⟨b_5, h⟩ := h
  refine ms_lald (σ := σ) (r := (st_R σ 42 h0)) (a := a_2) hx hb hK hH e_3 t_4 rfl (cell_302 t_4) b_5 d_M_sumOf_5 ?_
  refine mr_aload_n hx hb d_M_sumOf_6 rfl (lv_at hl 0 rfl) ?_
  refine ms_get (σ := σ) (r := some h0) (a := h0) (fs := fl_1 σ h0) (ci := 1) (C := R_M) (T := T_M) (N := 32) hx hb hts in_1 hown hK hH rfl (cell_1 t_1) rfl 11 (by decide) (hts _ wd_428) (fun _ h9 => h9) (v := va_rf (st_R σ 51 h0)) rfl d_M_sumOf_7 ?_
  refine mr_aload_n hx hb d_M_sumOf_10 rfl (lv_at hl 0 rfl) ?_
  refine ms_get (σ := σ) (r := some h0) (a := h0) (fs := fl_1 σ h0) (ci := 1) (C := R_M) (T := T_M) (N := 32) hx hb hts in_1 hown hK hH rfl (cell_1 t_1) rfl 4 (by decide) (hts _ wd_421) (fun _ h9 => h9) (v := va_rf (st_R σ 44 h0)) rfl d_M_sumOf_11 ?_
  refine lv_iload_n hx hb d_M_sumOf_14 rfl (lv_at hl 1 rfl) ?_
  obtain ⟨a_6, e_7, t_8, h⟩ := h
  obtain ⟨b_9, h⟩ := h
  refine ms_iald (σ := σ) (r := (st_R σ 44 h0)) (a := a_6) hx hb hK hH e_7 t_8 rfl (cell_301 t_8) b_9 d_M_sumOf_15 ?_
  obtain ⟨a_10, e_11, t_12, h⟩ := h
  obtain ⟨b_13, h⟩ := h
  refine ms_lald (σ := σ) (r := (st_R σ 51 h0)) (a := a_10) hx hb hK hH e_11 t_12 rfl (cell_302 t_12) b_13 d_M_sumOf_16 ?_
  refine lv_lmul hx hb d_M_sumOf_17 ?_
  refine lv_ldc2 (v := 1000) hx hb hown (hts _ wd_415) d_M_sumOf_18 ?_
  refine lv_ldiv hx hb d_M_sumOf_21 (by decide) ?_
  exact W.lret (v := (((((st_eJ σ a_2 (Int32.toNatClampNeg p1))) * ((st_eJ σ a_10 (Int32.toNatClampNeg ((st_eI σ a_6 (Int32.toNatClampNeg p1)))))))) / 1000)) hx hb hr (fun t ht hW => ⟨⟨(((((st_eJ σ a_2 (Int32.toNatClampNeg p1))) * ((st_eJ σ a_10 (Int32.toNatClampNeg ((st_eI σ a_6 (Int32.toNatClampNeg p1)))))))) / 1000), σ, rfl, h, mw_pass hH hK hA hS ht hW⟩, hS.F ht⟩) hS.2.2 d_M_sumOf_22
def wb_M_failsNow_38 (h0 : Nat) (K : Int32 → ST → Prop) (σ : ST) (v3 : Int32) (s0 : Int32) (s1 : Int32) (s2 : Int32) (s3 : Option Nat) : Prop :=
  ∃ a_13 : Nat, s3 = some a_13 ∧ st_tg σ a_13 = some 301 ∧ (vp_in s2 (st_ln σ a_13) ∧ (∀ σ_17 : ST, σ_17 = st_uI σ a_13 (Int32.toNatClampNeg s2) ((s1 - s0)) → (st_tg σ_17 h0 = some 1 ∧ (∃ a_21 : Nat, (st_R σ_17 71 h0) = some a_21 ∧ st_tg σ_17 a_21 = some 302 ∧ (vp_in 6 (st_ln σ_17 a_21) ∧ ((((v3 = 0) → vp_in 6 (st_ln σ_17 a_21) ∧ (∀ σ_27 : ST, σ_27 = st_uJ σ_17 a_21 (Int32.toNatClampNeg 6) ((((st_eJ σ_17 a_21 (Int32.toNatClampNeg 6))) + 0)) → (((v3 = 0 ∨ v3 = 1) ∧ K v3 σ_27)))) ∧
  ((¬ v3 = 0) → vp_in 6 (st_ln σ_17 a_21) ∧ (∀ σ_34 : ST, σ_34 = st_uJ σ_17 a_21 (Int32.toNatClampNeg 6) ((((st_eJ σ_17 a_21 (Int32.toNatClampNeg 6))) + 1)) → (((v3 = 0 ∨ v3 = 1) ∧ K v3 σ_34)))))))))))
def wb_M_failsNow_19 (h0 : Nat) (K : Int32 → ST → Prop) (σ : ST) (v1 : Int32) (v2 : Int32) (s0 : Int32) : Prop :=
  st_tg σ h0 = some 1 ∧ (∃ a_8 : Nat, (st_R σ 55 h0) = some a_8 ∧ st_tg σ a_8 = some 301 ∧ (vp_in v1 (st_ln σ a_8) ∧ ((((s0 = 0) → wb_M_failsNow_38 h0 K σ s0 0 ((st_eI σ a_8 (Int32.toNatClampNeg v1))) v1 ((st_R σ 55 h0))) ∧
  ((¬ s0 = 0) → wb_M_failsNow_38 h0 K σ s0 ((1 <<< (v2 &&& 31))) ((st_eI σ a_8 (Int32.toNatClampNeg v1))) v1 ((st_R σ 55 h0)))))))
def wp_M_failsNow (σ : ST) (h0 : Nat) (p1 : Int32) (p2 : Int32) (K : Int32 → ST → Prop) : Prop :=
  st_tg σ h0 = some 1 ∧ (∃ a_2 : Nat, (st_R σ 55 h0) = some a_2 ∧ st_tg σ a_2 = some 301 ∧ (vp_in p1 (st_ln σ a_2) ∧ ((((¬ ((((((st_eI σ a_2 (Int32.toNatClampNeg p1))) >>> (p2 &&& 31))) &&& 1)) = (1 : Int32)) → wb_M_failsNow_19 h0 K σ p1 p2 0) ∧
  ((((((((st_eI σ a_2 (Int32.toNatClampNeg p1))) >>> (p2 &&& 31))) &&& 1)) = (1 : Int32)) → wb_M_failsNow_19 h0 K σ p1 p2 1)))))
abbrev ROOM_M_failsNow : Room := { frames := 0, cells := 0, slots := 0, locals := 0 }
set_option maxHeartbeats 4000000 in
set_option maxRecDepth 100000 in
theorem mc_M_failsNow (l : Launch) (D : va_G) (A : Nat → Prop) (σ : ST) (h0 : Nat) (p1 : Int32) (p2 : Int32) (K : Int32 → ST → Prop) : Met l y_M_failsNow ws_M_failsNow ROOM_M_failsNow (va_Pc [.ref h0, .int p1, .int p2] (fun U => mw D A σ U ∧ mn U ∧ wp_M_failsNow σ h0 p1 p2 K)) (va_Qi K (mw D A) A) 0 0 A := by
  refine Met.ofW (cc := c_M_failsNow) (maxL := 4) (ret := (some .boolean)) (by decide) rfl ?_
  intro p e s m args below meth c s₁ B hml hv
  obtain ⟨rfl, ⟨hH, hK, hA⟩, hn, h⟩ := hv
  have hx := B.exec
  have hb := B.bytes
  have hr := B.returns
  have hts := atoms_spec (ws := ws_M_failsNow) B.pre
  have hown : s.vm.findClass R_M = some m.cls := findClass_of_methodNamed B.named
  have hlocks := B.notSynchronized
  have hts : ∀ w ∈ lw_g, w.before ([.ref h0, .int p1, .int p2] : List Value).toArray s = true := fun w hw => hts w (List.mem_cons_of_mem _ hw)
  have b_38 : ∀ (σ : ST) (v3 : Int32) (s0 : Int32) (s1 : Int32) (s2 : Int32) (s3 : Option Nat) (H : Heap) (locs : List Loc) (ls : Array Slot), mg_H D vwCl A (st_cell σ) H → mk_K D σ s → va_S A s.heap H locs → lv_has ls 4 [(0, va_rf (some h0)), (3, .int v3)] → wb_M_failsNow_38 h0 K σ v3 s0 s1 s2 s3 → W p l e (headSpec ws_M_failsNow ROOM_M_failsNow).room s m ([.ref h0, .int p1, .int p2] : List Value).toArray below meth c H locs 0 0 (MQ below (va_Qi K (mw D A) A) ([.ref h0, .int p1, .int p2] : List Value).toArray s 0 0 A) (F0 m 38 ls [.int s0, .int s1, .int s2, va_rf s3]) := by
    intro σ v3 s0 s1 s2 s3 H locs ls hH hK hS hl h
    unfold wb_M_failsNow_38 at h
    refine lv_isub hx hb d_M_failsNow_38 ?_
    obtain ⟨a_13, e_14, t_15, h⟩ := h
    obtain ⟨b_16, h⟩ := h
    obtain ⟨σ_17, z_18⟩ : ∃ y : ST, y = st_uI σ a_13 (Int32.toNatClampNeg s2) ((s1 - s0)) := ⟨_, rfl⟩
    have h := h σ_17 z_18
    refine ms_iast (σ := σ) (r := s3) (a := a_13) (x := (s1 - s0)) hx hb hK hH hS e_14 t_15 rfl (cell_301 t_15)  b_16 d_M_failsNow_39 (σ1 := σ_17) (by rw [z_18]; exact uput_301 σ a_13 _ ((s1 - s0)) t_15) (by rw [z_18]; rfl) (by rw [z_18]; rfl) (fun H locs hH hK hS => ?_)
    have t_19 : st_tg σ_17 a_13 = some 301 := by rw [z_18]; exact t_15
    refine mr_aload_n hx hb d_M_failsNow_40 rfl (lv_at hl 0 rfl) ?_
    obtain ⟨t_20, h⟩ := h
    refine ms_get (σ := σ_17) (r := some h0) (a := h0) (fs := fl_1 σ_17 h0) (ci := 1) (C := R_M) (T := T_M) (N := 32) hx hb hts in_1 hown hK hH rfl (cell_1 t_20) rfl 31 (by decide) (hts _ wd_448) (fun _ h9 => h9) (v := va_rf (st_R σ_17 71 h0)) rfl d_M_failsNow_41 ?_
    refine lv_bipush (v := 6) hx hb d_M_failsNow_44 (by decide) ?_
    refine lv_dup2_11 hx hb d_M_failsNow_46 rfl (cat_rf _) ?_
    obtain ⟨a_21, e_22, t_23, h⟩ := h
    obtain ⟨b_24, h⟩ := h
    refine ms_lald (σ := σ_17) (r := (st_R σ_17 71 h0)) (a := a_21) hx hb hK hH e_22 t_23 rfl (cell_302 t_23) b_24 d_M_failsNow_47 ?_
    refine lv_iload_n hx hb d_M_failsNow_48 rfl (lv_at hl 1 rfl) ?_
    refine lv_if_eq (tgt := 56) hx hb d_M_failsNow_49 (by decide) (fun c_25 => ?_) (fun c_25 => ?_)
    · have h := h.1 c_25
      refine lv_lconst (v := 0) hx hb d_M_failsNow_56 rfl ?_
      refine lv_ladd hx hb d_M_failsNow_57 ?_
      obtain ⟨b_26, h⟩ := h
      obtain ⟨σ_27, z_28⟩ : ∃ y : ST, y = st_uJ σ_17 a_21 (Int32.toNatClampNeg 6) ((((st_eJ σ_17 a_21 (Int32.toNatClampNeg 6))) + 0)) := ⟨_, rfl⟩
      have h := h σ_27 z_28
      refine ms_last (σ := σ_17) (r := (st_R σ_17 71 h0)) (a := a_21) (x := (((st_eJ σ_17 a_21 (Int32.toNatClampNeg 6))) + 0)) hx hb hK hH hS e_22 t_23 rfl (cell_302 t_23)  b_26 d_M_failsNow_58 (σ1 := σ_27) (by rw [z_28]; exact uput_302 σ_17 a_21 _ ((((st_eJ σ_17 a_21 (Int32.toNatClampNeg 6))) + 0)) t_23) (by rw [z_28]; rfl) (by rw [z_28]; rfl) (fun H locs hH hK hS => ?_)
      have t_29 : st_tg σ_27 a_13 = some 301 := by rw [z_28]; exact t_19
      have t_30 : st_tg σ_27 h0 = some 1 := by rw [z_28]; exact t_20
      have t_31 : st_tg σ_27 a_21 = some 302 := by rw [z_28]; exact t_23
      refine lv_iload_n hx hb d_M_failsNow_59 rfl (lv_at hl 1 rfl) ?_
      obtain ⟨n_32, h⟩ := h
      exact W.zret (v := v3) hx hb hr (narb n_32) (fun t ht hW => ⟨⟨v3, σ_27, rfl, h, mw_pass hH hK hA hS ht hW⟩, hS.F ht⟩) hS.2.2 d_M_failsNow_60
    · have h := h.2 c_25
      refine lv_lconst (v := 1) hx hb d_M_failsNow_52 rfl ?_
      refine lv_goto (tgt := 57) hx hb d_M_failsNow_53 (by decide) ?_
      refine lv_ladd hx hb d_M_failsNow_57 ?_
      obtain ⟨b_33, h⟩ := h
      obtain ⟨σ_34, z_35⟩ : ∃ y : ST, y = st_uJ σ_17 a_21 (Int32.toNatClampNeg 6) ((((st_eJ σ_17 a_21 (Int32.toNatClampNeg 6))) + 1)) := ⟨_, rfl⟩
      have h := h σ_34 z_35
      refine ms_last (σ := σ_17) (r := (st_R σ_17 71 h0)) (a := a_21) (x := (((st_eJ σ_17 a_21 (Int32.toNatClampNeg 6))) + 1)) hx hb hK hH hS e_22 t_23 rfl (cell_302 t_23)  b_33 d_M_failsNow_58 (σ1 := σ_34) (by rw [z_35]; exact uput_302 σ_17 a_21 _ ((((st_eJ σ_17 a_21 (Int32.toNatClampNeg 6))) + 1)) t_23) (by rw [z_35]; rfl) (by rw [z_35]; rfl) (fun H locs hH hK hS => ?_)
      have t_36 : st_tg σ_34 a_13 = some 301 := by rw [z_35]; exact t_19
      have t_37 : st_tg σ_34 h0 = some 1 := by rw [z_35]; exact t_20
      have t_38 : st_tg σ_34 a_21 = some 302 := by rw [z_35]; exact t_23
      refine lv_iload_n hx hb d_M_failsNow_59 rfl (lv_at hl 1 rfl) ?_
      obtain ⟨n_39, h⟩ := h
      exact W.zret (v := v3) hx hb hr (narb n_39) (fun t ht hW => ⟨⟨v3, σ_34, rfl, h, mw_pass hH hK hA hS ht hW⟩, hS.F ht⟩) hS.2.2 d_M_failsNow_60
  have b_19 : ∀ (σ : ST) (v1 : Int32) (v2 : Int32) (s0 : Int32) (H : Heap) (locs : List Loc) (ls : Array Slot), mg_H D vwCl A (st_cell σ) H → mk_K D σ s → va_S A s.heap H locs → lv_has ls 4 [(0, va_rf (some h0)), (1, .int v1), (2, .int v2)] → wb_M_failsNow_19 h0 K σ v1 v2 s0 → W p l e (headSpec ws_M_failsNow ROOM_M_failsNow).room s m ([.ref h0, .int p1, .int p2] : List Value).toArray below meth c H locs 0 0 (MQ below (va_Qi K (mw D A) A) ([.ref h0, .int p1, .int p2] : List Value).toArray s 0 0 A) (F0 m 19 ls [.int s0]) := by
    intro σ v1 v2 s0 H locs ls hH hK hS hl h
    unfold wb_M_failsNow_19 at h
    refine lv_istore_n (lv' := [(3, .int s0), (0, va_rf (some h0)), (1, .int v1), (2, .int v2)]) hx hb d_M_failsNow_19 rfl hl (by decide) rfl (fun ls hl => ?_)
    refine mr_aload_n hx hb d_M_failsNow_20 rfl (lv_at hl 1 rfl) ?_
    obtain ⟨t_7, h⟩ := h
    refine ms_get (σ := σ) (r := some h0) (a := h0) (fs := fl_1 σ h0) (ci := 1) (C := R_M) (T := T_M) (N := 32) hx hb hts in_1 hown hK hH rfl (cell_1 t_7) rfl 15 (by decide) (hts _ wd_432) (fun _ h9 => h9) (v := va_rf (st_R σ 55 h0)) rfl d_M_failsNow_21 ?_
    refine lv_iload_n hx hb d_M_failsNow_24 rfl (lv_at hl 2 rfl) ?_
    refine lv_dup2_11 hx hb d_M_failsNow_25 rfl (cat_rf _) ?_
    obtain ⟨a_8, e_9, t_10, h⟩ := h
    obtain ⟨b_11, h⟩ := h
    refine ms_iald (σ := σ) (r := (st_R σ 55 h0)) (a := a_8) hx hb hK hH e_9 t_10 rfl (cell_301 t_10) b_11 d_M_failsNow_26 ?_
    refine lv_iload_n hx hb d_M_failsNow_27 rfl (lv_at hl 0 rfl) ?_
    refine lv_if_eq (tgt := 37) hx hb d_M_failsNow_28 (by decide) (fun c_12 => ?_) (fun c_12 => ?_)
    · have h := h.1 c_12
      refine lv_iconst (v := 0) hx hb d_M_failsNow_37 (by decide) ?_
      exact b_38 _ _ _ _ _ _ _ _ _ hH hK hS (lv_sub hl [1, 0] rfl) h
    · have h := h.2 c_12
      refine lv_iconst (v := 1) hx hb d_M_failsNow_31 (by decide) ?_
      refine lv_iload_n hx hb d_M_failsNow_32 rfl (lv_at hl 3 rfl) ?_
      refine lv_ishl hx hb d_M_failsNow_33 ?_
      refine lv_goto (tgt := 38) hx hb d_M_failsNow_34 (by decide) ?_
      exact b_38 _ _ _ _ _ _ _ _ _ hH hK hS (lv_sub hl [1, 0] rfl) h
  have hS : va_S A s.heap s.heap [] := va_S.rf
  have hl := lv_entry ([.ref h0, .int p1, .int p2]) (n := 4) (Nat.le_of_ble_eq_true rfl)
  rw [lg_entry_eq]
  generalize (lg_sl ([.ref h0, .int p1, .int p2]) ++ List.replicate (4 - (lg_sl ([.ref h0, .int p1, .int p2])).length) Slot.unset).toArray = ls at hl ⊢
  have hl : lv_has ls 4 [(0, va_rf (some h0)), (1, .int p1), (2, .int p2)] := hl
  unfold wp_M_failsNow at h
  refine mr_aload_n hx hb d_M_failsNow_0 rfl (lv_at hl 0 rfl) ?_
  obtain ⟨t_1, h⟩ := h
  refine ms_get (σ := σ) (r := some h0) (a := h0) (fs := fl_1 σ h0) (ci := 1) (C := R_M) (T := T_M) (N := 32) hx hb hts in_1 hown hK hH rfl (cell_1 t_1) rfl 15 (by decide) (hts _ wd_432) (fun _ h9 => h9) (v := va_rf (st_R σ 55 h0)) rfl d_M_failsNow_1 ?_
  refine lv_iload_n hx hb d_M_failsNow_4 rfl (lv_at hl 1 rfl) ?_
  obtain ⟨a_2, e_3, t_4, h⟩ := h
  obtain ⟨b_5, h⟩ := h
  refine ms_iald (σ := σ) (r := (st_R σ 55 h0)) (a := a_2) hx hb hK hH e_3 t_4 rfl (cell_301 t_4) b_5 d_M_failsNow_5 ?_
  refine lv_iload_n hx hb d_M_failsNow_6 rfl (lv_at hl 2 rfl) ?_
  refine lv_ishr hx hb d_M_failsNow_7 ?_
  refine lv_iconst (v := 1) hx hb d_M_failsNow_8 (by decide) ?_
  refine lv_iand hx hb d_M_failsNow_9 ?_
  refine lv_iconst (v := 1) hx hb d_M_failsNow_10 (by decide) ?_
  refine lv_icmp_ne (tgt := 18) hx hb d_M_failsNow_11 (by decide) (fun c_6 => ?_) (fun c_6 => ?_)
  · have h := h.1 c_6
    refine lv_iconst (v := 0) hx hb d_M_failsNow_18 (by decide) ?_
    exact b_19 _ _ _ _ _ _ _ hH hK hS (lv_sub hl [0, 1, 2] rfl) h
  · have h := h.2 c_6
    refine lv_iconst (v := 1) hx hb d_M_failsNow_14 (by decide) ?_
    refine lv_goto (tgt := 19) hx hb d_M_failsNow_15 (by decide) ?_
    exact b_19 _ _ _ _ _ _ _ hH hK hS (lv_sub hl [0, 1, 2] rfl) h
