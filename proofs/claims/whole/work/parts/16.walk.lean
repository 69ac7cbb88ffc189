def wp_M_init (σ : ST) (h0 : Nat) (K : ST → Prop) : Prop :=
  ∀ (q_1 : Nat) (C_2 : ClassId), st_tg σ q_1 = none → ∀ σ_3 : ST, σ_3 = st_arr σ q_1 301 C_2 301 → (st_tg σ_3 h0 = some 1 ∧ (∀ σ_8 : ST, σ_8 = st_sR σ_3 41 h0 (some q_1) → (∀ (q_12 : Nat) (C_13 : ClassId), st_tg σ_8 q_12 = none → ∀ σ_14 : ST, σ_14 = st_arr σ_8 q_12 302 C_13 301 → (∀ σ_20 : ST, σ_20 = st_sR σ_14 42 h0 (some q_12) → (∀ (q_25 : Nat) (C_26 : ClassId), st_tg σ_20 q_25 = none → ∀ σ_27 : ST, σ_27 = st_arr σ_20 q_25 302 C_26 301 → (∀ σ_34 : ST, σ_34 = st_sR σ_27 43 h0 (some q_25) → (∀ (q_40 : Nat) (C_41 : ClassId), st_tg σ_34 q_40 = none → ∀ σ_42 : ST, σ_42 = st_arr σ_34 q_40 301 C_41 301 → (∀ σ_50 : ST, σ_50 = st_sR σ_42 44 h0 (some q_40) → (∀ (q_57 : Nat) (C_58 : ClassId), st_tg σ_50 q_57 = none → ∀ σ_59 : ST, σ_59 = st_arr σ_50 q_57 301 C_58 301 → (∀ σ_68 : ST, σ_68 = st_sR σ_59 45 h0 (some q_57) → (∀ (q_76 : Nat) (C_77 : ClassId), st_tg σ_68 q_76 = none → ∀ σ_78 : ST, σ_78 = st_arr σ_68 q_76 301 C_77 301 → (∀ σ_88 : ST, σ_88 = st_sR σ_78 46 h0 (some q_76) → (∀ (q_97 : Nat) (C_98 : ClassId), st_tg σ_88 q_97 = none → ∀ σ_99 : ST, σ_99 = st_arr σ_88 q_97 301 C_98 301 → (∀ σ_110 : ST, σ_110 = st_sR σ_99 47 h0 (some q_97) → (∀ (q_120 : Nat) (C_121 : ClassId), st_tg σ_110 q_120 = none → ∀ σ_122 : ST, σ_122 = st_arr σ_110 q_120 301 C_121 301 → (∀ σ_134 : ST, σ_134 = st_sR σ_122 48 h0 (some q_120) → (∀ (q_145 : Nat) (C_146 : ClassId), st_tg σ_134 q_145 = none → ∀ σ_147 : ST, σ_147 = st_arr σ_134 q_145 302 C_146 301 → (∀ σ_160 : ST, σ_160 = st_sR σ_147 49 h0 (some q_145) → (∀ (q_172 : Nat) (C_173 : ClassId), st_tg σ_160 q_172 = none → ∀ σ_174 : ST, σ_174 = st_arr σ_160 q_172 303 C_173 301 → (∀ σ_188 : ST, σ_188 = st_sR σ_174 50 h0 (some q_172) → (∀ (q_201 : Nat) (C_202 : ClassId), st_tg σ_188 q_201 = none → ∀ σ_203 : ST, σ_203 = st_arr σ_188 q_201 302 C_202 4 → (vp_in 0 (st_ln σ_203 q_201) ∧ (∀ σ_219 : ST, σ_219 = st_uJ σ_203 q_201 (Int32.toNatClampNeg 0) 1000 → (vp_in 1 (st_ln σ_219 q_201) ∧ (∀ σ_234 : ST, σ_234 = st_uJ σ_219 q_201 (Int32.toNatClampNeg 1) 1000 → (vp_in 2 (st_ln σ_234 q_201) ∧ (∀ σ_249 : ST, σ_249 = st_uJ σ_234 q_201 (Int32.toNatClampNeg 2) 1000 → (vp_in 3 (st_ln σ_249 q_201) ∧ (∀ σ_264 : ST, σ_264 = st_uJ σ_249 q_201 (Int32.toNatClampNeg 3) 1000 → (∀ σ_278 : ST, σ_278 = st_sR σ_264 51 h0 (some q_201) → (∀ (q_292 : Nat) (C_293 : ClassId), st_tg σ_278 q_292 = none → ∀ σ_294 : ST, σ_294 = st_arr σ_278 q_292 302 C_293 8 → (∀ σ_310 : ST, σ_310 = st_sR σ_294 52 h0 (some q_292) → (∀ (q_325 : Nat) (C_326 : ClassId), st_tg σ_310 q_325 = none → ∀ σ_327 : ST, σ_327 = st_arr σ_310 q_325 302 C_326 8 → (vp_in 0 (st_ln σ_327 q_325) ∧ (∀ σ_345 : ST, σ_345 = st_uJ σ_327 q_325 (Int32.toNatClampNeg 0) ((-1)) → (vp_in 1 (st_ln σ_345 q_325) ∧ (∀ σ_362 : ST, σ_362 = st_uJ σ_345 q_325 (Int32.toNatClampNeg 1) ((-1)) → (vp_in 2 (st_ln σ_362 q_325) ∧ (∀ σ_379 : ST, σ_379 = st_uJ σ_362 q_325 (Int32.toNatClampNeg 2) ((-1)) → (vp_in 3 (st_ln σ_379 q_325) ∧ (∀ σ_396 : ST, σ_396 = st_uJ σ_379 q_325 (Int32.toNatClampNeg 3) ((-1)) → (vp_in 4 (st_ln σ_396 q_325) ∧ (∀ σ_413 : ST, σ_413 = st_uJ σ_396 q_325 (Int32.toNatClampNeg 4) ((-1)) → (vp_in 5 (st_ln σ_413 q_325) ∧ (∀ σ_430 : ST, σ_430 = st_uJ σ_413 q_325 (Int32.toNatClampNeg 5) ((-1)) → (vp_in 6 (st_ln σ_430 q_325) ∧ (∀ σ_447 : ST, σ_447 = st_uJ σ_430 q_325 (Int32.toNatClampNeg 6) ((-1)) → (vp_in 7 (st_ln σ_447 q_325) ∧ (∀ σ_464 : ST, σ_464 = st_uJ σ_447 q_325 (Int32.toNatClampNeg 7) ((-1)) → (∀ σ_480 : ST, σ_480 = st_sR σ_464 53 h0 (some q_325) → (∀ (q_496 : Nat) (C_497 : ClassId), st_tg σ_480 q_496 = none → ∀ σ_498 : ST, σ_498 = st_arr σ_480 q_496 303 C_497 8 → (∀ σ_516 : ST, σ_516 = st_sR σ_498 54 h0 (some q_496) → (∀ (q_533 : Nat) (C_534 : ClassId), st_tg σ_516 q_533 = none → ∀ σ_535 : ST, σ_535 = st_arr σ_516 q_533 301 C_534 8 → (∀ σ_554 : ST, σ_554 = st_sR σ_535 55 h0 (some q_533) → (∀ (q_572 : Nat) (C_573 : ClassId), st_tg σ_554 q_572 = none → ∀ σ_574 : ST, σ_574 = st_arr σ_554 q_572 302 C_573 8 → (vp_in 0 (st_ln σ_574 q_572) ∧ (∀ σ_595 : ST, σ_595 = st_uJ σ_574 q_572 (Int32.toNatClampNeg 0) ((-1)) → (vp_in 1 (st_ln σ_595 q_572) ∧ (∀ σ_615 : ST, σ_615 = st_uJ σ_595 q_572 (Int32.toNatClampNeg 1) ((-1)) → (vp_in 2 (st_ln σ_615 q_572) ∧ (∀ σ_635 : ST, σ_635 = st_uJ σ_615 q_572 (Int32.toNatClampNeg 2) ((-1)) → (vp_in 3 (st_ln σ_635 q_572) ∧ (∀ σ_655 : ST, σ_655 = st_uJ σ_635 q_572 (Int32.toNatClampNeg 3) ((-1)) → (vp_in 4 (st_ln σ_655 q_572) ∧ (∀ σ_675 : ST, σ_675 = st_uJ σ_655 q_572 (Int32.toNatClampNeg 4) ((-1)) → (vp_in 5 (st_ln σ_675 q_572) ∧ (∀ σ_695 : ST, σ_695 = st_uJ σ_675 q_572 (Int32.toNatClampNeg 5) ((-1)) → (vp_in 6 (st_ln σ_695 q_572) ∧ (∀ σ_715 : ST, σ_715 = st_uJ σ_695 q_572 (Int32.toNatClampNeg 6) ((-1)) → (vp_in 7 (st_ln σ_715 q_572) ∧ (∀ σ_735 : ST, σ_735 = st_uJ σ_715 q_572 (Int32.toNatClampNeg 7) ((-1)) → (∀ σ_754 : ST, σ_754 = st_sR σ_735 56 h0 (some q_572) → (∀ (q_773 : Nat) (C_774 : ClassId), st_tg σ_754 q_773 = none → ∀ σ_775 : ST, σ_775 = st_arr σ_754 q_773 302 C_774 8 → (∀ σ_796 : ST, σ_796 = st_sR σ_775 57 h0 (some q_773) → (∀ (q_816 : Nat) (C_817 : ClassId), st_tg σ_796 q_816 = none → ∀ σ_818 : ST, σ_818 = st_arr σ_796 q_816 301 C_817 8 → (∀ σ_840 : ST, σ_840 = st_sR σ_818 58 h0 (some q_816) → (∀ (q_861 : Nat) (C_862 : ClassId), st_tg σ_840 q_861 = none → ∀ σ_863 : ST, σ_863 = st_arr σ_840 q_861 301 C_862 2400 → (∀ σ_886 : ST, σ_886 = st_sR σ_863 59 h0 (some q_861) → (∀ (q_908 : Nat) (C_909 : ClassId), st_tg σ_886 q_908 = none → ∀ σ_910 : ST, σ_910 = st_arr σ_886 q_908 301 C_909 128 → (∀ σ_934 : ST, σ_934 = st_sR σ_910 62 h0 (some q_908) → (∀ (q_957 : Nat) (C_958 : ClassId), st_tg σ_934 q_957 = none → ∀ σ_959 : ST, σ_959 = st_arr σ_934 q_957 302 C_958 128 → (∀ σ_984 : ST, σ_984 = st_sR σ_959 63 h0 (some q_957) → (∀ (q_1008 : Nat) (C_1009 : ClassId), st_tg σ_984 q_1008 = none → ∀ σ_1010 : ST, σ_1010 = st_arr σ_984 q_1008 301 C_1009 128 → (∀ σ_1036 : ST, σ_1036 = st_sR σ_1010 64 h0 (some q_1008) → (∀ (q_1061 : Nat) (C_1062 : ClassId), st_tg σ_1036 q_1061 = none → ∀ σ_1063 : ST, σ_1063 = st_arr σ_1036 q_1061 302 C_1062 128 → (∀ σ_1090 : ST, σ_1090 = st_sR σ_1063 65 h0 (some q_1061) → (∀ (q_1116 : Nat) (C_1117 : ClassId), st_tg σ_1090 q_1116 = none → ∀ σ_1118 : ST, σ_1118 = st_arr σ_1090 q_1116 301 C_1117 128 → (∀ σ_1146 : ST, σ_1146 = st_sR σ_1118 66 h0 (some q_1116) → (∀ (q_1173 : Nat) (C_1174 : ClassId), st_tg σ_1146 q_1173 = none → ∀ σ_1175 : ST, σ_1175 = st_arr σ_1146 q_1173 301 C_1174 100 → (∀ σ_1204 : ST, σ_1204 = st_sR σ_1175 68 h0 (some q_1173) → (∀ (q_1232 : Nat) (C_1233 : ClassId), st_tg σ_1204 q_1232 = none → ∀ σ_1234 : ST, σ_1234 = st_arr σ_1204 q_1232 302 C_1233 100 → (∀ σ_1264 : ST, σ_1264 = st_sR σ_1234 69 h0 (some q_1232) → (∀ (q_1293 : Nat) (C_1294 : ClassId), st_tg σ_1264 q_1293 = none → ∀ σ_1295 : ST, σ_1295 = st_arr σ_1264 q_1293 301 C_1294 100 → (∀ σ_1326 : ST, σ_1326 = st_sR σ_1295 70 h0 (some q_1293) → (∀ (q_1356 : Nat) (C_1357 : ClassId), st_tg σ_1326 q_1356 = none → ∀ σ_1358 : ST, σ_1358 = st_arr σ_1326 q_1356 302 C_1357 9 → (∀ σ_1390 : ST, σ_1390 = st_sR σ_1358 71 h0 (some q_1356) → (K σ_1390)))))))))))))))))))))))))))))))))))))))))))))))))))))))))))))))))))))))))))))))))))))))))))))))))
abbrev ROOM_M_init : Room := { frames := 1, cells := 28, slots := 6419, locals := 12 }
set_option maxHeartbeats 4000000 in
set_option maxRecDepth 100000 in
theorem mc_M_init (l : Launch) (D : va_G) (A : Nat → Prop) (σ : ST) (h0 : Nat) (K : ST → Prop) : Met l y_M_init ws_M_init ROOM_M_init (va_Pc [.ref h0] (fun U => mw D A σ U ∧ mn U ∧ wp_M_init σ h0 K)) (va_Qv K (mw D A) A) 28 6419 A := by
  refine Met.ofW (cc := c_M_init) (maxL := 1) (ret := none) (by decide) rfl ?_
  intro p e s m args below meth c s₁ B hml hv
  obtain ⟨rfl, ⟨hH, hK, hA⟩, hn, h⟩ := hv
  have hx := B.exec
  have hb := B.bytes
  have hr := B.returns
  have hts := atoms_spec (ws := ws_M_init) B.pre
  have hown : s.vm.findClass R_M = some m.cls := findClass_of_methodNamed B.named
  have hlocks := B.notSynchronized
  have hin : meth.name = "<init>" := (name_of_methodNamed B.named B.method).1
  have hts : ∀ w ∈ lw_g, w.before ([.ref h0] : List Value).toArray s = true := fun w hw => hts w (List.mem_cons_of_mem _ hw)
  have hS : va_S A s.heap s.heap [] := va_S.rf
  have hl := lv_entry ([.ref h0]) (n := 1) (Nat.le_of_ble_eq_true rfl)
  rw [lg_entry_eq]
  generalize (lg_sl ([.ref h0]) ++ List.replicate (1 - (lg_sl ([.ref h0])).length) Slot.unset).toArray = ls at hl ⊢
  have hl : lv_has ls 1 [(0, va_rf (some h0))] := hl
  unfold wp_M_init at h
  refine mr_aload_n hx hb d_M_init_0 rfl (lv_at hl 0 rfl) ?_
  refine W.objInit hx hb hown (hts _ wd_414) (hts _ wd_15) (hts _ wd_16) rfl (by rw [hml]; exact hl.1) rfl d_M_init_1 (Nat.le_of_ble_eq_true rfl) (Nat.le_of_ble_eq_true rfl) ?_
  refine W.eq (g2 := F0 m 4 ls []) rfl ?_
  refine mr_aload_n hx hb d_M_init_4 rfl (lv_at hl 0 rfl) ?_
  refine lv_sipush (v := 301) hx hb d_M_init_5 (by decide) ?_
  refine ms_newa (σ := σ) (atype := .int) (y := .inl (fun _ => 0)) hx hb (hts _ wd_514) rfl hK hH hS hA 301 rfl (n := 301) (N' := 301) (fun cA => rfl) (by decide) (by decide) (by decide) (by decide) (by decide) d_M_init_8 (fun q cA hq => anew_301 σ q cA 301 hq) (fun q_1 C_2 H f_5 hH hK hS => ?_)
  obtain ⟨σ_3, z_4⟩ : ∃ y : ST, y = st_arr σ q_1 301 C_2 301 := ⟨_, rfl⟩
  rw [← z_4] at hH hK
  have h := h q_1 C_2 f_5 σ_3 z_4
  have t_6 : st_tg σ_3 q_1 = some 301 := by rw [z_4, g_tg_arr, if_pos rfl]
  obtain ⟨t_7, h⟩ := h
  obtain ⟨σ_8, z_9⟩ : ∃ y : ST, y = st_sR σ_3 41 h0 (some q_1) := ⟨_, rfl⟩
  have h := h σ_8 z_9
  refine ms_putF (σ := σ_3) (r := some h0) (a := h0) (fs := fl_1 σ_3 h0) (ci := 1) (C := R_M) (T := T_M) (N := 32) (v := va_rf (some q_1)) (ty := (.array .int)) hx hb hts in_1 ty_M ty_M_ok nm_M hown hK hH hS rfl (cell_1 t_7) rfl 1 (by decide) (hts _ wd_418) (fun _ h9 => h9) rfl hin rfl (by decide +kernel) (nar_ra _ _) (fit_ra _ _) (Nat.le_of_ble_eq_true rfl) d_M_init_10 (σ1 := σ_8) (by rw [z_9]; exact put_1_1 σ_3 h0 (some q_1) t_7) (by rw [z_9]; rfl) (by rw [z_9]; rfl) (fun H locs hH hK hS => ?_)
  have t_10 : st_tg σ_8 q_1 = some 301 := by rw [z_9]; exact t_6
  have t_11 : st_tg σ_8 h0 = some 1 := by rw [z_9]; exact t_7
  refine mr_aload_n hx hb d_M_init_13 rfl (lv_at hl 0 rfl) ?_
  refine lv_sipush (v := 301) hx hb d_M_init_14 (by decide) ?_
  refine ms_newa (σ := σ_8) (atype := .long) (y := .inr (.inl (fun _ => 0))) hx hb (hts _ wd_66) rfl hK hH hS hA 302 rfl (n := 301) (N' := 301) (fun cA => rfl) (by decide) (by decide) (by decide) (by decide) (by decide) d_M_init_17 (fun q cA hq => anew_302 σ_8 q cA 301 hq) (fun q_12 C_13 H f_16 hH hK hS => ?_)
  obtain ⟨σ_14, z_15⟩ : ∃ y : ST, y = st_arr σ_8 q_12 302 C_13 301 := ⟨_, rfl⟩
  rw [← z_15] at hH hK
  have h := h q_12 C_13 f_16 σ_14 z_15
  have t_17 : st_tg σ_14 q_1 = some 301 := by rw [z_15, g_tg_arr, if_neg (fun y => by rw [y, f_16] at t_10; cases t_10)]; exact t_10
  have t_18 : st_tg σ_14 h0 = some 1 := by rw [z_15, g_tg_arr, if_neg (fun y => by rw [y, f_16] at t_11; cases t_11)]; exact t_11
  have t_19 : st_tg σ_14 q_12 = some 302 := by rw [z_15, g_tg_arr, if_pos rfl]
  obtain ⟨σ_20, z_21⟩ : ∃ y : ST, y = st_sR σ_14 42 h0 (some q_12) := ⟨_, rfl⟩
  have h := h σ_20 z_21
  refine ms_putF (σ := σ_14) (r := some h0) (a := h0) (fs := fl_1 σ_14 h0) (ci := 1) (C := R_M) (T := T_M) (N := 32) (v := va_rf (some q_12)) (ty := (.array .long)) hx hb hts in_1 ty_M ty_M_ok nm_M hown hK hH hS rfl (cell_1 t_18) rfl 2 (by decide) (hts _ wd_419) (fun _ h9 => h9) rfl hin rfl (by decide +kernel) (nar_ra _ _) (fit_ra _ _) (Nat.le_of_ble_eq_true rfl) d_M_init_19 (σ1 := σ_20) (by rw [z_21]; exact put_1_2 σ_14 h0 (some q_12) t_18) (by rw [z_21]; rfl) (by rw [z_21]; rfl) (fun H locs hH hK hS => ?_)
  have t_22 : st_tg σ_20 q_1 = some 301 := by rw [z_21]; exact t_17
  have t_23 : st_tg σ_20 h0 = some 1 := by rw [z_21]; exact t_18
  have t_24 : st_tg σ_20 q_12 = some 302 := by rw [z_21]; exact t_19
  refine mr_aload_n hx hb d_M_init_22 rfl (lv_at hl 0 rfl) ?_
  refine lv_sipush (v := 301) hx hb d_M_init_23 (by decide) ?_
  refine ms_newa (σ := σ_20) (atype := .long) (y := .inr (.inl (fun _ => 0))) hx hb (hts _ wd_66) rfl hK hH hS hA 302 rfl (n := 301) (N' := 301) (fun cA => rfl) (by decide) (by decide) (by decide) (by decide) (by decide) d_M_init_26 (fun q cA hq => anew_302 σ_20 q cA 301 hq) (fun q_25 C_26 H f_29 hH hK hS => ?_)
  obtain ⟨σ_27, z_28⟩ : ∃ y : ST, y = st_arr σ_20 q_25 302 C_26 301 := ⟨_, rfl⟩
  rw [← z_28] at hH hK
  have h := h q_25 C_26 f_29 σ_27 z_28
  have t_30 : st_tg σ_27 q_1 = some 301 := by rw [z_28, g_tg_arr, if_neg (fun y => by rw [y, f_29] at t_22; cases t_22)]; exact t_22
  have t_31 : st_tg σ_27 h0 = some 1 := by rw [z_28, g_tg_arr, if_neg (fun y => by rw [y, f_29] at t_23; cases t_23)]; exact t_23
  have t_32 : st_tg σ_27 q_12 = some 302 := by rw [z_28, g_tg_arr, if_neg (fun y => by rw [y, f_29] at t_24; cases t_24)]; exact t_24
  have t_33 : st_tg σ_27 q_25 = some 302 := by rw [z_28, g_tg_arr, if_pos rfl]
  obtain ⟨σ_34, z_35⟩ : ∃ y : ST, y = st_sR σ_27 43 h0 (some q_25) := ⟨_, rfl⟩
  have h := h σ_34 z_35
  refine ms_putF (σ := σ_27) (r := some h0) (a := h0) (fs := fl_1 σ_27 h0) (ci := 1) (C := R_M) (T := T_M) (N := 32) (v := va_rf (some q_25)) (ty := (.array .long)) hx hb hts in_1 ty_M ty_M_ok nm_M hown hK hH hS rfl (cell_1 t_31) rfl 3 (by decide) (hts _ wd_420) (fun _ h9 => h9) rfl hin rfl (by decide +kernel) (nar_ra _ _) (fit_ra _ _) (Nat.le_of_ble_eq_true rfl) d_M_init_28 (σ1 := σ_34) (by rw [z_35]; exact put_1_3 σ_27 h0 (some q_25) t_31) (by rw [z_35]; rfl) (by rw [z_35]; rfl) (fun H locs hH hK hS => ?_)
  have t_36 : st_tg σ_34 q_1 = some 301 := by rw [z_35]; exact t_30
  have t_37 : st_tg σ_34 h0 = some 1 := by rw [z_35]; exact t_31
  have t_38 : st_tg σ_34 q_12 = some 302 := by rw [z_35]; exact t_32
  have t_39 : st_tg σ_34 q_25 = some 302 := by rw [z_35]; exact t_33
  refine mr_aload_n hx hb d_M_init_31 rfl (lv_at hl 0 rfl) ?_
  refine lv_sipush (v := 301) hx hb d_M_init_32 (by decide) ?_
  refine ms_newa (σ := σ_34) (atype := .int) (y := .inl (fun _ => 0)) hx hb (hts _ wd_514) rfl hK hH hS hA 301 rfl (n := 301) (N' := 301) (fun cA => rfl) (by decide) (by decide) (by decide) (by decide) (by decide) d_M_init_35 (fun q cA hq => anew_301 σ_34 q cA 301 hq) (fun q_40 C_41 H f_44 hH hK hS => ?_)
  obtain ⟨σ_42, z_43⟩ : ∃ y : ST, y = st_arr σ_34 q_40 301 C_41 301 := ⟨_, rfl⟩
  rw [← z_43] at hH hK
  have h := h q_40 C_41 f_44 σ_42 z_43
  have t_45 : st_tg σ_42 q_1 = some 301 := by rw [z_43, g_tg_arr, if_neg (fun y => by rw [y, f_44] at t_36; cases t_36)]; exact t_36
  have t_46 : st_tg σ_42 h0 = some 1 := by rw [z_43, g_tg_arr, if_neg (fun y => by rw [y, f_44] at t_37; cases t_37)]; exact t_37
  have t_47 : st_tg σ_42 q_12 = some 302 := by rw [z_43, g_tg_arr, if_neg (fun y => by rw [y, f_44] at t_38; cases t_38)]; exact t_38
  have t_48 : st_tg σ_42 q_25 = some 302 := by rw [z_43, g_tg_arr, if_neg (fun y => by rw [y, f_44] at t_39; cases t_39)]; exact t_39
  have t_49 : st_tg σ_42 q_40 = some 301 := by rw [z_43, g_tg_arr, if_pos rfl]
  obtain ⟨σ_50, z_51⟩ : ∃ y : ST, y = st_sR σ_42 44 h0 (some q_40) := ⟨_, rfl⟩
  have h := h σ_50 z_51
  refine ms_putF (σ := σ_42) (r := some h0) (a := h0) (fs := fl_1 σ_42 h0) (ci := 1) (C := R_M) (T := T_M) (N := 32) (v := va_rf (some q_40)) (ty := (.array .int)) hx hb hts in_1 ty_M ty_M_ok nm_M hown hK hH hS rfl (cell_1 t_46) rfl 4 (by decide) (hts _ wd_421) (fun _ h9 => h9) rfl hin rfl (by decide +kernel) (nar_ra _ _) (fit_ra _ _) (Nat.le_of_ble_eq_true rfl) d_M_init_37 (σ1 := σ_50) (by rw [z_51]; exact put_1_4 σ_42 h0 (some q_40) t_46) (by rw [z_51]; rfl) (by rw [z_51]; rfl) (fun H locs hH hK hS => ?_)
  have t_52 : st_tg σ_50 q_1 = some 301 := by rw [z_51]; exact t_45
  have t_53 : st_tg σ_50 h0 = some 1 := by rw [z_51]; exact t_46
  have t_54 : st_tg σ_50 q_12 = some 302 := by rw [z_51]; exact t_47
  have t_55 : st_tg σ_50 q_25 = some 302 := by rw [z_51]; exact t_48
  have t_56 : st_tg σ_50 q_40 = some 301 := by rw [z_51]; exact t_49
  refine mr_aload_n hx hb d_M_init_40 rfl (lv_at hl 0 rfl) ?_
  refine lv_sipush (v := 301) hx hb d_M_init_41 (by decide) ?_
  refine ms_newa (σ := σ_50) (atype := .int) (y := .inl (fun _ => 0)) hx hb (hts _ wd_514) rfl hK hH hS hA 301 rfl (n := 301) (N' := 301) (fun cA => rfl) (by decide) (by decide) (by decide) (by decide) (by decide) d_M_init_44 (fun q cA hq => anew_301 σ_50 q cA 301 hq) (fun q_57 C_58 H f_61 hH hK hS => ?_)
  obtain ⟨σ_59, z_60⟩ : ∃ y : ST, y = st_arr σ_50 q_57 301 C_58 301 := ⟨_, rfl⟩
  rw [← z_60] at hH hK
  have h := h q_57 C_58 f_61 σ_59 z_60
  have t_62 : st_tg σ_59 q_1 = some 301 := by rw [z_60, g_tg_arr, if_neg (fun y => by rw [y, f_61] at t_52; cases t_52)]; exact t_52
  have t_63 : st_tg σ_59 h0 = some 1 := by rw [z_60, g_tg_arr, if_neg (fun y => by rw [y, f_61] at t_53; cases t_53)]; exact t_53
  have t_64 : st_tg σ_59 q_12 = some 302 := by rw [z_60, g_tg_arr, if_neg (fun y => by rw [y, f_61] at t_54; cases t_54)]; exact t_54
  have t_65 : st_tg σ_59 q_25 = some 302 := by rw [z_60, g_tg_arr, if_neg (fun y => by rw [y, f_61] at t_55; cases t_55)]; exact t_55
  have t_66 : st_tg σ_59 q_40 = some 301 := by rw [z_60, g_tg_arr, if_neg (fun y => by rw [y, f_61] at t_56; cases t_56)]; exact t_56
  have t_67 : st_tg σ_59 q_57 = some 301 := by rw [z_60, g_tg_arr, if_pos rfl]
  obtain ⟨σ_68, z_69⟩ : ∃ y : ST, y = st_sR σ_59 45 h0 (some q_57) := ⟨_, rfl⟩
  have h := h σ_68 z_69
  refine ms_putF (σ := σ_59) (r := some h0) (a := h0) (fs := fl_1 σ_59 h0) (ci := 1) (C := R_M) (T := T_M) (N := 32) (v := va_rf (some q_57)) (ty := (.array .int)) hx hb hts in_1 ty_M ty_M_ok nm_M hown hK hH hS rfl (cell_1 t_63) rfl 5 (by decide) (hts _ wd_422) (fun _ h9 => h9) rfl hin rfl (by decide +kernel) (nar_ra _ _) (fit_ra _ _) (Nat.le_of_ble_eq_true rfl) d_M_init_46 (σ1 := σ_68) (by rw [z_69]; exact put_1_5 σ_59 h0 (some q_57) t_63) (by rw [z_69]; rfl) (by rw [z_69]; rfl) (fun H locs hH hK hS => ?_)
  have t_70 : st_tg σ_68 q_1 = some 301 := by rw [z_69]; exact t_62
  have t_71 : st_tg σ_68 h0 = some 1 := by rw [z_69]; exact t_63
  have t_72 : st_tg σ_68 q_12 = some 302 := by rw [z_69]; exact t_64
  have t_73 : st_tg σ_68 q_25 = some 302 := by rw [z_69]; exact t_65
  have t_74 : st_tg σ_68 q_40 = some 301 := by rw [z_69]; exact t_66
  have t_75 : st_tg σ_68 q_57 = some 301 := by rw [z_69]; exact t_67
  refine mr_aload_n hx hb d_M_init_49 rfl (lv_at hl 0 rfl) ?_
  refine lv_sipush (v := 301) hx hb d_M_init_50 (by decide) ?_
  refine ms_newa (σ := σ_68) (atype := .int) (y := .inl (fun _ => 0)) hx hb (hts _ wd_514) rfl hK hH hS hA 301 rfl (n := 301) (N' := 301) (fun cA => rfl) (by decide) (by decide) (by decide) (by decide) (by decide) d_M_init_53 (fun q cA hq => anew_301 σ_68 q cA 301 hq) (fun q_76 C_77 H f_80 hH hK hS => ?_)
  obtain ⟨σ_78, z_79⟩ : ∃ y : ST, y = st_arr σ_68 q_76 301 C_77 301 := ⟨_, rfl⟩
  rw [← z_79] at hH hK
  have h := h q_76 C_77 f_80 σ_78 z_79
  have t_81 : st_tg σ_78 q_1 = some 301 := by rw [z_79, g_tg_arr, if_neg (fun y => by rw [y, f_80] at t_70; cases t_70)]; exact t_70
  have t_82 : st_tg σ_78 h0 = some 1 := by rw [z_79, g_tg_arr, if_neg (fun y => by rw [y, f_80] at t_71; cases t_71)]; exact t_71
  have t_83 : st_tg σ_78 q_12 = some 302 := by rw [z_79, g_tg_arr, if_neg (fun y => by rw [y, f_80] at t_72; cases t_72)]; exact t_72
  have t_84 : st_tg σ_78 q_25 = some 302 := by rw [z_79, g_tg_arr, if_neg (fun y => by rw [y, f_80] at t_73; cases t_73)]; exact t_73
  have t_85 : st_tg σ_78 q_40 = some 301 := by rw [z_79, g_tg_arr, if_neg (fun y => by rw [y, f_80] at t_74; cases t_74)]; exact t_74
  have t_86 : st_tg σ_78 q_57 = some 301 := by rw [z_79, g_tg_arr, if_neg (fun y => by rw [y, f_80] at t_75; cases t_75)]; exact t_75
  have t_87 : st_tg σ_78 q_76 = some 301 := by rw [z_79, g_tg_arr, if_pos rfl]
  obtain ⟨σ_88, z_89⟩ : ∃ y : ST, y = st_sR σ_78 46 h0 (some q_76) := ⟨_, rfl⟩
  have h := h σ_88 z_89
  refine ms_putF (σ := σ_78) (r := some h0) (a := h0) (fs := fl_1 σ_78 h0) (ci := 1) (C := R_M) (T := T_M) (N := 32) (v := va_rf (some q_76)) (ty := (.array .int)) hx hb hts in_1 ty_M ty_M_ok nm_M hown hK hH hS rfl (cell_1 t_82) rfl 6 (by decide) (hts _ wd_423) (fun _ h9 => h9) rfl hin rfl (by decide +kernel) (nar_ra _ _) (fit_ra _ _) (Nat.le_of_ble_eq_true rfl) d_M_init_55 (σ1 := σ_88) (by rw [z_89]; exact put_1_6 σ_78 h0 (some q_76) t_82) (by rw [z_89]; rfl) (by rw [z_89]; rfl) (fun H locs hH hK hS => ?_)
  have t_90 : st_tg σ_88 q_1 = some 301 := by rw [z_89]; exact t_81
  have t_91 : st_tg σ_88 h0 = some 1 := by rw [z_89]; exact t_82
  have t_92 : st_tg σ_88 q_12 = some 302 := by rw [z_89]; exact t_83
  have t_93 : st_tg σ_88 q_25 = some 302 := by rw [z_89]; exact t_84
  have t_94 : st_tg σ_88 q_40 = some 301 := by rw [z_89]; exact t_85
  have t_95 : st_tg σ_88 q_57 = some 301 := by rw [z_89]; exact t_86
  have t_96 : st_tg σ_88 q_76 = some 301 := by rw [z_89]; exact t_87
  refine mr_aload_n hx hb d_M_init_58 rfl (lv_at hl 0 rfl) ?_
  refine lv_sipush (v := 301) hx hb d_M_init_59 (by decide) ?_
  refine ms_newa (σ := σ_88) (atype := .int) (y := .inl (fun _ => 0)) hx hb (hts _ wd_514) rfl hK hH hS hA 301 rfl (n := 301) (N' := 301) (fun cA => rfl) (by decide) (by decide) (by decide) (by decide) (by decide) d_M_init_62 (fun q cA hq => anew_301 σ_88 q cA 301 hq) (fun q_97 C_98 H f_101 hH hK hS => ?_)
  obtain ⟨σ_99, z_100⟩ : ∃ y : ST, y = st_arr σ_88 q_97 301 C_98 301 := ⟨_, rfl⟩
  rw [← z_100] at hH hK
  have h := h q_97 C_98 f_101 σ_99 z_100
  have t_102 : st_tg σ_99 q_1 = some 301 := by rw [z_100, g_tg_arr, if_neg (fun y => by rw [y, f_101] at t_90; cases t_90)]; exact t_90
  have t_103 : st_tg σ_99 h0 = some 1 := by rw [z_100, g_tg_arr, if_neg (fun y => by rw [y, f_101] at t_91; cases t_91)]; exact t_91
  have t_104 : st_tg σ_99 q_12 = some 302 := by rw [z_100, g_tg_arr, if_neg (fun y => by rw [y, f_101] at t_92; cases t_92)]; exact t_92
  have t_105 : st_tg σ_99 q_25 = some 302 := by rw [z_100, g_tg_arr, if_neg (fun y => by rw [y, f_101] at t_93; cases t_93)]; exact t_93
  have t_106 : st_tg σ_99 q_40 = some 301 := by rw [z_100, g_tg_arr, if_neg (fun y => by rw [y, f_101] at t_94; cases t_94)]; exact t_94
  have t_107 : st_tg σ_99 q_57 = some 301 := by rw [z_100, g_tg_arr, if_neg (fun y => by rw [y, f_101] at t_95; cases t_95)]; exact t_95
  have t_108 : st_tg σ_99 q_76 = some 301 := by rw [z_100, g_tg_arr, if_neg (fun y => by rw [y, f_101] at t_96; cases t_96)]; exact t_96
  have t_109 : st_tg σ_99 q_97 = some 301 := by rw [z_100, g_tg_arr, if_pos rfl]
  obtain ⟨σ_110, z_111⟩ : ∃ y : ST, y = st_sR σ_99 47 h0 (some q_97) := ⟨_, rfl⟩
  have h := h σ_110 z_111
  refine ms_putF (σ := σ_99) (r := some h0) (a := h0) (fs := fl_1 σ_99 h0) (ci := 1) (C := R_M) (T := T_M) (N := 32) (v := va_rf (some q_97)) (ty := (.array .int)) hx hb hts in_1 ty_M ty_M_ok nm_M hown hK hH hS rfl (cell_1 t_103) rfl 7 (by decide) (hts _ wd_424) (fun _ h9 => h9) rfl hin rfl (by decide +kernel) (nar_ra _ _) (fit_ra _ _) (Nat.le_of_ble_eq_true rfl) d_M_init_64 (σ1 := σ_110) (by rw [z_111]; exact put_1_7 σ_99 h0 (some q_97) t_103) (by rw [z_111]; rfl) (by rw [z_111]; rfl) (fun H locs hH hK hS => ?_)
  have t_112 : st_tg σ_110 q_1 = some 301 := by rw [z_111]; exact t_102
  have t_113 : st_tg σ_110 h0 = some 1 := by rw [z_111]; exact t_103
  have t_114 : st_tg σ_110 q_12 = some 302 := by rw [z_111]; exact t_104
  have t_115 : st_tg σ_110 q_25 = some 302 := by rw [z_111]; exact t_105
  have t_116 : st_tg σ_110 q_40 = some 301 := by rw [z_111]; exact t_106
  have t_117 : st_tg σ_110 q_57 = some 301 := by rw [z_111]; exact t_107
  have t_118 : st_tg σ_110 q_76 = some 301 := by rw [z_111]; exact t_108
  have t_119 : st_tg σ_110 q_97 = some 301 := by rw [z_111]; exact t_109
  refine mr_aload_n hx hb d_M_init_67 rfl (lv_at hl 0 rfl) ?_
  refine lv_sipush (v := 301) hx hb d_M_init_68 (by decide) ?_
  refine ms_newa (σ := σ_110) (atype := .int) (y := .inl (fun _ => 0)) hx hb (hts _ wd_514) rfl hK hH hS hA 301 rfl (n := 301) (N' := 301) (fun cA => rfl) (by decide) (by decide) (by decide) (by decide) (by decide) d_M_init_71 (fun q cA hq => anew_301 σ_110 q cA 301 hq) (fun q_120 C_121 H f_124 hH hK hS => ?_)
  obtain ⟨σ_122, z_123⟩ : ∃ y : ST, y = st_arr σ_110 q_120 301 C_121 301 := ⟨_, rfl⟩
  rw [← z_123] at hH hK
  have h := h q_120 C_121 f_124 σ_122 z_123
  have t_125 : st_tg σ_122 q_1 = some 301 := by rw [z_123, g_tg_arr, if_neg (fun y => by rw [y, f_124] at t_112; cases t_112)]; exact t_112
  have t_126 : st_tg σ_122 h0 = some 1 := by rw [z_123, g_tg_arr, if_neg (fun y => by rw [y, f_124] at t_113; cases t_113)]; exact t_113
  have t_127 : st_tg σ_122 q_12 = some 302 := by rw [z_123, g_tg_arr, if_neg (fun y => by rw [y, f_124] at t_114; cases t_114)]; exact t_114
  have t_128 : st_tg σ_122 q_25 = some 302 := by rw [z_123, g_tg_arr, if_neg (fun y => by rw [y, f_124] at t_115; cases t_115)]; exact t_115
  have t_129 : st_tg σ_122 q_40 = some 301 := by rw [z_123, g_tg_arr, if_neg (fun y => by rw [y, f_124] at t_116; cases t_116)]; exact t_116
  have t_130 : st_tg σ_122 q_57 = some 301 := by rw [z_123, g_tg_arr, if_neg (fun y => by rw [y, f_124] at t_117; cases t_117)]; exact t_117
  have t_131 : st_tg σ_122 q_76 = some 301 := by rw [z_123, g_tg_arr, if_neg (fun y => by rw [y, f_124] at t_118; cases t_118)]; exact t_118
  have t_132 : st_tg σ_122 q_97 = some 301 := by rw [z_123, g_tg_arr, if_neg (fun y => by rw [y, f_124] at t_119; cases t_119)]; exact t_119
  have t_133 : st_tg σ_122 q_120 = some 301 := by rw [z_123, g_tg_arr, if_pos rfl]
  obtain ⟨σ_134, z_135⟩ : ∃ y : ST, y = st_sR σ_122 48 h0 (some q_120) := ⟨_, rfl⟩
  have h := h σ_134 z_135
  refine ms_putF (σ := σ_122) (r := some h0) (a := h0) (fs := fl_1 σ_122 h0) (ci := 1) (C := R_M) (T := T_M) (N := 32) (v := va_rf (some q_120)) (ty := (.array .int)) hx hb hts in_1 ty_M ty_M_ok nm_M hown hK hH hS rfl (cell_1 t_126) rfl 8 (by decide) (hts _ wd_425) (fun _ h9 => h9) rfl hin rfl (by decide +kernel) (nar_ra _ _) (fit_ra _ _) (Nat.le_of_ble_eq_true rfl) d_M_init_73 (σ1 := σ_134) (by rw [z_135]; exact put_1_8 σ_122 h0 (some q_120) t_126) (by rw [z_135]; rfl) (by rw [z_135]; rfl) (fun H locs hH hK hS => ?_)
  have t_136 : st_tg σ_134 q_1 = some 301 := by rw [z_135]; exact t_125
  have t_137 : st_tg σ_134 h0 = some 1 := by rw [z_135]; exact t_126
  have t_138 : st_tg σ_134 q_12 = some 302 := by rw [z_135]; exact t_127
  have t_139 : st_tg σ_134 q_25 = some 302 := by rw [z_135]; exact t_128
  have t_140 : st_tg σ_134 q_40 = some 301 := by rw [z_135]; exact t_129
  have t_141 : st_tg σ_134 q_57 = some 301 := by rw [z_135]; exact t_130
  have t_142 : st_tg σ_134 q_76 = some 301 := by rw [z_135]; exact t_131
  have t_143 : st_tg σ_134 q_97 = some 301 := by rw [z_135]; exact t_132
  have t_144 : st_tg σ_134 q_120 = some 301 := by rw [z_135]; exact t_133
  refine mr_aload_n hx hb d_M_init_76 rfl (lv_at hl 0 rfl) ?_
  refine lv_sipush (v := 301) hx hb d_M_init_77 (by decide) ?_
  refine ms_newa (σ := σ_134) (atype := .long) (y := .inr (.inl (fun _ => 0))) hx hb (hts _ wd_66) rfl hK hH hS hA 302 rfl (n := 301) (N' := 301) (fun cA => rfl) (by decide) (by decide) (by decide) (by decide) (by decide) d_M_init_80 (fun q cA hq => anew_302 σ_134 q cA 301 hq) (fun q_145 C_146 H f_149 hH hK hS => ?_)
  obtain ⟨σ_147, z_148⟩ : ∃ y : ST, y = st_arr σ_134 q_145 302 C_146 301 := ⟨_, rfl⟩
  rw [← z_148] at hH hK
  have h := h q_145 C_146 f_149 σ_147 z_148
  have t_150 : st_tg σ_147 q_1 = some 301 := by rw [z_148, g_tg_arr, if_neg (fun y => by rw [y, f_149] at t_136; cases t_136)]; exact t_136
  have t_151 : st_tg σ_147 h0 = some 1 := by rw [z_148, g_tg_arr, if_neg (fun y => by rw [y, f_149] at t_137; cases t_137)]; exact t_137
  have t_152 : st_tg σ_147 q_12 = some 302 := by rw [z_148, g_tg_arr, if_neg (fun y => by rw [y, f_149] at t_138; cases t_138)]; exact t_138
  have t_153 : st_tg σ_147 q_25 = some 302 := by rw [z_148, g_tg_arr, if_neg (fun y => by rw [y, f_149] at t_139; cases t_139)]; exact t_139
  have t_154 : st_tg σ_147 q_40 = some 301 := by rw [z_148, g_tg_arr, if_neg (fun y => by rw [y, f_149] at t_140; cases t_140)]; exact t_140
  have t_155 : st_tg σ_147 q_57 = some 301 := by rw [z_148, g_tg_arr, if_neg (fun y => by rw [y, f_149] at t_141; cases t_141)]; exact t_141
  have t_156 : st_tg σ_147 q_76 = some 301 := by rw [z_148, g_tg_arr, if_neg (fun y => by rw [y, f_149] at t_142; cases t_142)]; exact t_142
  have t_157 : st_tg σ_147 q_97 = some 301 := by rw [z_148, g_tg_arr, if_neg (fun y => by rw [y, f_149] at t_143; cases t_143)]; exact t_143
  have t_158 : st_tg σ_147 q_120 = some 301 := by rw [z_148, g_tg_arr, if_neg (fun y => by rw [y, f_149] at t_144; cases t_144)]; exact t_144
  have t_159 : st_tg σ_147 q_145 = some 302 := by rw [z_148, g_tg_arr, if_pos rfl]
  obtain ⟨σ_160, z_161⟩ : ∃ y : ST, y = st_sR σ_147 49 h0 (some q_145) := ⟨_, rfl⟩
  have h := h σ_160 z_161
  refine ms_putF (σ := σ_147) (r := some h0) (a := h0) (fs := fl_1 σ_147 h0) (ci := 1) (C := R_M) (T := T_M) (N := 32) (v := va_rf (some q_145)) (ty := (.array .long)) hx hb hts in_1 ty_M ty_M_ok nm_M hown hK hH hS rfl (cell_1 t_151) rfl 9 (by decide) (hts _ wd_426) (fun _ h9 => h9) rfl hin rfl (by decide +kernel) (nar_ra _ _) (fit_ra _ _) (Nat.le_of_ble_eq_true rfl) d_M_init_82 (σ1 := σ_160) (by rw [z_161]; exact put_1_9 σ_147 h0 (some q_145) t_151) (by rw [z_161]; rfl) (by rw [z_161]; rfl) (fun H locs hH hK hS => ?_)
  have t_162 : st_tg σ_160 q_1 = some 301 := by rw [z_161]; exact t_150
  have t_163 : st_tg σ_160 h0 = some 1 := by rw [z_161]; exact t_151
  have t_164 : st_tg σ_160 q_12 = some 302 := by rw [z_161]; exact t_152
  have t_165 : st_tg σ_160 q_25 = some 302 := by rw [z_161]; exact t_153
  have t_166 : st_tg σ_160 q_40 = some 301 := by rw [z_161]; exact t_154
  have t_167 : st_tg σ_160 q_57 = some 301 := by rw [z_161]; exact t_155
  have t_168 : st_tg σ_160 q_76 = some 301 := by rw [z_161]; exact t_156
  have t_169 : st_tg σ_160 q_97 = some 301 := by rw [z_161]; exact t_157
  have t_170 : st_tg σ_160 q_120 = some 301 := by rw [z_161]; exact t_158
  have t_171 : st_tg σ_160 q_145 = some 302 := by rw [z_161]; exact t_159
  refine mr_aload_n hx hb d_M_init_85 rfl (lv_at hl 0 rfl) ?_
  refine lv_sipush (v := 301) hx hb d_M_init_86 (by decide) ?_
  refine ms_newa (σ := σ_160) (atype := .boolean) (y := .inl (fun _ => 0)) hx hb (hts _ wd_515) rfl hK hH hS hA 303 rfl (n := 301) (N' := 301) (fun cA => rfl) (by decide) (by decide) (by decide) (by decide) (by decide) d_M_init_89 (fun q cA hq => anew_303 σ_160 q cA 301 hq) (fun q_172 C_173 H f_176 hH hK hS => ?_)
  obtain ⟨σ_174, z_175⟩ : ∃ y : ST, y = st_arr σ_160 q_172 303 C_173 301 := ⟨_, rfl⟩
  rw [← z_175] at hH hK
  have h := h q_172 C_173 f_176 σ_174 z_175
  have t_177 : st_tg σ_174 q_1 = some 301 := by rw [z_175, g_tg_arr, if_neg (fun y => by rw [y, f_176] at t_162; cases t_162)]; exact t_162
  have t_178 : st_tg σ_174 h0 = some 1 := by rw [z_175, g_tg_arr, if_neg (fun y => by rw [y, f_176] at t_163; cases t_163)]; exact t_163
  have t_179 : st_tg σ_174 q_12 = some 302 := by rw [z_175, g_tg_arr, if_neg (fun y => by rw [y, f_176] at t_164; cases t_164)]; exact t_164
  have t_180 : st_tg σ_174 q_25 = some 302 := by rw [z_175, g_tg_arr, if_neg (fun y => by rw [y, f_176] at t_165; cases t_165)]; exact t_165
  have t_181 : st_tg σ_174 q_40 = some 301 := by rw [z_175, g_tg_arr, if_neg (fun y => by rw [y, f_176] at t_166; cases t_166)]; exact t_166
  have t_182 : st_tg σ_174 q_57 = some 301 := by rw [z_175, g_tg_arr, if_neg (fun y => by rw [y, f_176] at t_167; cases t_167)]; exact t_167
  have t_183 : st_tg σ_174 q_76 = some 301 := by rw [z_175, g_tg_arr, if_neg (fun y => by rw [y, f_176] at t_168; cases t_168)]; exact t_168
  have t_184 : st_tg σ_174 q_97 = some 301 := by rw [z_175, g_tg_arr, if_neg (fun y => by rw [y, f_176] at t_169; cases t_169)]; exact t_169
  have t_185 : st_tg σ_174 q_120 = some 301 := by rw [z_175, g_tg_arr, if_neg (fun y => by rw [y, f_176] at t_170; cases t_170)]; exact t_170
  have t_186 : st_tg σ_174 q_145 = some 302 := by rw [z_175, g_tg_arr, if_neg (fun y => by rw [y, f_176] at t_171; cases t_171)]; exact t_171
  have t_187 : st_tg σ_174 q_172 = some 303 := by rw [z_175, g_tg_arr, if_pos rfl]
  obtain ⟨σ_188, z_189⟩ : ∃ y : ST, y = st_sR σ_174 50 h0 (some q_172) := ⟨_, rfl⟩
  have h := h σ_188 z_189
  refine ms_putF (σ := σ_174) (r := some h0) (a := h0) (fs := fl_1 σ_174 h0) (ci := 1) (C := R_M) (T := T_M) (N := 32) (v := va_rf (some q_172)) (ty := (.array .boolean)) hx hb hts in_1 ty_M ty_M_ok nm_M hown hK hH hS rfl (cell_1 t_178) rfl 10 (by decide) (hts _ wd_427) (fun _ h9 => h9) rfl hin rfl (by decide +kernel) (nar_ra _ _) (fit_ra _ _) (Nat.le_of_ble_eq_true rfl) d_M_init_91 (σ1 := σ_188) (by rw [z_189]; exact put_1_10 σ_174 h0 (some q_172) t_178) (by rw [z_189]; rfl) (by rw [z_189]; rfl) (fun H locs hH hK hS => ?_)
  have t_190 : st_tg σ_188 q_1 = some 301 := by rw [z_189]; exact t_177
  have t_191 : st_tg σ_188 h0 = some 1 := by rw [z_189]; exact t_178
  have t_192 : st_tg σ_188 q_12 = some 302 := by rw [z_189]; exact t_179
  have t_193 : st_tg σ_188 q_25 = some 302 := by rw [z_189]; exact t_180
  have t_194 : st_tg σ_188 q_40 = some 301 := by rw [z_189]; exact t_181
  have t_195 : st_tg σ_188 q_57 = some 301 := by rw [z_189]; exact t_182
  have t_196 : st_tg σ_188 q_76 = some 301 := by rw [z_189]; exact t_183
  have t_197 : st_tg σ_188 q_97 = some 301 := by rw [z_189]; exact t_184
  have t_198 : st_tg σ_188 q_120 = some 301 := by rw [z_189]; exact t_185
  have t_199 : st_tg σ_188 q_145 = some 302 := by rw [z_189]; exact t_186
  have t_200 : st_tg σ_188 q_172 = some 303 := by rw [z_189]; exact t_187
  refine mr_aload_n hx hb d_M_init_94 rfl (lv_at hl 0 rfl) ?_
  refine lv_iconst (v := 4) hx hb d_M_init_95 (by decide) ?_
  refine ms_newa (σ := σ_188) (atype := .long) (y := .inr (.inl (fun _ => 0))) hx hb (hts _ wd_66) rfl hK hH hS hA 302 rfl (n := 4) (N' := 4) (fun cA => rfl) (by decide) (by decide) (by decide) (by decide) (by decide) d_M_init_96 (fun q cA hq => anew_302 σ_188 q cA 4 hq) (fun q_201 C_202 H f_205 hH hK hS => ?_)
  obtain ⟨σ_203, z_204⟩ : ∃ y : ST, y = st_arr σ_188 q_201 302 C_202 4 := ⟨_, rfl⟩
  rw [← z_204] at hH hK
  have h := h q_201 C_202 f_205 σ_203 z_204
  have t_206 : st_tg σ_203 q_1 = some 301 := by rw [z_204, g_tg_arr, if_neg (fun y => by rw [y, f_205] at t_190; cases t_190)]; exact t_190
  have t_207 : st_tg σ_203 h0 = some 1 := by rw [z_204, g_tg_arr, if_neg (fun y => by rw [y, f_205] at t_191; cases t_191)]; exact t_191
  have t_208 : st_tg σ_203 q_12 = some 302 := by rw [z_204, g_tg_arr, if_neg (fun y => by rw [y, f_205] at t_192; cases t_192)]; exact t_192
  have t_209 : st_tg σ_203 q_25 = some 302 := by rw [z_204, g_tg_arr, if_neg (fun y => by rw [y, f_205] at t_193; cases t_193)]; exact t_193
  have t_210 : st_tg σ_203 q_40 = some 301 := by rw [z_204, g_tg_arr, if_neg (fun y => by rw [y, f_205] at t_194; cases t_194)]; exact t_194
  have t_211 : st_tg σ_203 q_57 = some 301 := by rw [z_204, g_tg_arr, if_neg (fun y => by rw [y, f_205] at t_195; cases t_195)]; exact t_195
  have t_212 : st_tg σ_203 q_76 = some 301 := by rw [z_204, g_tg_arr, if_neg (fun y => by rw [y, f_205] at t_196; cases t_196)]; exact t_196
  have t_213 : st_tg σ_203 q_97 = some 301 := by rw [z_204, g_tg_arr, if_neg (fun y => by rw [y, f_205] at t_197; cases t_197)]; exact t_197
  have t_214 : st_tg σ_203 q_120 = some 301 := by rw [z_204, g_tg_arr, if_neg (fun y => by rw [y, f_205] at t_198; cases t_198)]; exact t_198
  have t_215 : st_tg σ_203 q_145 = some 302 := by rw [z_204, g_tg_arr, if_neg (fun y => by rw [y, f_205] at t_199; cases t_199)]; exact t_199
  have t_216 : st_tg σ_203 q_172 = some 303 := by rw [z_204, g_tg_arr, if_neg (fun y => by rw [y, f_205] at t_200; cases t_200)]; exact t_200
  have t_217 : st_tg σ_203 q_201 = some 302 := by rw [z_204, g_tg_arr, if_pos rfl]
  refine lv_dup hx hb d_M_init_98 (cat_rf _) ?_
  refine lv_iconst (v := 0) hx hb d_M_init_99 (by decide) ?_
  refine lv_ldc2 (v := 1000) hx hb hown (hts _ wd_415) d_M_init_100 ?_
  obtain ⟨b_218, h⟩ := h
  obtain ⟨σ_219, z_220⟩ : ∃ y : ST, y = st_uJ σ_203 q_201 (Int32.toNatClampNeg 0) 1000 := ⟨_, rfl⟩
  have h := h σ_219 z_220
  refine ms_last (σ := σ_203) (r := some q_201) (a := q_201) (x := 1000) hx hb hK hH hS rfl t_217 rfl (cell_302 t_217)  b_218 d_M_init_103 (σ1 := σ_219) (by rw [z_220]; exact uput_302 σ_203 q_201 _ 1000 t_217) (by rw [z_220]; rfl) (by rw [z_220]; rfl) (fun H locs hH hK hS => ?_)
  have t_221 : st_tg σ_219 q_1 = some 301 := by rw [z_220]; exact t_206
  have t_222 : st_tg σ_219 h0 = some 1 := by rw [z_220]; exact t_207
  have t_223 : st_tg σ_219 q_12 = some 302 := by rw [z_220]; exact t_208
  have t_224 : st_tg σ_219 q_25 = some 302 := by rw [z_220]; exact t_209
  have t_225 : st_tg σ_219 q_40 = some 301 := by rw [z_220]; exact t_210
  have t_226 : st_tg σ_219 q_57 = some 301 := by rw [z_220]; exact t_211
  have t_227 : st_tg σ_219 q_76 = some 301 := by rw [z_220]; exact t_212
  have t_228 : st_tg σ_219 q_97 = some 301 := by rw [z_220]; exact t_213
  have t_229 : st_tg σ_219 q_120 = some 301 := by rw [z_220]; exact t_214
  have t_230 : st_tg σ_219 q_145 = some 302 := by rw [z_220]; exact t_215
  have t_231 : st_tg σ_219 q_172 = some 303 := by rw [z_220]; exact t_216
  have t_232 : st_tg σ_219 q_201 = some 302 := by rw [z_220]; exact t_217
  refine lv_dup hx hb d_M_init_104 (cat_rf _) ?_
  refine lv_iconst (v := 1) hx hb d_M_init_105 (by decide) ?_
  refine lv_ldc2 (v := 1000) hx hb hown (hts _ wd_415) d_M_init_106 ?_
  obtain ⟨b_233, h⟩ := h
  obtain ⟨σ_234, z_235⟩ : ∃ y : ST, y = st_uJ σ_219 q_201 (Int32.toNatClampNeg 1) 1000 := ⟨_, rfl⟩
  have h := h σ_234 z_235
  refine ms_last (σ := σ_219) (r := some q_201) (a := q_201) (x := 1000) hx hb hK hH hS rfl t_232 rfl (cell_302 t_232)  b_233 d_M_init_109 (σ1 := σ_234) (by rw [z_235]; exact uput_302 σ_219 q_201 _ 1000 t_232) (by rw [z_235]; rfl) (by rw [z_235]; rfl) (fun H locs hH hK hS => ?_)
  have t_236 : st_tg σ_234 q_1 = some 301 := by rw [z_235]; exact t_221
  have t_237 : st_tg σ_234 h0 = some 1 := by rw [z_235]; exact t_222
  have t_238 : st_tg σ_234 q_12 = some 302 := by rw [z_235]; exact t_223
  have t_239 : st_tg σ_234 q_25 = some 302 := by rw [z_235]; exact t_224
  have t_240 : st_tg σ_234 q_40 = some 301 := by rw [z_235]; exact t_225
  have t_241 : st_tg σ_234 q_57 = some 301 := by rw [z_235]; exact t_226
  have t_242 : st_tg σ_234 q_76 = some 301 := by rw [z_235]; exact t_227
  have t_243 : st_tg σ_234 q_97 = some 301 := by rw [z_235]; exact t_228
  have t_244 : st_tg σ_234 q_120 = some 301 := by rw [z_235]; exact t_229
  have t_245 : st_tg σ_234 q_145 = some 302 := by rw [z_235]; exact t_230
  have t_246 : st_tg σ_234 q_172 = some 303 := by rw [z_235]; exact t_231
  have t_247 : st_tg σ_234 q_201 = some 302 := by rw [z_235]; exact t_232
  refine lv_dup hx hb d_M_init_110 (cat_rf _) ?_
  refine lv_iconst (v := 2) hx hb d_M_init_111 (by decide) ?_
  refine lv_ldc2 (v := 1000) hx hb hown (hts _ wd_415) d_M_init_112 ?_
  obtain ⟨b_248, h⟩ := h
  obtain ⟨σ_249, z_250⟩ : ∃ y : ST, y = st_uJ σ_234 q_201 (Int32.toNatClampNeg 2) 1000 := ⟨_, rfl⟩
  have h := h σ_249 z_250
  refine ms_last (σ := σ_234) (r := some q_201) (a := q_201) (x := 1000) hx hb hK hH hS rfl t_247 rfl (cell_302 t_247)  b_248 d_M_init_115 (σ1 := σ_249) (by rw [z_250]; exact uput_302 σ_234 q_201 _ 1000 t_247) (by rw [z_250]; rfl) (by rw [z_250]; rfl) (fun H locs hH hK hS => ?_)
  have t_251 : st_tg σ_249 q_1 = some 301 := by rw [z_250]; exact t_236
  have t_252 : st_tg σ_249 h0 = some 1 := by rw [z_250]; exact t_237
  have t_253 : st_tg σ_249 q_12 = some 302 := by rw [z_250]; exact t_238
  have t_254 : st_tg σ_249 q_25 = some 302 := by rw [z_250]; exact t_239
  have t_255 : st_tg σ_249 q_40 = some 301 := by rw [z_250]; exact t_240
  have t_256 : st_tg σ_249 q_57 = some 301 := by rw [z_250]; exact t_241
  have t_257 : st_tg σ_249 q_76 = some 301 := by rw [z_250]; exact t_242
  have t_258 : st_tg σ_249 q_97 = some 301 := by rw [z_250]; exact t_243
  have t_259 : st_tg σ_249 q_120 = some 301 := by rw [z_250]; exact t_244
  have t_260 : st_tg σ_249 q_145 = some 302 := by rw [z_250]; exact t_245
  have t_261 : st_tg σ_249 q_172 = some 303 := by rw [z_250]; exact t_246
  have t_262 : st_tg σ_249 q_201 = some 302 := by rw [z_250]; exact t_247
  refine lv_dup hx hb d_M_init_116 (cat_rf _) ?_
  refine lv_iconst (v := 3) hx hb d_M_init_117 (by decide) ?_
  refine lv_ldc2 (v := 1000) hx hb hown (hts _ wd_415) d_M_init_118 ?_
  obtain ⟨b_263, h⟩ := h
  obtain ⟨σ_264, z_265⟩ : ∃ y : ST, y = st_uJ σ_249 q_201 (Int32.toNatClampNeg 3) 1000 := ⟨_, rfl⟩
  have h := h σ_264 z_265
  refine ms_last (σ := σ_249) (r := some q_201) (a := q_201) (x := 1000) hx hb hK hH hS rfl t_262 rfl (cell_302 t_262)  b_263 d_M_init_121 (σ1 := σ_264) (by rw [z_265]; exact uput_302 σ_249 q_201 _ 1000 t_262) (by rw [z_265]; rfl) (by rw [z_265]; rfl) (fun H locs hH hK hS => ?_)
  have t_266 : st_tg σ_264 q_1 = some 301 := by rw [z_265]; exact t_251
  have t_267 : st_tg σ_264 h0 = some 1 := by rw [z_265]; exact t_252
  have t_268 : st_tg σ_264 q_12 = some 302 := by rw [z_265]; exact t_253
  have t_269 : st_tg σ_264 q_25 = some 302 := by rw [z_265]; exact t_254
  have t_270 : st_tg σ_264 q_40 = some 301 := by rw [z_265]; exact t_255
  have t_271 : st_tg σ_264 q_57 = some 301 := by rw [z_265]; exact t_256
  have t_272 : st_tg σ_264 q_76 = some 301 := by rw [z_265]; exact t_257
  have t_273 : st_tg σ_264 q_97 = some 301 := by rw [z_265]; exact t_258
  have t_274 : st_tg σ_264 q_120 = some 301 := by rw [z_265]; exact t_259
  have t_275 : st_tg σ_264 q_145 = some 302 := by rw [z_265]; exact t_260
  have t_276 : st_tg σ_264 q_172 = some 303 := by rw [z_265]; exact t_261
  have t_277 : st_tg σ_264 q_201 = some 302 := by rw [z_265]; exact t_262
  obtain ⟨σ_278, z_279⟩ : ∃ y : ST, y = st_sR σ_264 51 h0 (some q_201) := ⟨_, rfl⟩
  have h := h σ_278 z_279
  refine ms_putF (σ := σ_264) (r := some h0) (a := h0) (fs := fl_1 σ_264 h0) (ci := 1) (C := R_M) (T := T_M) (N := 32) (v := va_rf (some q_201)) (ty := (.array .long)) hx hb hts in_1 ty_M ty_M_ok nm_M hown hK hH hS rfl (cell_1 t_267) rfl 11 (by decide) (hts _ wd_428) (fun _ h9 => h9) rfl hin rfl (by decide +kernel) (nar_ra _ _) (fit_ra _ _) (Nat.le_of_ble_eq_true rfl) d_M_init_122 (σ1 := σ_278) (by rw [z_279]; exact put_1_11 σ_264 h0 (some q_201) t_267) (by rw [z_279]; rfl) (by rw [z_279]; rfl) (fun H locs hH hK hS => ?_)
  have t_280 : st_tg σ_278 q_1 = some 301 := by rw [z_279]; exact t_266
  have t_281 : st_tg σ_278 h0 = some 1 := by rw [z_279]; exact t_267
  have t_282 : st_tg σ_278 q_12 = some 302 := by rw [z_279]; exact t_268
  have t_283 : st_tg σ_278 q_25 = some 302 := by rw [z_279]; exact t_269
  have t_284 : st_tg σ_278 q_40 = some 301 := by rw [z_279]; exact t_270
  have t_285 : st_tg σ_278 q_57 = some 301 := by rw [z_279]; exact t_271
  have t_286 : st_tg σ_278 q_76 = some 301 := by rw [z_279]; exact t_272
  have t_287 : st_tg σ_278 q_97 = some 301 := by rw [z_279]; exact t_273
  have t_288 : st_tg σ_278 q_120 = some 301 := by rw [z_279]; exact t_274
  have t_289 : st_tg σ_278 q_145 = some 302 := by rw [z_279]; exact t_275
  have t_290 : st_tg σ_278 q_172 = some 303 := by rw [z_279]; exact t_276
  have t_291 : st_tg σ_278 q_201 = some 302 := by rw [z_279]; exact t_277
  refine mr_aload_n hx hb d_M_init_125 rfl (lv_at hl 0 rfl) ?_
  refine lv_bipush (v := 8) hx hb d_M_init_126 (by decide) ?_
  refine ms_newa (σ := σ_278) (atype := .long) (y := .inr (.inl (fun _ => 0))) hx hb (hts _ wd_66) rfl hK hH hS hA 302 rfl (n := 8) (N' := 8) (fun cA => rfl) (by decide) (by decide) (by decide) (by decide) (by decide) d_M_init_128 (fun q cA hq => anew_302 σ_278 q cA 8 hq) (fun q_292 C_293 H f_296 hH hK hS => ?_)
  obtain ⟨σ_294, z_295⟩ : ∃ y : ST, y = st_arr σ_278 q_292 302 C_293 8 := ⟨_, rfl⟩
  rw [← z_295] at hH hK
  have h := h q_292 C_293 f_296 σ_294 z_295
  have t_297 : st_tg σ_294 q_1 = some 301 := by rw [z_295, g_tg_arr, if_neg (fun y => by rw [y, f_296] at t_280; cases t_280)]; exact t_280
  have t_298 : st_tg σ_294 h0 = some 1 := by rw [z_295, g_tg_arr, if_neg (fun y => by rw [y, f_296] at t_281; cases t_281)]; exact t_281
  have t_299 : st_tg σ_294 q_12 = some 302 := by rw [z_295, g_tg_arr, if_neg (fun y => by rw [y, f_296] at t_282; cases t_282)]; exact t_282
  have t_300 : st_tg σ_294 q_25 = some 302 := by rw [z_295, g_tg_arr, if_neg (fun y => by rw [y, f_296] at t_283; cases t_283)]; exact t_283
  have t_301 : st_tg σ_294 q_40 = some 301 := by rw [z_295, g_tg_arr, if_neg (fun y => by rw [y, f_296] at t_284; cases t_284)]; exact t_284
  have t_302 : st_tg σ_294 q_57 = some 301 := by rw [z_295, g_tg_arr, if_neg (fun y => by rw [y, f_296] at t_285; cases t_285)]; exact t_285
  have t_303 : st_tg σ_294 q_76 = some 301 := by rw [z_295, g_tg_arr, if_neg (fun y => by rw [y, f_296] at t_286; cases t_286)]; exact t_286
  have t_304 : st_tg σ_294 q_97 = some 301 := by rw [z_295, g_tg_arr, if_neg (fun y => by rw [y, f_296] at t_287; cases t_287)]; exact t_287
  have t_305 : st_tg σ_294 q_120 = some 301 := by rw [z_295, g_tg_arr, if_neg (fun y => by rw [y, f_296] at t_288; cases t_288)]; exact t_288
  have t_306 : st_tg σ_294 q_145 = some 302 := by rw [z_295, g_tg_arr, if_neg (fun y => by rw [y, f_296] at t_289; cases t_289)]; exact t_289
  have t_307 : st_tg σ_294 q_172 = some 303 := by rw [z_295, g_tg_arr, if_neg (fun y => by rw [y, f_296] at t_290; cases t_290)]; exact t_290
  have t_308 : st_tg σ_294 q_201 = some 302 := by rw [z_295, g_tg_arr, if_neg (fun y => by rw [y, f_296] at t_291; cases t_291)]; exact t_291
  have t_309 : st_tg σ_294 q_292 = some 302 := by rw [z_295, g_tg_arr, if_pos rfl]
  obtain ⟨σ_310, z_311⟩ : ∃ y : ST, y = st_sR σ_294 52 h0 (some q_292) := ⟨_, rfl⟩
  have h := h σ_310 z_311
  refine ms_putF (σ := σ_294) (r := some h0) (a := h0) (fs := fl_1 σ_294 h0) (ci := 1) (C := R_M) (T := T_M) (N := 32) (v := va_rf (some q_292)) (ty := (.array .long)) hx hb hts in_1 ty_M ty_M_ok nm_M hown hK hH hS rfl (cell_1 t_298) rfl 12 (by decide) (hts _ wd_429) (fun _ h9 => h9) rfl hin rfl (by decide +kernel) (nar_ra _ _) (fit_ra _ _) (Nat.le_of_ble_eq_true rfl) d_M_init_130 (σ1 := σ_310) (by rw [z_311]; exact put_1_12 σ_294 h0 (some q_292) t_298) (by rw [z_311]; rfl) (by rw [z_311]; rfl) (fun H locs hH hK hS => ?_)
  have t_312 : st_tg σ_310 q_1 = some 301 := by rw [z_311]; exact t_297
  have t_313 : st_tg σ_310 h0 = some 1 := by rw [z_311]; exact t_298
  have t_314 : st_tg σ_310 q_12 = some 302 := by rw [z_311]; exact t_299
  have t_315 : st_tg σ_310 q_25 = some 302 := by rw [z_311]; exact t_300
  have t_316 : st_tg σ_310 q_40 = some 301 := by rw [z_311]; exact t_301
  have t_317 : st_tg σ_310 q_57 = some 301 := by rw [z_311]; exact t_302
  have t_318 : st_tg σ_310 q_76 = some 301 := by rw [z_311]; exact t_303
  have t_319 : st_tg σ_310 q_97 = some 301 := by rw [z_311]; exact t_304
  have t_320 : st_tg σ_310 q_120 = some 301 := by rw [z_311]; exact t_305
  have t_321 : st_tg σ_310 q_145 = some 302 := by rw [z_311]; exact t_306
  have t_322 : st_tg σ_310 q_172 = some 303 := by rw [z_311]; exact t_307
  have t_323 : st_tg σ_310 q_201 = some 302 := by rw [z_311]; exact t_308
  have t_324 : st_tg σ_310 q_292 = some 302 := by rw [z_311]; exact t_309
  refine mr_aload_n hx hb d_M_init_133 rfl (lv_at hl 0 rfl) ?_
  refine lv_bipush (v := 8) hx hb d_M_init_134 (by decide) ?_
  refine ms_newa (σ := σ_310) (atype := .long) (y := .inr (.inl (fun _ => 0))) hx hb (hts _ wd_66) rfl hK hH hS hA 302 rfl (n := 8) (N' := 8) (fun cA => rfl) (by decide) (by decide) (by decide) (by decide) (by decide) d_M_init_136 (fun q cA hq => anew_302 σ_310 q cA 8 hq) (fun q_325 C_326 H f_329 hH hK hS => ?_)
  obtain ⟨σ_327, z_328⟩ : ∃ y : ST, y = st_arr σ_310 q_325 302 C_326 8 := ⟨_, rfl⟩
  rw [← z_328] at hH hK
  have h := h q_325 C_326 f_329 σ_327 z_328
  have t_330 : st_tg σ_327 q_1 = some 301 := by rw [z_328, g_tg_arr, if_neg (fun y => by rw [y, f_329] at t_312; cases t_312)]; exact t_312
  have t_331 : st_tg σ_327 h0 = some 1 := by rw [z_328, g_tg_arr, if_neg (fun y => by rw [y, f_329] at t_313; cases t_313)]; exact t_313
  have t_332 : st_tg σ_327 q_12 = some 302 := by rw [z_328, g_tg_arr, if_neg (fun y => by rw [y, f_329] at t_314; cases t_314)]; exact t_314
  have t_333 : st_tg σ_327 q_25 = some 302 := by rw [z_328, g_tg_arr, if_neg (fun y => by rw [y, f_329] at t_315; cases t_315)]; exact t_315
  have t_334 : st_tg σ_327 q_40 = some 301 := by rw [z_328, g_tg_arr, if_neg (fun y => by rw [y, f_329] at t_316; cases t_316)]; exact t_316
  have t_335 : st_tg σ_327 q_57 = some 301 := by rw [z_328, g_tg_arr, if_neg (fun y => by rw [y, f_329] at t_317; cases t_317)]; exact t_317
  have t_336 : st_tg σ_327 q_76 = some 301 := by rw [z_328, g_tg_arr, if_neg (fun y => by rw [y, f_329] at t_318; cases t_318)]; exact t_318
  have t_337 : st_tg σ_327 q_97 = some 301 := by rw [z_328, g_tg_arr, if_neg (fun y => by rw [y, f_329] at t_319; cases t_319)]; exact t_319
  have t_338 : st_tg σ_327 q_120 = some 301 := by rw [z_328, g_tg_arr, if_neg (fun y => by rw [y, f_329] at t_320; cases t_320)]; exact t_320
  have t_339 : st_tg σ_327 q_145 = some 302 := by rw [z_328, g_tg_arr, if_neg (fun y => by rw [y, f_329] at t_321; cases t_321)]; exact t_321
  have t_340 : st_tg σ_327 q_172 = some 303 := by rw [z_328, g_tg_arr, if_neg (fun y => by rw [y, f_329] at t_322; cases t_322)]; exact t_322
  have t_341 : st_tg σ_327 q_201 = some 302 := by rw [z_328, g_tg_arr, if_neg (fun y => by rw [y, f_329] at t_323; cases t_323)]; exact t_323
  have t_342 : st_tg σ_327 q_292 = some 302 := by rw [z_328, g_tg_arr, if_neg (fun y => by rw [y, f_329] at t_324; cases t_324)]; exact t_324
  have t_343 : st_tg σ_327 q_325 = some 302 := by rw [z_328, g_tg_arr, if_pos rfl]
  refine lv_dup hx hb d_M_init_138 (cat_rf _) ?_
  refine lv_iconst (v := 0) hx hb d_M_init_139 (by decide) ?_
  refine lv_ldc2 (v := (-1)) hx hb hown (hts _ wd_416) d_M_init_140 ?_
  obtain ⟨b_344, h⟩ := h
  obtain ⟨σ_345, z_346⟩ : ∃ y : ST, y = st_uJ σ_327 q_325 (Int32.toNatClampNeg 0) ((-1)) := ⟨_, rfl⟩
  have h := h σ_345 z_346
  refine ms_last (σ := σ_327) (r := some q_325) (a := q_325) (x := (-1)) hx hb hK hH hS rfl t_343 rfl (cell_302 t_343)  b_344 d_M_init_143 (σ1 := σ_345) (by rw [z_346]; exact uput_302 σ_327 q_325 _ ((-1)) t_343) (by rw [z_346]; rfl) (by rw [z_346]; rfl) (fun H locs hH hK hS => ?_)
  have t_347 : st_tg σ_345 q_1 = some 301 := by rw [z_346]; exact t_330
  have t_348 : st_tg σ_345 h0 = some 1 := by rw [z_346]; exact t_331
  have t_349 : st_tg σ_345 q_12 = some 302 := by rw [z_346]; exact t_332
  have t_350 : st_tg σ_345 q_25 = some 302 := by rw [z_346]; exact t_333
  have t_351 : st_tg σ_345 q_40 = some 301 := by rw [z_346]; exact t_334
  have t_352 : st_tg σ_345 q_57 = some 301 := by rw [z_346]; exact t_335
  have t_353 : st_tg σ_345 q_76 = some 301 := by rw [z_346]; exact t_336
  have t_354 : st_tg σ_345 q_97 = some 301 := by rw [z_346]; exact t_337
  have t_355 : st_tg σ_345 q_120 = some 301 := by rw [z_346]; exact t_338
  have t_356 : st_tg σ_345 q_145 = some 302 := by rw [z_346]; exact t_339
  have t_357 : st_tg σ_345 q_172 = some 303 := by rw [z_346]; exact t_340
  have t_358 : st_tg σ_345 q_201 = some 302 := by rw [z_346]; exact t_341
  have t_359 : st_tg σ_345 q_292 = some 302 := by rw [z_346]; exact t_342
  have t_360 : st_tg σ_345 q_325 = some 302 := by rw [z_346]; exact t_343
  refine lv_dup hx hb d_M_init_144 (cat_rf _) ?_
  refine lv_iconst (v := 1) hx hb d_M_init_145 (by decide) ?_
  refine lv_ldc2 (v := (-1)) hx hb hown (hts _ wd_416) d_M_init_146 ?_
  obtain ⟨b_361, h⟩ := h
  obtain ⟨σ_362, z_363⟩ : ∃ y : ST, y = st_uJ σ_345 q_325 (Int32.toNatClampNeg 1) ((-1)) := ⟨_, rfl⟩
  have h := h σ_362 z_363
  refine ms_last (σ := σ_345) (r := some q_325) (a := q_325) (x := (-1)) hx hb hK hH hS rfl t_360 rfl (cell_302 t_360)  b_361 d_M_init_149 (σ1 := σ_362) (by rw [z_363]; exact uput_302 σ_345 q_325 _ ((-1)) t_360) (by rw [z_363]; rfl) (by rw [z_363]; rfl) (fun H locs hH hK hS => ?_)
  have t_364 : st_tg σ_362 q_1 = some 301 := by rw [z_363]; exact t_347
  have t_365 : st_tg σ_362 h0 = some 1 := by rw [z_363]; exact t_348
  have t_366 : st_tg σ_362 q_12 = some 302 := by rw [z_363]; exact t_349
  have t_367 : st_tg σ_362 q_25 = some 302 := by rw [z_363]; exact t_350
  have t_368 : st_tg σ_362 q_40 = some 301 := by rw [z_363]; exact t_351
  have t_369 : st_tg σ_362 q_57 = some 301 := by rw [z_363]; exact t_352
  have t_370 : st_tg σ_362 q_76 = some 301 := by rw [z_363]; exact t_353
  have t_371 : st_tg σ_362 q_97 = some 301 := by rw [z_363]; exact t_354
  have t_372 : st_tg σ_362 q_120 = some 301 := by rw [z_363]; exact t_355
  have t_373 : st_tg σ_362 q_145 = some 302 := by rw [z_363]; exact t_356
  have t_374 : st_tg σ_362 q_172 = some 303 := by rw [z_363]; exact t_357
  have t_375 : st_tg σ_362 q_201 = some 302 := by rw [z_363]; exact t_358
  have t_376 : st_tg σ_362 q_292 = some 302 := by rw [z_363]; exact t_359
  have t_377 : st_tg σ_362 q_325 = some 302 := by rw [z_363]; exact t_360
  refine lv_dup hx hb d_M_init_150 (cat_rf _) ?_
  refine lv_iconst (v := 2) hx hb d_M_init_151 (by decide) ?_
  refine lv_ldc2 (v := (-1)) hx hb hown (hts _ wd_416) d_M_init_152 ?_
  obtain ⟨b_378, h⟩ := h
  obtain ⟨σ_379, z_380⟩ : ∃ y : ST, y = st_uJ σ_362 q_325 (Int32.toNatClampNeg 2) ((-1)) := ⟨_, rfl⟩
  have h := h σ_379 z_380
  refine ms_last (σ := σ_362) (r := some q_325) (a := q_325) (x := (-1)) hx hb hK hH hS rfl t_377 rfl (cell_302 t_377)  b_378 d_M_init_155 (σ1 := σ_379) (by rw [z_380]; exact uput_302 σ_362 q_325 _ ((-1)) t_377) (by rw [z_380]; rfl) (by rw [z_380]; rfl) (fun H locs hH hK hS => ?_)
  have t_381 : st_tg σ_379 q_1 = some 301 := by rw [z_380]; exact t_364
  have t_382 : st_tg σ_379 h0 = some 1 := by rw [z_380]; exact t_365
  have t_383 : st_tg σ_379 q_12 = some 302 := by rw [z_380]; exact t_366
  have t_384 : st_tg σ_379 q_25 = some 302 := by rw [z_380]; exact t_367
  have t_385 : st_tg σ_379 q_40 = some 301 := by rw [z_380]; exact t_368
  have t_386 : st_tg σ_379 q_57 = some 301 := by rw [z_380]; exact t_369
  have t_387 : st_tg σ_379 q_76 = some 301 := by rw [z_380]; exact t_370
  have t_388 : st_tg σ_379 q_97 = some 301 := by rw [z_380]; exact t_371
  have t_389 : st_tg σ_379 q_120 = some 301 := by rw [z_380]; exact t_372
  have t_390 : st_tg σ_379 q_145 = some 302 := by rw [z_380]; exact t_373
  have t_391 : st_tg σ_379 q_172 = some 303 := by rw [z_380]; exact t_374
  have t_392 : st_tg σ_379 q_201 = some 302 := by rw [z_380]; exact t_375
  have t_393 : st_tg σ_379 q_292 = some 302 := by rw [z_380]; exact t_376
  have t_394 : st_tg σ_379 q_325 = some 302 := by rw [z_380]; exact t_377
  refine lv_dup hx hb d_M_init_156 (cat_rf _) ?_
  refine lv_iconst (v := 3) hx hb d_M_init_157 (by decide) ?_
  refine lv_ldc2 (v := (-1)) hx hb hown (hts _ wd_416) d_M_init_158 ?_
  obtain ⟨b_395, h⟩ := h
  obtain ⟨σ_396, z_397⟩ : ∃ y : ST, y = st_uJ σ_379 q_325 (Int32.toNatClampNeg 3) ((-1)) := ⟨_, rfl⟩
  have h := h σ_396 z_397
  refine ms_last (σ := σ_379) (r := some q_325) (a := q_325) (x := (-1)) hx hb hK hH hS rfl t_394 rfl (cell_302 t_394)  b_395 d_M_init_161 (σ1 := σ_396) (by rw [z_397]; exact uput_302 σ_379 q_325 _ ((-1)) t_394) (by rw [z_397]; rfl) (by rw [z_397]; rfl) (fun H locs hH hK hS => ?_)
  have t_398 : st_tg σ_396 q_1 = some 301 := by rw [z_397]; exact t_381
  have t_399 : st_tg σ_396 h0 = some 1 := by rw [z_397]; exact t_382
  have t_400 : st_tg σ_396 q_12 = some 302 := by rw [z_397]; exact t_383
  have t_401 : st_tg σ_396 q_25 = some 302 := by rw [z_397]; exact t_384
  have t_402 : st_tg σ_396 q_40 = some 301 := by rw [z_397]; exact t_385
  have t_403 : st_tg σ_396 q_57 = some 301 := by rw [z_397]; exact t_386
  have t_404 : st_tg σ_396 q_76 = some 301 := by rw [z_397]; exact t_387
  have t_405 : st_tg σ_396 q_97 = some 301 := by rw [z_397]; exact t_388
  have t_406 : st_tg σ_396 q_120 = some 301 := by rw [z_397]; exact t_389
  have t_407 : st_tg σ_396 q_145 = some 302 := by rw [z_397]; exact t_390
  have t_408 : st_tg σ_396 q_172 = some 303 := by rw [z_397]; exact t_391
  have t_409 : st_tg σ_396 q_201 = some 302 := by rw [z_397]; exact t_392
  have t_410 : st_tg σ_396 q_292 = some 302 := by rw [z_397]; exact t_393
  have t_411 : st_tg σ_396 q_325 = some 302 := by rw [z_397]; exact t_394
  refine lv_dup hx hb d_M_init_162 (cat_rf _) ?_
  refine lv_iconst (v := 4) hx hb d_M_init_163 (by decide) ?_
  refine lv_ldc2 (v := (-1)) hx hb hown (hts _ wd_416) d_M_init_164 ?_
  obtain ⟨b_412, h⟩ := h
  obtain ⟨σ_413, z_414⟩ : ∃ y : ST, y = st_uJ σ_396 q_325 (Int32.toNatClampNeg 4) ((-1)) := ⟨_, rfl⟩
  have h := h σ_413 z_414
  refine ms_last (σ := σ_396) (r := some q_325) (a := q_325) (x := (-1)) hx hb hK hH hS rfl t_411 rfl (cell_302 t_411)  b_412 d_M_init_167 (σ1 := σ_413) (by rw [z_414]; exact uput_302 σ_396 q_325 _ ((-1)) t_411) (by rw [z_414]; rfl) (by rw [z_414]; rfl) (fun H locs hH hK hS => ?_)
  have t_415 : st_tg σ_413 q_1 = some 301 := by rw [z_414]; exact t_398
  have t_416 : st_tg σ_413 h0 = some 1 := by rw [z_414]; exact t_399
  have t_417 : st_tg σ_413 q_12 = some 302 := by rw [z_414]; exact t_400
  have t_418 : st_tg σ_413 q_25 = some 302 := by rw [z_414]; exact t_401
  have t_419 : st_tg σ_413 q_40 = some 301 := by rw [z_414]; exact t_402
  have t_420 : st_tg σ_413 q_57 = some 301 := by rw [z_414]; exact t_403
  have t_421 : st_tg σ_413 q_76 = some 301 := by rw [z_414]; exact t_404
  have t_422 : st_tg σ_413 q_97 = some 301 := by rw [z_414]; exact t_405
  have t_423 : st_tg σ_413 q_120 = some 301 := by rw [z_414]; exact t_406
  have t_424 : st_tg σ_413 q_145 = some 302 := by rw [z_414]; exact t_407
  have t_425 : st_tg σ_413 q_172 = some 303 := by rw [z_414]; exact t_408
  have t_426 : st_tg σ_413 q_201 = some 302 := by rw [z_414]; exact t_409
  have t_427 : st_tg σ_413 q_292 = some 302 := by rw [z_414]; exact t_410
  have t_428 : st_tg σ_413 q_325 = some 302 := by rw [z_414]; exact t_411
  refine lv_dup hx hb d_M_init_168 (cat_rf _) ?_
  refine lv_iconst (v := 5) hx hb d_M_init_169 (by decide) ?_
  refine lv_ldc2 (v := (-1)) hx hb hown (hts _ wd_416) d_M_init_170 ?_
  obtain ⟨b_429, h⟩ := h
  obtain ⟨σ_430, z_431⟩ : ∃ y : ST, y = st_uJ σ_413 q_325 (Int32.toNatClampNeg 5) ((-1)) := ⟨_, rfl⟩
  have h := h σ_430 z_431
  refine ms_last (σ := σ_413) (r := some q_325) (a := q_325) (x := (-1)) hx hb hK hH hS rfl t_428 rfl (cell_302 t_428)  b_429 d_M_init_173 (σ1 := σ_430) (by rw [z_431]; exact uput_302 σ_413 q_325 _ ((-1)) t_428) (by rw [z_431]; rfl) (by rw [z_431]; rfl) (fun H locs hH hK hS => ?_)
  have t_432 : st_tg σ_430 q_1 = some 301 := by rw [z_431]; exact t_415
  have t_433 : st_tg σ_430 h0 = some 1 := by rw [z_431]; exact t_416
  have t_434 : st_tg σ_430 q_12 = some 302 := by rw [z_431]; exact t_417
  have t_435 : st_tg σ_430 q_25 = some 302 := by rw [z_431]; exact t_418
  have t_436 : st_tg σ_430 q_40 = some 301 := by rw [z_431]; exact t_419
  have t_437 : st_tg σ_430 q_57 = some 301 := by rw [z_431]; exact t_420
  have t_438 : st_tg σ_430 q_76 = some 301 := by rw [z_431]; exact t_421
  have t_439 : st_tg σ_430 q_97 = some 301 := by rw [z_431]; exact t_422
  have t_440 : st_tg σ_430 q_120 = some 301 := by rw [z_431]; exact t_423
  have t_441 : st_tg σ_430 q_145 = some 302 := by rw [z_431]; exact t_424
  have t_442 : st_tg σ_430 q_172 = some 303 := by rw [z_431]; exact t_425
  have t_443 : st_tg σ_430 q_201 = some 302 := by rw [z_431]; exact t_426
  have t_444 : st_tg σ_430 q_292 = some 302 := by rw [z_431]; exact t_427
  have t_445 : st_tg σ_430 q_325 = some 302 := by rw [z_431]; exact t_428
  refine lv_dup hx hb d_M_init_174 (cat_rf _) ?_
  refine lv_bipush (v := 6) hx hb d_M_init_175 (by decide) ?_
  refine lv_ldc2 (v := (-1)) hx hb hown (hts _ wd_416) d_M_init_177 ?_
  obtain ⟨b_446, h⟩ := h
  obtain ⟨σ_447, z_448⟩ : ∃ y : ST, y = st_uJ σ_430 q_325 (Int32.toNatClampNeg 6) ((-1)) := ⟨_, rfl⟩
  have h := h σ_447 z_448
  refine ms_last (σ := σ_430) (r := some q_325) (a := q_325) (x := (-1)) hx hb hK hH hS rfl t_445 rfl (cell_302 t_445)  b_446 d_M_init_180 (σ1 := σ_447) (by rw [z_448]; exact uput_302 σ_430 q_325 _ ((-1)) t_445) (by rw [z_448]; rfl) (by rw [z_448]; rfl) (fun H locs hH hK hS => ?_)
  have t_449 : st_tg σ_447 q_1 = some 301 := by rw [z_448]; exact t_432
  have t_450 : st_tg σ_447 h0 = some 1 := by rw [z_448]; exact t_433
  have t_451 : st_tg σ_447 q_12 = some 302 := by rw [z_448]; exact t_434
  have t_452 : st_tg σ_447 q_25 = some 302 := by rw [z_448]; exact t_435
  have t_453 : st_tg σ_447 q_40 = some 301 := by rw [z_448]; exact t_436
  have t_454 : st_tg σ_447 q_57 = some 301 := by rw [z_448]; exact t_437
  have t_455 : st_tg σ_447 q_76 = some 301 := by rw [z_448]; exact t_438
  have t_456 : st_tg σ_447 q_97 = some 301 := by rw [z_448]; exact t_439
  have t_457 : st_tg σ_447 q_120 = some 301 := by rw [z_448]; exact t_440
  have t_458 : st_tg σ_447 q_145 = some 302 := by rw [z_448]; exact t_441
  have t_459 : st_tg σ_447 q_172 = some 303 := by rw [z_448]; exact t_442
  have t_460 : st_tg σ_447 q_201 = some 302 := by rw [z_448]; exact t_443
  have t_461 : st_tg σ_447 q_292 = some 302 := by rw [z_448]; exact t_444
  have t_462 : st_tg σ_447 q_325 = some 302 := by rw [z_448]; exact t_445
  refine lv_dup hx hb d_M_init_181 (cat_rf _) ?_
  refine lv_bipush (v := 7) hx hb d_M_init_182 (by decide) ?_
  refine lv_ldc2 (v := (-1)) hx hb hown (hts _ wd_416) d_M_init_184 ?_
  obtain ⟨b_463, h⟩ := h
  obtain ⟨σ_464, z_465⟩ : ∃ y : ST, y = st_uJ σ_447 q_325 (Int32.toNatClampNeg 7) ((-1)) := ⟨_, rfl⟩
  have h := h σ_464 z_465
  refine ms_last (σ := σ_447) (r := some q_325) (a := q_325) (x := (-1)) hx hb hK hH hS rfl t_462 rfl (cell_302 t_462)  b_463 d_M_init_187 (σ1 := σ_464) (by rw [z_465]; exact uput_302 σ_447 q_325 _ ((-1)) t_462) (by rw [z_465]; rfl) (by rw [z_465]; rfl) (fun H locs hH hK hS => ?_)
  have t_466 : st_tg σ_464 q_1 = some 301 := by rw [z_465]; exact t_449
  have t_467 : st_tg σ_464 h0 = some 1 := by rw [z_465]; exact t_450
  have t_468 : st_tg σ_464 q_12 = some 302 := by rw [z_465]; exact t_451
  have t_469 : st_tg σ_464 q_25 = some 302 := by rw [z_465]; exact t_452
  have t_470 : st_tg σ_464 q_40 = some 301 := by rw [z_465]; exact t_453
  have t_471 : st_tg σ_464 q_57 = some 301 := by rw [z_465]; exact t_454
  have t_472 : st_tg σ_464 q_76 = some 301 := by rw [z_465]; exact t_455
  have t_473 : st_tg σ_464 q_97 = some 301 := by rw [z_465]; exact t_456
  have t_474 : st_tg σ_464 q_120 = some 301 := by rw [z_465]; exact t_457
  have t_475 : st_tg σ_464 q_145 = some 302 := by rw [z_465]; exact t_458
  have t_476 : st_tg σ_464 q_172 = some 303 := by rw [z_465]; exact t_459
  have t_477 : st_tg σ_464 q_201 = some 302 := by rw [z_465]; exact t_460
  have t_478 : st_tg σ_464 q_292 = some 302 := by rw [z_465]; exact t_461
  have t_479 : st_tg σ_464 q_325 = some 302 := by rw [z_465]; exact t_462
  obtain ⟨σ_480, z_481⟩ : ∃ y : ST, y = st_sR σ_464 53 h0 (some q_325) := ⟨_, rfl⟩
  have h := h σ_480 z_481
  refine ms_putF (σ := σ_464) (r := some h0) (a := h0) (fs := fl_1 σ_464 h0) (ci := 1) (C := R_M) (T := T_M) (N := 32) (v := va_rf (some q_325)) (ty := (.array .long)) hx hb hts in_1 ty_M ty_M_ok nm_M hown hK hH hS rfl (cell_1 t_467) rfl 13 (by decide) (hts _ wd_430) (fun _ h9 => h9) rfl hin rfl (by decide +kernel) (nar_ra _ _) (fit_ra _ _) (Nat.le_of_ble_eq_true rfl) d_M_init_188 (σ1 := σ_480) (by rw [z_481]; exact put_1_13 σ_464 h0 (some q_325) t_467) (by rw [z_481]; rfl) (by rw [z_481]; rfl) (fun H locs hH hK hS => ?_)
  have t_482 : st_tg σ_480 q_1 = some 301 := by rw [z_481]; exact t_466
  have t_483 : st_tg σ_480 h0 = some 1 := by rw [z_481]; exact t_467
  have t_484 : st_tg σ_480 q_12 = some 302 := by rw [z_481]; exact t_468
  have t_485 : st_tg σ_480 q_25 = some 302 := by rw [z_481]; exact t_469
  have t_486 : st_tg σ_480 q_40 = some 301 := by rw [z_481]; exact t_470
  have t_487 : st_tg σ_480 q_57 = some 301 := by rw [z_481]; exact t_471
  have t_488 : st_tg σ_480 q_76 = some 301 := by rw [z_481]; exact t_472
  have t_489 : st_tg σ_480 q_97 = some 301 := by rw [z_481]; exact t_473
  have t_490 : st_tg σ_480 q_120 = some 301 := by rw [z_481]; exact t_474
  have t_491 : st_tg σ_480 q_145 = some 302 := by rw [z_481]; exact t_475
  have t_492 : st_tg σ_480 q_172 = some 303 := by rw [z_481]; exact t_476
  have t_493 : st_tg σ_480 q_201 = some 302 := by rw [z_481]; exact t_477
  have t_494 : st_tg σ_480 q_292 = some 302 := by rw [z_481]; exact t_478
  have t_495 : st_tg σ_480 q_325 = some 302 := by rw [z_481]; exact t_479
  refine mr_aload_n hx hb d_M_init_191 rfl (lv_at hl 0 rfl) ?_
  refine lv_bipush (v := 8) hx hb d_M_init_192 (by decide) ?_
  refine ms_newa (σ := σ_480) (atype := .boolean) (y := .inl (fun _ => 0)) hx hb (hts _ wd_515) rfl hK hH hS hA 303 rfl (n := 8) (N' := 8) (fun cA => rfl) (by decide) (by decide) (by decide) (by decide) (by decide) d_M_init_194 (fun q cA hq => anew_303 σ_480 q cA 8 hq) (fun q_496 C_497 H f_500 hH hK hS => ?_)
  obtain ⟨σ_498, z_499⟩ : ∃ y : ST, y = st_arr σ_480 q_496 303 C_497 8 := ⟨_, rfl⟩
  rw [← z_499] at hH hK
  have h := h q_496 C_497 f_500 σ_498 z_499
  have t_501 : st_tg σ_498 q_1 = some 301 := by rw [z_499, g_tg_arr, if_neg (fun y => by rw [y, f_500] at t_482; cases t_482)]; exact t_482
  have t_502 : st_tg σ_498 h0 = some 1 := by rw [z_499, g_tg_arr, if_neg (fun y => by rw [y, f_500] at t_483; cases t_483)]; exact t_483
  have t_503 : st_tg σ_498 q_12 = some 302 := by rw [z_499, g_tg_arr, if_neg (fun y => by rw [y, f_500] at t_484; cases t_484)]; exact t_484
  have t_504 : st_tg σ_498 q_25 = some 302 := by rw [z_499, g_tg_arr, if_neg (fun y => by rw [y, f_500] at t_485; cases t_485)]; exact t_485
  have t_505 : st_tg σ_498 q_40 = some 301 := by rw [z_499, g_tg_arr, if_neg (fun y => by rw [y, f_500] at t_486; cases t_486)]; exact t_486
  have t_506 : st_tg σ_498 q_57 = some 301 := by rw [z_499, g_tg_arr, if_neg (fun y => by rw [y, f_500] at t_487; cases t_487)]; exact t_487
  have t_507 : st_tg σ_498 q_76 = some 301 := by rw [z_499, g_tg_arr, if_neg (fun y => by rw [y, f_500] at t_488; cases t_488)]; exact t_488
  have t_508 : st_tg σ_498 q_97 = some 301 := by rw [z_499, g_tg_arr, if_neg (fun y => by rw [y, f_500] at t_489; cases t_489)]; exact t_489
  have t_509 : st_tg σ_498 q_120 = some 301 := by rw [z_499, g_tg_arr, if_neg (fun y => by rw [y, f_500] at t_490; cases t_490)]; exact t_490
  have t_510 : st_tg σ_498 q_145 = some 302 := by rw [z_499, g_tg_arr, if_neg (fun y => by rw [y, f_500] at t_491; cases t_491)]; exact t_491
  have t_511 : st_tg σ_498 q_172 = some 303 := by rw [z_499, g_tg_arr, if_neg (fun y => by rw [y, f_500] at t_492; cases t_492)]; exact t_492
  have t_512 : st_tg σ_498 q_201 = some 302 := by rw [z_499, g_tg_arr, if_neg (fun y => by rw [y, f_500] at t_493; cases t_493)]; exact t_493
  have t_513 : st_tg σ_498 q_292 = some 302 := by rw [z_499, g_tg_arr, if_neg (fun y => by rw [y, f_500] at t_494; cases t_494)]; exact t_494
  have t_514 : st_tg σ_498 q_325 = some 302 := by rw [z_499, g_tg_arr, if_neg (fun y => by rw [y, f_500] at t_495; cases t_495)]; exact t_495
  have t_515 : st_tg σ_498 q_496 = some 303 := by rw [z_499, g_tg_arr, if_pos rfl]
  obtain ⟨σ_516, z_517⟩ : ∃ y : ST, y = st_sR σ_498 54 h0 (some q_496) := ⟨_, rfl⟩
  have h := h σ_516 z_517
  refine ms_putF (σ := σ_498) (r := some h0) (a := h0) (fs := fl_1 σ_498 h0) (ci := 1) (C := R_M) (T := T_M) (N := 32) (v := va_rf (some q_496)) (ty := (.array .boolean)) hx hb hts in_1 ty_M ty_M_ok nm_M hown hK hH hS rfl (cell_1 t_502) rfl 14 (by decide) (hts _ wd_431) (fun _ h9 => h9) rfl hin rfl (by decide +kernel) (nar_ra _ _) (fit_ra _ _) (Nat.le_of_ble_eq_true rfl) d_M_init_196 (σ1 := σ_516) (by rw [z_517]; exact put_1_14 σ_498 h0 (some q_496) t_502) (by rw [z_517]; rfl) (by rw [z_517]; rfl) (fun H locs hH hK hS => ?_)
  have t_518 : st_tg σ_516 q_1 = some 301 := by rw [z_517]; exact t_501
  have t_519 : st_tg σ_516 h0 = some 1 := by rw [z_517]; exact t_502
  have t_520 : st_tg σ_516 q_12 = some 302 := by rw [z_517]; exact t_503
  have t_521 : st_tg σ_516 q_25 = some 302 := by rw [z_517]; exact t_504
  have t_522 : st_tg σ_516 q_40 = some 301 := by rw [z_517]; exact t_505
  have t_523 : st_tg σ_516 q_57 = some 301 := by rw [z_517]; exact t_506
  have t_524 : st_tg σ_516 q_76 = some 301 := by rw [z_517]; exact t_507
  have t_525 : st_tg σ_516 q_97 = some 301 := by rw [z_517]; exact t_508
  have t_526 : st_tg σ_516 q_120 = some 301 := by rw [z_517]; exact t_509
  have t_527 : st_tg σ_516 q_145 = some 302 := by rw [z_517]; exact t_510
  have t_528 : st_tg σ_516 q_172 = some 303 := by rw [z_517]; exact t_511
  have t_529 : st_tg σ_516 q_201 = some 302 := by rw [z_517]; exact t_512
  have t_530 : st_tg σ_516 q_292 = some 302 := by rw [z_517]; exact t_513
  have t_531 : st_tg σ_516 q_325 = some 302 := by rw [z_517]; exact t_514
  have t_532 : st_tg σ_516 q_496 = some 303 := by rw [z_517]; exact t_515
  refine mr_aload_n hx hb d_M_init_199 rfl (lv_at hl 0 rfl) ?_
  refine lv_bipush (v := 8) hx hb d_M_init_200 (by decide) ?_
  refine ms_newa (σ := σ_516) (atype := .int) (y := .inl (fun _ => 0)) hx hb (hts _ wd_514) rfl hK hH hS hA 301 rfl (n := 8) (N' := 8) (fun cA => rfl) (by decide) (by decide) (by decide) (by decide) (by decide) d_M_init_202 (fun q cA hq => anew_301 σ_516 q cA 8 hq) (fun q_533 C_534 H f_537 hH hK hS => ?_)
  obtain ⟨σ_535, z_536⟩ : ∃ y : ST, y = st_arr σ_516 q_533 301 C_534 8 := ⟨_, rfl⟩
  rw [← z_536] at hH hK
  have h := h q_533 C_534 f_537 σ_535 z_536
  have t_538 : st_tg σ_535 q_1 = some 301 := by rw [z_536, g_tg_arr, if_neg (fun y => by rw [y, f_537] at t_518; cases t_518)]; exact t_518
  have t_539 : st_tg σ_535 h0 = some 1 := by rw [z_536, g_tg_arr, if_neg (fun y => by rw [y, f_537] at t_519; cases t_519)]; exact t_519
  have t_540 : st_tg σ_535 q_12 = some 302 := by rw [z_536, g_tg_arr, if_neg (fun y => by rw [y, f_537] at t_520; cases t_520)]; exact t_520
  have t_541 : st_tg σ_535 q_25 = some 302 := by rw [z_536, g_tg_arr, if_neg (fun y => by rw [y, f_537] at t_521; cases t_521)]; exact t_521
  have t_542 : st_tg σ_535 q_40 = some 301 := by rw [z_536, g_tg_arr, if_neg (fun y => by rw [y, f_537] at t_522; cases t_522)]; exact t_522
  have t_543 : st_tg σ_535 q_57 = some 301 := by rw [z_536, g_tg_arr, if_neg (fun y => by rw [y, f_537] at t_523; cases t_523)]; exact t_523
  have t_544 : st_tg σ_535 q_76 = some 301 := by rw [z_536, g_tg_arr, if_neg (fun y => by rw [y, f_537] at t_524; cases t_524)]; exact t_524
  have t_545 : st_tg σ_535 q_97 = some 301 := by rw [z_536, g_tg_arr, if_neg (fun y => by rw [y, f_537] at t_525; cases t_525)]; exact t_525
  have t_546 : st_tg σ_535 q_120 = some 301 := by rw [z_536, g_tg_arr, if_neg (fun y => by rw [y, f_537] at t_526; cases t_526)]; exact t_526
  have t_547 : st_tg σ_535 q_145 = some 302 := by rw [z_536, g_tg_arr, if_neg (fun y => by rw [y, f_537] at t_527; cases t_527)]; exact t_527
  have t_548 : st_tg σ_535 q_172 = some 303 := by rw [z_536, g_tg_arr, if_neg (fun y => by rw [y, f_537] at t_528; cases t_528)]; exact t_528
  have t_549 : st_tg σ_535 q_201 = some 302 := by rw [z_536, g_tg_arr, if_neg (fun y => by rw [y, f_537] at t_529; cases t_529)]; exact t_529
  have t_550 : st_tg σ_535 q_292 = some 302 := by rw [z_536, g_tg_arr, if_neg (fun y => by rw [y, f_537] at t_530; cases t_530)]; exact t_530
  have t_551 : st_tg σ_535 q_325 = some 302 := by rw [z_536, g_tg_arr, if_neg (fun y => by rw [y, f_537] at t_531; cases t_531)]; exact t_531
  have t_552 : st_tg σ_535 q_496 = some 303 := by rw [z_536, g_tg_arr, if_neg (fun y => by rw [y, f_537] at t_532; cases t_532)]; exact t_532
  have t_553 : st_tg σ_535 q_533 = some 301 := by rw [z_536, g_tg_arr, if_pos rfl]
  obtain ⟨σ_554, z_555⟩ : ∃ y : ST, y = st_sR σ_535 55 h0 (some q_533) := ⟨_, rfl⟩
  have h := h σ_554 z_555
  refine ms_putF (σ := σ_535) (r := some h0) (a := h0) (fs := fl_1 σ_535 h0) (ci := 1) (C := R_M) (T := T_M) (N := 32) (v := va_rf (some q_533)) (ty := (.array .int)) hx hb hts in_1 ty_M ty_M_ok nm_M hown hK hH hS rfl (cell_1 t_539) rfl 15 (by decide) (hts _ wd_432) (fun _ h9 => h9) rfl hin rfl (by decide +kernel) (nar_ra _ _) (fit_ra _ _) (Nat.le_of_ble_eq_true rfl) d_M_init_204 (σ1 := σ_554) (by rw [z_555]; exact put_1_15 σ_535 h0 (some q_533) t_539) (by rw [z_555]; rfl) (by rw [z_555]; rfl) (fun H locs hH hK hS => ?_)
  have t_556 : st_tg σ_554 q_1 = some 301 := by rw [z_555]; exact t_538
  have t_557 : st_tg σ_554 h0 = some 1 := by rw [z_555]; exact t_539
  have t_558 : st_tg σ_554 q_12 = some 302 := by rw [z_555]; exact t_540
  have t_559 : st_tg σ_554 q_25 = some 302 := by rw [z_555]; exact t_541
  have t_560 : st_tg σ_554 q_40 = some 301 := by rw [z_555]; exact t_542
  have t_561 : st_tg σ_554 q_57 = some 301 := by rw [z_555]; exact t_543
  have t_562 : st_tg σ_554 q_76 = some 301 := by rw [z_555]; exact t_544
  have t_563 : st_tg σ_554 q_97 = some 301 := by rw [z_555]; exact t_545
  have t_564 : st_tg σ_554 q_120 = some 301 := by rw [z_555]; exact t_546
  have t_565 : st_tg σ_554 q_145 = some 302 := by rw [z_555]; exact t_547
  have t_566 : st_tg σ_554 q_172 = some 303 := by rw [z_555]; exact t_548
  have t_567 : st_tg σ_554 q_201 = some 302 := by rw [z_555]; exact t_549
  have t_568 : st_tg σ_554 q_292 = some 302 := by rw [z_555]; exact t_550
  have t_569 : st_tg σ_554 q_325 = some 302 := by rw [z_555]; exact t_551
  have t_570 : st_tg σ_554 q_496 = some 303 := by rw [z_555]; exact t_552
  have t_571 : st_tg σ_554 q_533 = some 301 := by rw [z_555]; exact t_553
  refine mr_aload_n hx hb d_M_init_207 rfl (lv_at hl 0 rfl) ?_
  refine lv_bipush (v := 8) hx hb d_M_init_208 (by decide) ?_
  refine ms_newa (σ := σ_554) (atype := .long) (y := .inr (.inl (fun _ => 0))) hx hb (hts _ wd_66) rfl hK hH hS hA 302 rfl (n := 8) (N' := 8) (fun cA => rfl) (by decide) (by decide) (by decide) (by decide) (by decide) d_M_init_210 (fun q cA hq => anew_302 σ_554 q cA 8 hq) (fun q_572 C_573 H f_576 hH hK hS => ?_)
  obtain ⟨σ_574, z_575⟩ : ∃ y : ST, y = st_arr σ_554 q_572 302 C_573 8 := ⟨_, rfl⟩
  rw [← z_575] at hH hK
  have h := h q_572 C_573 f_576 σ_574 z_575
  have t_577 : st_tg σ_574 q_1 = some 301 := by rw [z_575, g_tg_arr, if_neg (fun y => by rw [y, f_576] at t_556; cases t_556)]; exact t_556
  have t_578 : st_tg σ_574 h0 = some 1 := by rw [z_575, g_tg_arr, if_neg (fun y => by rw [y, f_576] at t_557; cases t_557)]; exact t_557
  have t_579 : st_tg σ_574 q_12 = some 302 := by rw [z_575, g_tg_arr, if_neg (fun y => by rw [y, f_576] at t_558; cases t_558)]; exact t_558
  have t_580 : st_tg σ_574 q_25 = some 302 := by rw [z_575, g_tg_arr, if_neg (fun y => by rw [y, f_576] at t_559; cases t_559)]; exact t_559
  have t_581 : st_tg σ_574 q_40 = some 301 := by rw [z_575, g_tg_arr, if_neg (fun y => by rw [y, f_576] at t_560; cases t_560)]; exact t_560
  have t_582 : st_tg σ_574 q_57 = some 301 := by rw [z_575, g_tg_arr, if_neg (fun y => by rw [y, f_576] at t_561; cases t_561)]; exact t_561
  have t_583 : st_tg σ_574 q_76 = some 301 := by rw [z_575, g_tg_arr, if_neg (fun y => by rw [y, f_576] at t_562; cases t_562)]; exact t_562
  have t_584 : st_tg σ_574 q_97 = some 301 := by rw [z_575, g_tg_arr, if_neg (fun y => by rw [y, f_576] at t_563; cases t_563)]; exact t_563
  have t_585 : st_tg σ_574 q_120 = some 301 := by rw [z_575, g_tg_arr, if_neg (fun y => by rw [y, f_576] at t_564; cases t_564)]; exact t_564
  have t_586 : st_tg σ_574 q_145 = some 302 := by rw [z_575, g_tg_arr, if_neg (fun y => by rw [y, f_576] at t_565; cases t_565)]; exact t_565
  have t_587 : st_tg σ_574 q_172 = some 303 := by rw [z_575, g_tg_arr, if_neg (fun y => by rw [y, f_576] at t_566; cases t_566)]; exact t_566
  have t_588 : st_tg σ_574 q_201 = some 302 := by rw [z_575, g_tg_arr, if_neg (fun y => by rw [y, f_576] at t_567; cases t_567)]; exact t_567
  have t_589 : st_tg σ_574 q_292 = some 302 := by rw [z_575, g_tg_arr, if_neg (fun y => by rw [y, f_576] at t_568; cases t_568)]; exact t_568
  have t_590 : st_tg σ_574 q_325 = some 302 := by rw [z_575, g_tg_arr, if_neg (fun y => by rw [y, f_576] at t_569; cases t_569)]; exact t_569
  have t_591 : st_tg σ_574 q_496 = some 303 := by rw [z_575, g_tg_arr, if_neg (fun y => by rw [y, f_576] at t_570; cases t_570)]; exact t_570
  have t_592 : st_tg σ_574 q_533 = some 301 := by rw [z_575, g_tg_arr, if_neg (fun y => by rw [y, f_576] at t_571; cases t_571)]; exact t_571
  have t_593 : st_tg σ_574 q_572 = some 302 := by rw [z_575, g_tg_arr, if_pos rfl]
  refine lv_dup hx hb d_M_init_212 (cat_rf _) ?_
  refine lv_iconst (v := 0) hx hb d_M_init_213 (by decide) ?_
  refine lv_ldc2 (v := (-1)) hx hb hown (hts _ wd_416) d_M_init_214 ?_
  obtain ⟨b_594, h⟩ := h
  obtain ⟨σ_595, z_596⟩ : ∃ y : ST, y = st_uJ σ_574 q_572 (Int32.toNatClampNeg 0) ((-1)) := ⟨_, rfl⟩
  have h := h σ_595 z_596
  refine ms_last (σ := σ_574) (r := some q_572) (a := q_572) (x := (-1)) hx hb hK hH hS rfl t_593 rfl (cell_302 t_593)  b_594 d_M_init_217 (σ1 := σ_595) (by rw [z_596]; exact uput_302 σ_574 q_572 _ ((-1)) t_593) (by rw [z_596]; rfl) (by rw [z_596]; rfl) (fun H locs hH hK hS => ?_)
  have t_597 : st_tg σ_595 q_1 = some 301 := by rw [z_596]; exact t_577
  have t_598 : st_tg σ_595 h0 = some 1 := by rw [z_596]; exact t_578
  have t_599 : st_tg σ_595 q_12 = some 302 := by rw [z_596]; exact t_579
  have t_600 : st_tg σ_595 q_25 = some 302 := by rw [z_596]; exact t_580
  have t_601 : st_tg σ_595 q_40 = some 301 := by rw [z_596]; exact t_581
  have t_602 : st_tg σ_595 q_57 = some 301 := by rw [z_596]; exact t_582
  have t_603 : st_tg σ_595 q_76 = some 301 := by rw [z_596]; exact t_583
  have t_604 : st_tg σ_595 q_97 = some 301 := by rw [z_596]; exact t_584
  have t_605 : st_tg σ_595 q_120 = some 301 := by rw [z_596]; exact t_585
  have t_606 : st_tg σ_595 q_145 = some 302 := by rw [z_596]; exact t_586
  have t_607 : st_tg σ_595 q_172 = some 303 := by rw [z_596]; exact t_587
  have t_608 : st_tg σ_595 q_201 = some 302 := by rw [z_596]; exact t_588
  have t_609 : st_tg σ_595 q_292 = some 302 := by rw [z_596]; exact t_589
  have t_610 : st_tg σ_595 q_325 = some 302 := by rw [z_596]; exact t_590
  have t_611 : st_tg σ_595 q_496 = some 303 := by rw [z_596]; exact t_591
  have t_612 : st_tg σ_595 q_533 = some 301 := by rw [z_596]; exact t_592
  have t_613 : st_tg σ_595 q_572 = some 302 := by rw [z_596]; exact t_593
  refine lv_dup hx hb d_M_init_218 (cat_rf _) ?_
  refine lv_iconst (v := 1) hx hb d_M_init_219 (by decide) ?_
  refine lv_ldc2 (v := (-1)) hx hb hown (hts _ wd_416) d_M_init_220 ?_
  obtain ⟨b_614, h⟩ := h
  obtain ⟨σ_615, z_616⟩ : ∃ y : ST, y = st_uJ σ_595 q_572 (Int32.toNatClampNeg 1) ((-1)) := ⟨_, rfl⟩
  have h := h σ_615 z_616
  refine ms_last (σ := σ_595) (r := some q_572) (a := q_572) (x := (-1)) hx hb hK hH hS rfl t_613 rfl (cell_302 t_613)  b_614 d_M_init_223 (σ1 := σ_615) (by rw [z_616]; exact uput_302 σ_595 q_572 _ ((-1)) t_613) (by rw [z_616]; rfl) (by rw [z_616]; rfl) (fun H locs hH hK hS => ?_)
  have t_617 : st_tg σ_615 q_1 = some 301 := by rw [z_616]; exact t_597
  have t_618 : st_tg σ_615 h0 = some 1 := by rw [z_616]; exact t_598
  have t_619 : st_tg σ_615 q_12 = some 302 := by rw [z_616]; exact t_599
  have t_620 : st_tg σ_615 q_25 = some 302 := by rw [z_616]; exact t_600
  have t_621 : st_tg σ_615 q_40 = some 301 := by rw [z_616]; exact t_601
  have t_622 : st_tg σ_615 q_57 = some 301 := by rw [z_616]; exact t_602
  have t_623 : st_tg σ_615 q_76 = some 301 := by rw [z_616]; exact t_603
  have t_624 : st_tg σ_615 q_97 = some 301 := by rw [z_616]; exact t_604
  have t_625 : st_tg σ_615 q_120 = some 301 := by rw [z_616]; exact t_605
  have t_626 : st_tg σ_615 q_145 = some 302 := by rw [z_616]; exact t_606
  have t_627 : st_tg σ_615 q_172 = some 303 := by rw [z_616]; exact t_607
  have t_628 : st_tg σ_615 q_201 = some 302 := by rw [z_616]; exact t_608
  have t_629 : st_tg σ_615 q_292 = some 302 := by rw [z_616]; exact t_609
  have t_630 : st_tg σ_615 q_325 = some 302 := by rw [z_616]; exact t_610
  have t_631 : st_tg σ_615 q_496 = some 303 := by rw [z_616]; exact t_611
  have t_632 : st_tg σ_615 q_533 = some 301 := by rw [z_616]; exact t_612
  have t_633 : st_tg σ_615 q_572 = some 302 := by rw [z_616]; exact t_613
  refine lv_dup hx hb d_M_init_224 (cat_rf _) ?_
  refine lv_iconst (v := 2) hx hb d_M_init_225 (by decide) ?_
  refine lv_ldc2 (v := (-1)) hx hb hown (hts _ wd_416) d_M_init_226 ?_
  obtain ⟨b_634, h⟩ := h
  obtain ⟨σ_635, z_636⟩ : ∃ y : ST, y = st_uJ σ_615 q_572 (Int32.toNatClampNeg 2) ((-1)) := ⟨_, rfl⟩
  have h := h σ_635 z_636
  refine ms_last (σ := σ_615) (r := some q_572) (a := q_572) (x := (-1)) hx hb hK hH hS rfl t_633 rfl (cell_302 t_633)  b_634 d_M_init_229 (σ1 := σ_635) (by rw [z_636]; exact uput_302 σ_615 q_572 _ ((-1)) t_633) (by rw [z_636]; rfl) (by rw [z_636]; rfl) (fun H locs hH hK hS => ?_)
  have t_637 : st_tg σ_635 q_1 = some 301 := by rw [z_636]; exact t_617
  have t_638 : st_tg σ_635 h0 = some 1 := by rw [z_636]; exact t_618
  have t_639 : st_tg σ_635 q_12 = some 302 := by rw [z_636]; exact t_619
  have t_640 : st_tg σ_635 q_25 = some 302 := by rw [z_636]; exact t_620
  have t_641 : st_tg σ_635 q_40 = some 301 := by rw [z_636]; exact t_621
  have t_642 : st_tg σ_635 q_57 = some 301 := by rw [z_636]; exact t_622
  have t_643 : st_tg σ_635 q_76 = some 301 := by rw [z_636]; exact t_623
  have t_644 : st_tg σ_635 q_97 = some 301 := by rw [z_636]; exact t_624
  have t_645 : st_tg σ_635 q_120 = some 301 := by rw [z_636]; exact t_625
  have t_646 : st_tg σ_635 q_145 = some 302 := by rw [z_636]; exact t_626
  have t_647 : st_tg σ_635 q_172 = some 303 := by rw [z_636]; exact t_627
  have t_648 : st_tg σ_635 q_201 = some 302 := by rw [z_636]; exact t_628
  have t_649 : st_tg σ_635 q_292 = some 302 := by rw [z_636]; exact t_629
  have t_650 : st_tg σ_635 q_325 = some 302 := by rw [z_636]; exact t_630
  have t_651 : st_tg σ_635 q_496 = some 303 := by rw [z_636]; exact t_631
  have t_652 : st_tg σ_635 q_533 = some 301 := by rw [z_636]; exact t_632
  have t_653 : st_tg σ_635 q_572 = some 302 := by rw [z_636]; exact t_633
  refine lv_dup hx hb d_M_init_230 (cat_rf _) ?_
  refine lv_iconst (v := 3) hx hb d_M_init_231 (by decide) ?_
  refine lv_ldc2 (v := (-1)) hx hb hown (hts _ wd_416) d_M_init_232 ?_
  obtain ⟨b_654, h⟩ := h
  obtain ⟨σ_655, z_656⟩ : ∃ y : ST, y = st_uJ σ_635 q_572 (Int32.toNatClampNeg 3) ((-1)) := ⟨_, rfl⟩
  have h := h σ_655 z_656
  refine ms_last (σ := σ_635) (r := some q_572) (a := q_572) (x := (-1)) hx hb hK hH hS rfl t_653 rfl (cell_302 t_653)  b_654 d_M_init_235 (σ1 := σ_655) (by rw [z_656]; exact uput_302 σ_635 q_572 _ ((-1)) t_653) (by rw [z_656]; rfl) (by rw [z_656]; rfl) (fun H locs hH hK hS => ?_)
  have t_657 : st_tg σ_655 q_1 = some 301 := by rw [z_656]; exact t_637
  have t_658 : st_tg σ_655 h0 = some 1 := by rw [z_656]; exact t_638
  have t_659 : st_tg σ_655 q_12 = some 302 := by rw [z_656]; exact t_639
  have t_660 : st_tg σ_655 q_25 = some 302 := by rw [z_656]; exact t_640
  have t_661 : st_tg σ_655 q_40 = some 301 := by rw [z_656]; exact t_641
  have t_662 : st_tg σ_655 q_57 = some 301 := by rw [z_656]; exact t_642
  have t_663 : st_tg σ_655 q_76 = some 301 := by rw [z_656]; exact t_643
  have t_664 : st_tg σ_655 q_97 = some 301 := by rw [z_656]; exact t_644
  have t_665 : st_tg σ_655 q_120 = some 301 := by rw [z_656]; exact t_645
  have t_666 : st_tg σ_655 q_145 = some 302 := by rw [z_656]; exact t_646
  have t_667 : st_tg σ_655 q_172 = some 303 := by rw [z_656]; exact t_647
  have t_668 : st_tg σ_655 q_201 = some 302 := by rw [z_656]; exact t_648
  have t_669 : st_tg σ_655 q_292 = some 302 := by rw [z_656]; exact t_649
  have t_670 : st_tg σ_655 q_325 = some 302 := by rw [z_656]; exact t_650
  have t_671 : st_tg σ_655 q_496 = some 303 := by rw [z_656]; exact t_651
  have t_672 : st_tg σ_655 q_533 = some 301 := by rw [z_656]; exact t_652
  have t_673 : st_tg σ_655 q_572 = some 302 := by rw [z_656]; exact t_653
  refine lv_dup hx hb d_M_init_236 (cat_rf _) ?_
  refine lv_iconst (v := 4) hx hb d_M_init_237 (by decide) ?_
  refine lv_ldc2 (v := (-1)) hx hb hown (hts _ wd_416) d_M_init_238 ?_
  obtain ⟨b_674, h⟩ := h
  obtain ⟨σ_675, z_676⟩ : ∃ y : ST, y = st_uJ σ_655 q_572 (Int32.toNatClampNeg 4) ((-1)) := ⟨_, rfl⟩
  have h := h σ_675 z_676
  refine ms_last (σ := σ_655) (r := some q_572) (a := q_572) (x := (-1)) hx hb hK hH hS rfl t_673 rfl (cell_302 t_673)  b_674 d_M_init_241 (σ1 := σ_675) (by rw [z_676]; exact uput_302 σ_655 q_572 _ ((-1)) t_673) (by rw [z_676]; rfl) (by rw [z_676]; rfl) (fun H locs hH hK hS => ?_)
  have t_677 : st_tg σ_675 q_1 = some 301 := by rw [z_676]; exact t_657
  have t_678 : st_tg σ_675 h0 = some 1 := by rw [z_676]; exact t_658
  have t_679 : st_tg σ_675 q_12 = some 302 := by rw [z_676]; exact t_659
  have t_680 : st_tg σ_675 q_25 = some 302 := by rw [z_676]; exact t_660
  have t_681 : st_tg σ_675 q_40 = some 301 := by rw [z_676]; exact t_661
  have t_682 : st_tg σ_675 q_57 = some 301 := by rw [z_676]; exact t_662
  have t_683 : st_tg σ_675 q_76 = some 301 := by rw [z_676]; exact t_663
  have t_684 : st_tg σ_675 q_97 = some 301 := by rw [z_676]; exact t_664
  have t_685 : st_tg σ_675 q_120 = some 301 := by rw [z_676]; exact t_665
  have t_686 : st_tg σ_675 q_145 = some 302 := by rw [z_676]; exact t_666
  have t_687 : st_tg σ_675 q_172 = some 303 := by rw [z_676]; exact t_667
  have t_688 : st_tg σ_675 q_201 = some 302 := by rw [z_676]; exact t_668
  have t_689 : st_tg σ_675 q_292 = some 302 := by rw [z_676]; exact t_669
  have t_690 : st_tg σ_675 q_325 = some 302 := by rw [z_676]; exact t_670
  have t_691 : st_tg σ_675 q_496 = some 303 := by rw [z_676]; exact t_671
  have t_692 : st_tg σ_675 q_533 = some 301 := by rw [z_676]; exact t_672
  have t_693 : st_tg σ_675 q_572 = some 302 := by rw [z_676]; exact t_673
  refine lv_dup hx hb d_M_init_242 (cat_rf _) ?_
  refine lv_iconst (v := 5) hx hb d_M_init_243 (by decide) ?_
  refine lv_ldc2 (v := (-1)) hx hb hown (hts _ wd_416) d_M_init_244 ?_
  obtain ⟨b_694, h⟩ := h
  obtain ⟨σ_695, z_696⟩ : ∃ y : ST, y = st_uJ σ_675 q_572 (Int32.toNatClampNeg 5) ((-1)) := ⟨_, rfl⟩
  have h := h σ_695 z_696
  refine ms_last (σ := σ_675) (r := some q_572) (a := q_572) (x := (-1)) hx hb hK hH hS rfl t_693 rfl (cell_302 t_693)  b_694 d_M_init_247 (σ1 := σ_695) (by rw [z_696]; exact uput_302 σ_675 q_572 _ ((-1)) t_693) (by rw [z_696]; rfl) (by rw [z_696]; rfl) (fun H locs hH hK hS => ?_)
  have t_697 : st_tg σ_695 q_1 = some 301 := by rw [z_696]; exact t_677
  have t_698 : st_tg σ_695 h0 = some 1 := by rw [z_696]; exact t_678
  have t_699 : st_tg σ_695 q_12 = some 302 := by rw [z_696]; exact t_679
  have t_700 : st_tg σ_695 q_25 = some 302 := by rw [z_696]; exact t_680
  have t_701 : st_tg σ_695 q_40 = some 301 := by rw [z_696]; exact t_681
  have t_702 : st_tg σ_695 q_57 = some 301 := by rw [z_696]; exact t_682
  have t_703 : st_tg σ_695 q_76 = some 301 := by rw [z_696]; exact t_683
  have t_704 : st_tg σ_695 q_97 = some 301 := by rw [z_696]; exact t_684
  have t_705 : st_tg σ_695 q_120 = some 301 := by rw [z_696]; exact t_685
  have t_706 : st_tg σ_695 q_145 = some 302 := by rw [z_696]; exact t_686
  have t_707 : st_tg σ_695 q_172 = some 303 := by rw [z_696]; exact t_687
  have t_708 : st_tg σ_695 q_201 = some 302 := by rw [z_696]; exact t_688
  have t_709 : st_tg σ_695 q_292 = some 302 := by rw [z_696]; exact t_689
  have t_710 : st_tg σ_695 q_325 = some 302 := by rw [z_696]; exact t_690
  have t_711 : st_tg σ_695 q_496 = some 303 := by rw [z_696]; exact t_691
  have t_712 : st_tg σ_695 q_533 = some 301 := by rw [z_696]; exact t_692
  have t_713 : st_tg σ_695 q_572 = some 302 := by rw [z_696]; exact t_693
  refine lv_dup hx hb d_M_init_248 (cat_rf _) ?_
  refine lv_bipush (v := 6) hx hb d_M_init_249 (by decide) ?_
  refine lv_ldc2 (v := (-1)) hx hb hown (hts _ wd_416) d_M_init_251 ?_
  obtain ⟨b_714, h⟩ := h
  obtain ⟨σ_715, z_716⟩ : ∃ y : ST, y = st_uJ σ_695 q_572 (Int32.toNatClampNeg 6) ((-1)) := ⟨_, rfl⟩
  have h := h σ_715 z_716
  refine ms_last (σ := σ_695) (r := some q_572) (a := q_572) (x := (-1)) hx hb hK hH hS rfl t_713 rfl (cell_302 t_713)  b_714 d_M_init_254 (σ1 := σ_715) (by rw [z_716]; exact uput_302 σ_695 q_572 _ ((-1)) t_713) (by rw [z_716]; rfl) (by rw [z_716]; rfl) (fun H locs hH hK hS => ?_)
  have t_717 : st_tg σ_715 q_1 = some 301 := by rw [z_716]; exact t_697
  have t_718 : st_tg σ_715 h0 = some 1 := by rw [z_716]; exact t_698
  have t_719 : st_tg σ_715 q_12 = some 302 := by rw [z_716]; exact t_699
  have t_720 : st_tg σ_715 q_25 = some 302 := by rw [z_716]; exact t_700
  have t_721 : st_tg σ_715 q_40 = some 301 := by rw [z_716]; exact t_701
  have t_722 : st_tg σ_715 q_57 = some 301 := by rw [z_716]; exact t_702
  have t_723 : st_tg σ_715 q_76 = some 301 := by rw [z_716]; exact t_703
  have t_724 : st_tg σ_715 q_97 = some 301 := by rw [z_716]; exact t_704
  have t_725 : st_tg σ_715 q_120 = some 301 := by rw [z_716]; exact t_705
  have t_726 : st_tg σ_715 q_145 = some 302 := by rw [z_716]; exact t_706
  have t_727 : st_tg σ_715 q_172 = some 303 := by rw [z_716]; exact t_707
  have t_728 : st_tg σ_715 q_201 = some 302 := by rw [z_716]; exact t_708
  have t_729 : st_tg σ_715 q_292 = some 302 := by rw [z_716]; exact t_709
  have t_730 : st_tg σ_715 q_325 = some 302 := by rw [z_716]; exact t_710
  have t_731 : st_tg σ_715 q_496 = some 303 := by rw [z_716]; exact t_711
  have t_732 : st_tg σ_715 q_533 = some 301 := by rw [z_716]; exact t_712
  have t_733 : st_tg σ_715 q_572 = some 302 := by rw [z_716]; exact t_713
  refine lv_dup hx hb d_M_init_255 (cat_rf _) ?_
  refine lv_bipush (v := 7) hx hb d_M_init_256 (by decide) ?_
  refine lv_ldc2 (v := (-1)) hx hb hown (hts _ wd_416) d_M_init_258 ?_
  obtain ⟨b_734, h⟩ := h
  obtain ⟨σ_735, z_736⟩ : ∃ y : ST, y = st_uJ σ_715 q_572 (Int32.toNatClampNeg 7) ((-1)) := ⟨_, rfl⟩
  have h := h σ_735 z_736
  refine ms_last (σ := σ_715) (r := some q_572) (a := q_572) (x := (-1)) hx hb hK hH hS rfl t_733 rfl (cell_302 t_733)  b_734 d_M_init_261 (σ1 := σ_735) (by rw [z_736]; exact uput_302 σ_715 q_572 _ ((-1)) t_733) (by rw [z_736]; rfl) (by rw [z_736]; rfl) (fun H locs hH hK hS => ?_)
  have t_737 : st_tg σ_735 q_1 = some 301 := by rw [z_736]; exact t_717
  have t_738 : st_tg σ_735 h0 = some 1 := by rw [z_736]; exact t_718
  have t_739 : st_tg σ_735 q_12 = some 302 := by rw [z_736]; exact t_719
  have t_740 : st_tg σ_735 q_25 = some 302 := by rw [z_736]; exact t_720
  have t_741 : st_tg σ_735 q_40 = some 301 := by rw [z_736]; exact t_721
  have t_742 : st_tg σ_735 q_57 = some 301 := by rw [z_736]; exact t_722
  have t_743 : st_tg σ_735 q_76 = some 301 := by rw [z_736]; exact t_723
  have t_744 : st_tg σ_735 q_97 = some 301 := by rw [z_736]; exact t_724
  have t_745 : st_tg σ_735 q_120 = some 301 := by rw [z_736]; exact t_725
  have t_746 : st_tg σ_735 q_145 = some 302 := by rw [z_736]; exact t_726
  have t_747 : st_tg σ_735 q_172 = some 303 := by rw [z_736]; exact t_727
  have t_748 : st_tg σ_735 q_201 = some 302 := by rw [z_736]; exact t_728
  have t_749 : st_tg σ_735 q_292 = some 302 := by rw [z_736]; exact t_729
  have t_750 : st_tg σ_735 q_325 = some 302 := by rw [z_736]; exact t_730
  have t_751 : st_tg σ_735 q_496 = some 303 := by rw [z_736]; exact t_731
  have t_752 : st_tg σ_735 q_533 = some 301 := by rw [z_736]; exact t_732
  have t_753 : st_tg σ_735 q_572 = some 302 := by rw [z_736]; exact t_733
  obtain ⟨σ_754, z_755⟩ : ∃ y : ST, y = st_sR σ_735 56 h0 (some q_572) := ⟨_, rfl⟩
  have h := h σ_754 z_755
  refine ms_putF (σ := σ_735) (r := some h0) (a := h0) (fs := fl_1 σ_735 h0) (ci := 1) (C := R_M) (T := T_M) (N := 32) (v := va_rf (some q_572)) (ty := (.array .long)) hx hb hts in_1 ty_M ty_M_ok nm_M hown hK hH hS rfl (cell_1 t_738) rfl 16 (by decide) (hts _ wd_433) (fun _ h9 => h9) rfl hin rfl (by decide +kernel) (nar_ra _ _) (fit_ra _ _) (Nat.le_of_ble_eq_true rfl) d_M_init_262 (σ1 := σ_754) (by rw [z_755]; exact put_1_16 σ_735 h0 (some q_572) t_738) (by rw [z_755]; rfl) (by rw [z_755]; rfl) (fun H locs hH hK hS => ?_)
  have t_756 : st_tg σ_754 q_1 = some 301 := by rw [z_755]; exact t_737
  have t_757 : st_tg σ_754 h0 = some 1 := by rw [z_755]; exact t_738
  have t_758 : st_tg σ_754 q_12 = some 302 := by rw [z_755]; exact t_739
  have t_759 : st_tg σ_754 q_25 = some 302 := by rw [z_755]; exact t_740
  have t_760 : st_tg σ_754 q_40 = some 301 := by rw [z_755]; exact t_741
  have t_761 : st_tg σ_754 q_57 = some 301 := by rw [z_755]; exact t_742
  have t_762 : st_tg σ_754 q_76 = some 301 := by rw [z_755]; exact t_743
  have t_763 : st_tg σ_754 q_97 = some 301 := by rw [z_755]; exact t_744
  have t_764 : st_tg σ_754 q_120 = some 301 := by rw [z_755]; exact t_745
  have t_765 : st_tg σ_754 q_145 = some 302 := by rw [z_755]; exact t_746
  have t_766 : st_tg σ_754 q_172 = some 303 := by rw [z_755]; exact t_747
  have t_767 : st_tg σ_754 q_201 = some 302 := by rw [z_755]; exact t_748
  have t_768 : st_tg σ_754 q_292 = some 302 := by rw [z_755]; exact t_749
  have t_769 : st_tg σ_754 q_325 = some 302 := by rw [z_755]; exact t_750
  have t_770 : st_tg σ_754 q_496 = some 303 := by rw [z_755]; exact t_751
  have t_771 : st_tg σ_754 q_533 = some 301 := by rw [z_755]; exact t_752
  have t_772 : st_tg σ_754 q_572 = some 302 := by rw [z_755]; exact t_753
  refine mr_aload_n hx hb d_M_init_265 rfl (lv_at hl 0 rfl) ?_
  refine lv_bipush (v := 8) hx hb d_M_init_266 (by decide) ?_
  refine ms_newa (σ := σ_754) (atype := .long) (y := .inr (.inl (fun _ => 0))) hx hb (hts _ wd_66) rfl hK hH hS hA 302 rfl (n := 8) (N' := 8) (fun cA => rfl) (by decide) (by decide) (by decide) (by decide) (by decide) d_M_init_268 (fun q cA hq => anew_302 σ_754 q cA 8 hq) (fun q_773 C_774 H f_777 hH hK hS => ?_)
  obtain ⟨σ_775, z_776⟩ : ∃ y : ST, y = st_arr σ_754 q_773 302 C_774 8 := ⟨_, rfl⟩
  rw [← z_776] at hH hK
  have h := h q_773 C_774 f_777 σ_775 z_776
  have t_778 : st_tg σ_775 q_1 = some 301 := by rw [z_776, g_tg_arr, if_neg (fun y => by rw [y, f_777] at t_756; cases t_756)]; exact t_756
  have t_779 : st_tg σ_775 h0 = some 1 := by rw [z_776, g_tg_arr, if_neg (fun y => by rw [y, f_777] at t_757; cases t_757)]; exact t_757
  have t_780 : st_tg σ_775 q_12 = some 302 := by rw [z_776, g_tg_arr, if_neg (fun y => by rw [y, f_777] at t_758; cases t_758)]; exact t_758
  have t_781 : st_tg σ_775 q_25 = some 302 := by rw [z_776, g_tg_arr, if_neg (fun y => by rw [y, f_777] at t_759; cases t_759)]; exact t_759
  have t_782 : st_tg σ_775 q_40 = some 301 := by rw [z_776, g_tg_arr, if_neg (fun y => by rw [y, f_777] at t_760; cases t_760)]; exact t_760
  have t_783 : st_tg σ_775 q_57 = some 301 := by rw [z_776, g_tg_arr, if_neg (fun y => by rw [y, f_777] at t_761; cases t_761)]; exact t_761
  have t_784 : st_tg σ_775 q_76 = some 301 := by rw [z_776, g_tg_arr, if_neg (fun y => by rw [y, f_777] at t_762; cases t_762)]; exact t_762
  have t_785 : st_tg σ_775 q_97 = some 301 := by rw [z_776, g_tg_arr, if_neg (fun y => by rw [y, f_777] at t_763; cases t_763)]; exact t_763
  have t_786 : st_tg σ_775 q_120 = some 301 := by rw [z_776, g_tg_arr, if_neg (fun y => by rw [y, f_777] at t_764; cases t_764)]; exact t_764
  have t_787 : st_tg σ_775 q_145 = some 302 := by rw [z_776, g_tg_arr, if_neg (fun y => by rw [y, f_777] at t_765; cases t_765)]; exact t_765
  have t_788 : st_tg σ_775 q_172 = some 303 := by rw [z_776, g_tg_arr, if_neg (fun y => by rw [y, f_777] at t_766; cases t_766)]; exact t_766
  have t_789 : st_tg σ_775 q_201 = some 302 := by rw [z_776, g_tg_arr, if_neg (fun y => by rw [y, f_777] at t_767; cases t_767)]; exact t_767
  have t_790 : st_tg σ_775 q_292 = some 302 := by rw [z_776, g_tg_arr, if_neg (fun y => by rw [y, f_777] at t_768; cases t_768)]; exact t_768
  have t_791 : st_tg σ_775 q_325 = some 302 := by rw [z_776, g_tg_arr, if_neg (fun y => by rw [y, f_777] at t_769; cases t_769)]; exact t_769
  have t_792 : st_tg σ_775 q_496 = some 303 := by rw [z_776, g_tg_arr, if_neg (fun y => by rw [y, f_777] at t_770; cases t_770)]; exact t_770
  have t_793 : st_tg σ_775 q_533 = some 301 := by rw [z_776, g_tg_arr, if_neg (fun y => by rw [y, f_777] at t_771; cases t_771)]; exact t_771
  have t_794 : st_tg σ_775 q_572 = some 302 := by rw [z_776, g_tg_arr, if_neg (fun y => by rw [y, f_777] at t_772; cases t_772)]; exact t_772
  have t_795 : st_tg σ_775 q_773 = some 302 := by rw [z_776, g_tg_arr, if_pos rfl]
  obtain ⟨σ_796, z_797⟩ : ∃ y : ST, y = st_sR σ_775 57 h0 (some q_773) := ⟨_, rfl⟩
  have h := h σ_796 z_797
  refine ms_putF (σ := σ_775) (r := some h0) (a := h0) (fs := fl_1 σ_775 h0) (ci := 1) (C := R_M) (T := T_M) (N := 32) (v := va_rf (some q_773)) (ty := (.array .long)) hx hb hts in_1 ty_M ty_M_ok nm_M hown hK hH hS rfl (cell_1 t_779) rfl 17 (by decide) (hts _ wd_434) (fun _ h9 => h9) rfl hin rfl (by decide +kernel) (nar_ra _ _) (fit_ra _ _) (Nat.le_of_ble_eq_true rfl) d_M_init_270 (σ1 := σ_796) (by rw [z_797]; exact put_1_17 σ_775 h0 (some q_773) t_779) (by rw [z_797]; rfl) (by rw [z_797]; rfl) (fun H locs hH hK hS => ?_)
  have t_798 : st_tg σ_796 q_1 = some 301 := by rw [z_797]; exact t_778
  have t_799 : st_tg σ_796 h0 = some 1 := by rw [z_797]; exact t_779
  have t_800 : st_tg σ_796 q_12 = some 302 := by rw [z_797]; exact t_780
  have t_801 : st_tg σ_796 q_25 = some 302 := by rw [z_797]; exact t_781
  have t_802 : st_tg σ_796 q_40 = some 301 := by rw [z_797]; exact t_782
  have t_803 : st_tg σ_796 q_57 = some 301 := by rw [z_797]; exact t_783
  have t_804 : st_tg σ_796 q_76 = some 301 := by rw [z_797]; exact t_784
  have t_805 : st_tg σ_796 q_97 = some 301 := by rw [z_797]; exact t_785
  have t_806 : st_tg σ_796 q_120 = some 301 := by rw [z_797]; exact t_786
  have t_807 : st_tg σ_796 q_145 = some 302 := by rw [z_797]; exact t_787
  have t_808 : st_tg σ_796 q_172 = some 303 := by rw [z_797]; exact t_788
  have t_809 : st_tg σ_796 q_201 = some 302 := by rw [z_797]; exact t_789
  have t_810 : st_tg σ_796 q_292 = some 302 := by rw [z_797]; exact t_790
  have t_811 : st_tg σ_796 q_325 = some 302 := by rw [z_797]; exact t_791
  have t_812 : st_tg σ_796 q_496 = some 303 := by rw [z_797]; exact t_792
  have t_813 : st_tg σ_796 q_533 = some 301 := by rw [z_797]; exact t_793
  have t_814 : st_tg σ_796 q_572 = some 302 := by rw [z_797]; exact t_794
  have t_815 : st_tg σ_796 q_773 = some 302 := by rw [z_797]; exact t_795
  refine mr_aload_n hx hb d_M_init_273 rfl (lv_at hl 0 rfl) ?_
  refine lv_bipush (v := 8) hx hb d_M_init_274 (by decide) ?_
  refine ms_newa (σ := σ_796) (atype := .int) (y := .inl (fun _ => 0)) hx hb (hts _ wd_514) rfl hK hH hS hA 301 rfl (n := 8) (N' := 8) (fun cA => rfl) (by decide) (by decide) (by decide) (by decide) (by decide) d_M_init_276 (fun q cA hq => anew_301 σ_796 q cA 8 hq) (fun q_816 C_817 H f_820 hH hK hS => ?_)
  obtain ⟨σ_818, z_819⟩ : ∃ y : ST, y = st_arr σ_796 q_816 301 C_817 8 := ⟨_, rfl⟩
  rw [← z_819] at hH hK
  have h := h q_816 C_817 f_820 σ_818 z_819
  have t_821 : st_tg σ_818 q_1 = some 301 := by rw [z_819, g_tg_arr, if_neg (fun y => by rw [y, f_820] at t_798; cases t_798)]; exact t_798
  have t_822 : st_tg σ_818 h0 = some 1 := by rw [z_819, g_tg_arr, if_neg (fun y => by rw [y, f_820] at t_799; cases t_799)]; exact t_799
  have t_823 : st_tg σ_818 q_12 = some 302 := by rw [z_819, g_tg_arr, if_neg (fun y => by rw [y, f_820] at t_800; cases t_800)]; exact t_800
  have t_824 : st_tg σ_818 q_25 = some 302 := by rw [z_819, g_tg_arr, if_neg (fun y => by rw [y, f_820] at t_801; cases t_801)]; exact t_801
  have t_825 : st_tg σ_818 q_40 = some 301 := by rw [z_819, g_tg_arr, if_neg (fun y => by rw [y, f_820] at t_802; cases t_802)]; exact t_802
  have t_826 : st_tg σ_818 q_57 = some 301 := by rw [z_819, g_tg_arr, if_neg (fun y => by rw [y, f_820] at t_803; cases t_803)]; exact t_803
  have t_827 : st_tg σ_818 q_76 = some 301 := by rw [z_819, g_tg_arr, if_neg (fun y => by rw [y, f_820] at t_804; cases t_804)]; exact t_804
  have t_828 : st_tg σ_818 q_97 = some 301 := by rw [z_819, g_tg_arr, if_neg (fun y => by rw [y, f_820] at t_805; cases t_805)]; exact t_805
  have t_829 : st_tg σ_818 q_120 = some 301 := by rw [z_819, g_tg_arr, if_neg (fun y => by rw [y, f_820] at t_806; cases t_806)]; exact t_806
  have t_830 : st_tg σ_818 q_145 = some 302 := by rw [z_819, g_tg_arr, if_neg (fun y => by rw [y, f_820] at t_807; cases t_807)]; exact t_807
  have t_831 : st_tg σ_818 q_172 = some 303 := by rw [z_819, g_tg_arr, if_neg (fun y => by rw [y, f_820] at t_808; cases t_808)]; exact t_808
  have t_832 : st_tg σ_818 q_201 = some 302 := by rw [z_819, g_tg_arr, if_neg (fun y => by rw [y, f_820] at t_809; cases t_809)]; exact t_809
  have t_833 : st_tg σ_818 q_292 = some 302 := by rw [z_819, g_tg_arr, if_neg (fun y => by rw [y, f_820] at t_810; cases t_810)]; exact t_810
  have t_834 : st_tg σ_818 q_325 = some 302 := by rw [z_819, g_tg_arr, if_neg (fun y => by rw [y, f_820] at t_811; cases t_811)]; exact t_811
  have t_835 : st_tg σ_818 q_496 = some 303 := by rw [z_819, g_tg_arr, if_neg (fun y => by rw [y, f_820] at t_812; cases t_812)]; exact t_812
  have t_836 : st_tg σ_818 q_533 = some 301 := by rw [z_819, g_tg_arr, if_neg (fun y => by rw [y, f_820] at t_813; cases t_813)]; exact t_813
  have t_837 : st_tg σ_818 q_572 = some 302 := by rw [z_819, g_tg_arr, if_neg (fun y => by rw [y, f_820] at t_814; cases t_814)]; exact t_814
  have t_838 : st_tg σ_818 q_773 = some 302 := by rw [z_819, g_tg_arr, if_neg (fun y => by rw [y, f_820] at t_815; cases t_815)]; exact t_815
  have t_839 : st_tg σ_818 q_816 = some 301 := by rw [z_819, g_tg_arr, if_pos rfl]
  obtain ⟨σ_840, z_841⟩ : ∃ y : ST, y = st_sR σ_818 58 h0 (some q_816) := ⟨_, rfl⟩
  have h := h σ_840 z_841
  refine ms_putF (σ := σ_818) (r := some h0) (a := h0) (fs := fl_1 σ_818 h0) (ci := 1) (C := R_M) (T := T_M) (N := 32) (v := va_rf (some q_816)) (ty := (.array .int)) hx hb hts in_1 ty_M ty_M_ok nm_M hown hK hH hS rfl (cell_1 t_822) rfl 18 (by decide) (hts _ wd_435) (fun _ h9 => h9) rfl hin rfl (by decide +kernel) (nar_ra _ _) (fit_ra _ _) (Nat.le_of_ble_eq_true rfl) d_M_init_278 (σ1 := σ_840) (by rw [z_841]; exact put_1_18 σ_818 h0 (some q_816) t_822) (by rw [z_841]; rfl) (by rw [z_841]; rfl) (fun H locs hH hK hS => ?_)
  have t_842 : st_tg σ_840 q_1 = some 301 := by rw [z_841]; exact t_821
  have t_843 : st_tg σ_840 h0 = some 1 := by rw [z_841]; exact t_822
  have t_844 : st_tg σ_840 q_12 = some 302 := by rw [z_841]; exact t_823
  have t_845 : st_tg σ_840 q_25 = some 302 := by rw [z_841]; exact t_824
  have t_846 : st_tg σ_840 q_40 = some 301 := by rw [z_841]; exact t_825
  have t_847 : st_tg σ_840 q_57 = some 301 := by rw [z_841]; exact t_826
  have t_848 : st_tg σ_840 q_76 = some 301 := by rw [z_841]; exact t_827
  have t_849 : st_tg σ_840 q_97 = some 301 := by rw [z_841]; exact t_828
  have t_850 : st_tg σ_840 q_120 = some 301 := by rw [z_841]; exact t_829
  have t_851 : st_tg σ_840 q_145 = some 302 := by rw [z_841]; exact t_830
  have t_852 : st_tg σ_840 q_172 = some 303 := by rw [z_841]; exact t_831
  have t_853 : st_tg σ_840 q_201 = some 302 := by rw [z_841]; exact t_832
  have t_854 : st_tg σ_840 q_292 = some 302 := by rw [z_841]; exact t_833
  have t_855 : st_tg σ_840 q_325 = some 302 := by rw [z_841]; exact t_834
  have t_856 : st_tg σ_840 q_496 = some 303 := by rw [z_841]; exact t_835
  have t_857 : st_tg σ_840 q_533 = some 301 := by rw [z_841]; exact t_836
  have t_858 : st_tg σ_840 q_572 = some 302 := by rw [z_841]; exact t_837
  have t_859 : st_tg σ_840 q_773 = some 302 := by rw [z_841]; exact t_838
  have t_860 : st_tg σ_840 q_816 = some 301 := by rw [z_841]; exact t_839
  refine mr_aload_n hx hb d_M_init_281 rfl (lv_at hl 0 rfl) ?_
  refine lv_sipush (v := 2400) hx hb d_M_init_282 (by decide) ?_
  refine ms_newa (σ := σ_840) (atype := .int) (y := .inl (fun _ => 0)) hx hb (hts _ wd_514) rfl hK hH hS hA 301 rfl (n := 2400) (N' := 2400) (fun cA => rfl) (by decide) (by decide) (by decide) (by decide) (by decide) d_M_init_285 (fun q cA hq => anew_301 σ_840 q cA 2400 hq) (fun q_861 C_862 H f_865 hH hK hS => ?_)
  obtain ⟨σ_863, z_864⟩ : ∃ y : ST, y = st_arr σ_840 q_861 301 C_862 2400 := ⟨_, rfl⟩
  rw [← z_864] at hH hK
  have h := h q_861 C_862 f_865 σ_863 z_864
  have t_866 : st_tg σ_863 q_1 = some 301 := by rw [z_864, g_tg_arr, if_neg (fun y => by rw [y, f_865] at t_842; cases t_842)]; exact t_842
  have t_867 : st_tg σ_863 h0 = some 1 := by rw [z_864, g_tg_arr, if_neg (fun y => by rw [y, f_865] at t_843; cases t_843)]; exact t_843
  have t_868 : st_tg σ_863 q_12 = some 302 := by rw [z_864, g_tg_arr, if_neg (fun y => by rw [y, f_865] at t_844; cases t_844)]; exact t_844
  have t_869 : st_tg σ_863 q_25 = some 302 := by rw [z_864, g_tg_arr, if_neg (fun y => by rw [y, f_865] at t_845; cases t_845)]; exact t_845
  have t_870 : st_tg σ_863 q_40 = some 301 := by rw [z_864, g_tg_arr, if_neg (fun y => by rw [y, f_865] at t_846; cases t_846)]; exact t_846
  have t_871 : st_tg σ_863 q_57 = some 301 := by rw [z_864, g_tg_arr, if_neg (fun y => by rw [y, f_865] at t_847; cases t_847)]; exact t_847
  have t_872 : st_tg σ_863 q_76 = some 301 := by rw [z_864, g_tg_arr, if_neg (fun y => by rw [y, f_865] at t_848; cases t_848)]; exact t_848
  have t_873 : st_tg σ_863 q_97 = some 301 := by rw [z_864, g_tg_arr, if_neg (fun y => by rw [y, f_865] at t_849; cases t_849)]; exact t_849
  have t_874 : st_tg σ_863 q_120 = some 301 := by rw [z_864, g_tg_arr, if_neg (fun y => by rw [y, f_865] at t_850; cases t_850)]; exact t_850
  have t_875 : st_tg σ_863 q_145 = some 302 := by rw [z_864, g_tg_arr, if_neg (fun y => by rw [y, f_865] at t_851; cases t_851)]; exact t_851
  have t_876 : st_tg σ_863 q_172 = some 303 := by rw [z_864, g_tg_arr, if_neg (fun y => by rw [y, f_865] at t_852; cases t_852)]; exact t_852
  have t_877 : st_tg σ_863 q_201 = some 302 := by rw [z_864, g_tg_arr, if_neg (fun y => by rw [y, f_865] at t_853; cases t_853)]; exact t_853
  have t_878 : st_tg σ_863 q_292 = some 302 := by rw [z_864, g_tg_arr, if_neg (fun y => by rw [y, f_865] at t_854; cases t_854)]; exact t_854
  have t_879 : st_tg σ_863 q_325 = some 302 := by rw [z_864, g_tg_arr, if_neg (fun y => by rw [y, f_865] at t_855; cases t_855)]; exact t_855
  have t_880 : st_tg σ_863 q_496 = some 303 := by rw [z_864, g_tg_arr, if_neg (fun y => by rw [y, f_865] at t_856; cases t_856)]; exact t_856
  have t_881 : st_tg σ_863 q_533 = some 301 := by rw [z_864, g_tg_arr, if_neg (fun y => by rw [y, f_865] at t_857; cases t_857)]; exact t_857
  have t_882 : st_tg σ_863 q_572 = some 302 := by rw [z_864, g_tg_arr, if_neg (fun y => by rw [y, f_865] at t_858; cases t_858)]; exact t_858
  have t_883 : st_tg σ_863 q_773 = some 302 := by rw [z_864, g_tg_arr, if_neg (fun y => by rw [y, f_865] at t_859; cases t_859)]; exact t_859
  have t_884 : st_tg σ_863 q_816 = some 301 := by rw [z_864, g_tg_arr, if_neg (fun y => by rw [y, f_865] at t_860; cases t_860)]; exact t_860
  have t_885 : st_tg σ_863 q_861 = some 301 := by rw [z_864, g_tg_arr, if_pos rfl]
  obtain ⟨σ_886, z_887⟩ : ∃ y : ST, y = st_sR σ_863 59 h0 (some q_861) := ⟨_, rfl⟩
  have h := h σ_886 z_887
  refine ms_putF (σ := σ_863) (r := some h0) (a := h0) (fs := fl_1 σ_863 h0) (ci := 1) (C := R_M) (T := T_M) (N := 32) (v := va_rf (some q_861)) (ty := (.array .int)) hx hb hts in_1 ty_M ty_M_ok nm_M hown hK hH hS rfl (cell_1 t_867) rfl 19 (by decide) (hts _ wd_436) (fun _ h9 => h9) rfl hin rfl (by decide +kernel) (nar_ra _ _) (fit_ra _ _) (Nat.le_of_ble_eq_true rfl) d_M_init_287 (σ1 := σ_886) (by rw [z_887]; exact put_1_19 σ_863 h0 (some q_861) t_867) (by rw [z_887]; rfl) (by rw [z_887]; rfl) (fun H locs hH hK hS => ?_)
  have t_888 : st_tg σ_886 q_1 = some 301 := by rw [z_887]; exact t_866
  have t_889 : st_tg σ_886 h0 = some 1 := by rw [z_887]; exact t_867
  have t_890 : st_tg σ_886 q_12 = some 302 := by rw [z_887]; exact t_868
  have t_891 : st_tg σ_886 q_25 = some 302 := by rw [z_887]; exact t_869
  have t_892 : st_tg σ_886 q_40 = some 301 := by rw [z_887]; exact t_870
  have t_893 : st_tg σ_886 q_57 = some 301 := by rw [z_887]; exact t_871
  have t_894 : st_tg σ_886 q_76 = some 301 := by rw [z_887]; exact t_872
  have t_895 : st_tg σ_886 q_97 = some 301 := by rw [z_887]; exact t_873
  have t_896 : st_tg σ_886 q_120 = some 301 := by rw [z_887]; exact t_874
  have t_897 : st_tg σ_886 q_145 = some 302 := by rw [z_887]; exact t_875
  have t_898 : st_tg σ_886 q_172 = some 303 := by rw [z_887]; exact t_876
  have t_899 : st_tg σ_886 q_201 = some 302 := by rw [z_887]; exact t_877
  have t_900 : st_tg σ_886 q_292 = some 302 := by rw [z_887]; exact t_878
  have t_901 : st_tg σ_886 q_325 = some 302 := by rw [z_887]; exact t_879
  have t_902 : st_tg σ_886 q_496 = some 303 := by rw [z_887]; exact t_880
  have t_903 : st_tg σ_886 q_533 = some 301 := by rw [z_887]; exact t_881
  have t_904 : st_tg σ_886 q_572 = some 302 := by rw [z_887]; exact t_882
  have t_905 : st_tg σ_886 q_773 = some 302 := by rw [z_887]; exact t_883
  have t_906 : st_tg σ_886 q_816 = some 301 := by rw [z_887]; exact t_884
  have t_907 : st_tg σ_886 q_861 = some 301 := by rw [z_887]; exact t_885
  refine mr_aload_n hx hb d_M_init_290 rfl (lv_at hl 0 rfl) ?_
  refine lv_sipush (v := 128) hx hb d_M_init_291 (by decide) ?_
  refine ms_newa (σ := σ_886) (atype := .int) (y := .inl (fun _ => 0)) hx hb (hts _ wd_514) rfl hK hH hS hA 301 rfl (n := 128) (N' := 128) (fun cA => rfl) (by decide) (by decide) (by decide) (by decide) (by decide) d_M_init_294 (fun q cA hq => anew_301 σ_886 q cA 128 hq) (fun q_908 C_909 H f_912 hH hK hS => ?_)
  obtain ⟨σ_910, z_911⟩ : ∃ y : ST, y = st_arr σ_886 q_908 301 C_909 128 := ⟨_, rfl⟩
  rw [← z_911] at hH hK
  have h := h q_908 C_909 f_912 σ_910 z_911
  have t_913 : st_tg σ_910 q_1 = some 301 := by rw [z_911, g_tg_arr, if_neg (fun y => by rw [y, f_912] at t_888; cases t_888)]; exact t_888
  have t_914 : st_tg σ_910 h0 = some 1 := by rw [z_911, g_tg_arr, if_neg (fun y => by rw [y, f_912] at t_889; cases t_889)]; exact t_889
  have t_915 : st_tg σ_910 q_12 = some 302 := by rw [z_911, g_tg_arr, if_neg (fun y => by rw [y, f_912] at t_890; cases t_890)]; exact t_890
  have t_916 : st_tg σ_910 q_25 = some 302 := by rw [z_911, g_tg_arr, if_neg (fun y => by rw [y, f_912] at t_891; cases t_891)]; exact t_891
  have t_917 : st_tg σ_910 q_40 = some 301 := by rw [z_911, g_tg_arr, if_neg (fun y => by rw [y, f_912] at t_892; cases t_892)]; exact t_892
  have t_918 : st_tg σ_910 q_57 = some 301 := by rw [z_911, g_tg_arr, if_neg (fun y => by rw [y, f_912] at t_893; cases t_893)]; exact t_893
  have t_919 : st_tg σ_910 q_76 = some 301 := by rw [z_911, g_tg_arr, if_neg (fun y => by rw [y, f_912] at t_894; cases t_894)]; exact t_894
  have t_920 : st_tg σ_910 q_97 = some 301 := by rw [z_911, g_tg_arr, if_neg (fun y => by rw [y, f_912] at t_895; cases t_895)]; exact t_895
  have t_921 : st_tg σ_910 q_120 = some 301 := by rw [z_911, g_tg_arr, if_neg (fun y => by rw [y, f_912] at t_896; cases t_896)]; exact t_896
  have t_922 : st_tg σ_910 q_145 = some 302 := by rw [z_911, g_tg_arr, if_neg (fun y => by rw [y, f_912] at t_897; cases t_897)]; exact t_897
  have t_923 : st_tg σ_910 q_172 = some 303 := by rw [z_911, g_tg_arr, if_neg (fun y => by rw [y, f_912] at t_898; cases t_898)]; exact t_898
  have t_924 : st_tg σ_910 q_201 = some 302 := by rw [z_911, g_tg_arr, if_neg (fun y => by rw [y, f_912] at t_899; cases t_899)]; exact t_899
  have t_925 : st_tg σ_910 q_292 = some 302 := by rw [z_911, g_tg_arr, if_neg (fun y => by rw [y, f_912] at t_900; cases t_900)]; exact t_900
  have t_926 : st_tg σ_910 q_325 = some 302 := by rw [z_911, g_tg_arr, if_neg (fun y => by rw [y, f_912] at t_901; cases t_901)]; exact t_901
  have t_927 : st_tg σ_910 q_496 = some 303 := by rw [z_911, g_tg_arr, if_neg (fun y => by rw [y, f_912] at t_902; cases t_902)]; exact t_902
  have t_928 : st_tg σ_910 q_533 = some 301 := by rw [z_911, g_tg_arr, if_neg (fun y => by rw [y, f_912] at t_903; cases t_903)]; exact t_903
  have t_929 : st_tg σ_910 q_572 = some 302 := by rw [z_911, g_tg_arr, if_neg (fun y => by rw [y, f_912] at t_904; cases t_904)]; exact t_904
  have t_930 : st_tg σ_910 q_773 = some 302 := by rw [z_911, g_tg_arr, if_neg (fun y => by rw [y, f_912] at t_905; cases t_905)]; exact t_905
  have t_931 : st_tg σ_910 q_816 = some 301 := by rw [z_911, g_tg_arr, if_neg (fun y => by rw [y, f_912] at t_906; cases t_906)]; exact t_906
  have t_932 : st_tg σ_910 q_861 = some 301 := by rw [z_911, g_tg_arr, if_neg (fun y => by rw [y, f_912] at t_907; cases t_907)]; exact t_907
  have t_933 : st_tg σ_910 q_908 = some 301 := by rw [z_911, g_tg_arr, if_pos rfl]
  obtain ⟨σ_934, z_935⟩ : ∃ y : ST, y = st_sR σ_910 62 h0 (some q_908) := ⟨_, rfl⟩
  have h := h σ_934 z_935
  refine ms_putF (σ := σ_910) (r := some h0) (a := h0) (fs := fl_1 σ_910 h0) (ci := 1) (C := R_M) (T := T_M) (N := 32) (v := va_rf (some q_908)) (ty := (.array .int)) hx hb hts in_1 ty_M ty_M_ok nm_M hown hK hH hS rfl (cell_1 t_914) rfl 22 (by decide) (hts _ wd_439) (fun _ h9 => h9) rfl hin rfl (by decide +kernel) (nar_ra _ _) (fit_ra _ _) (Nat.le_of_ble_eq_true rfl) d_M_init_296 (σ1 := σ_934) (by rw [z_935]; exact put_1_22 σ_910 h0 (some q_908) t_914) (by rw [z_935]; rfl) (by rw [z_935]; rfl) (fun H locs hH hK hS => ?_)
  have t_936 : st_tg σ_934 q_1 = some 301 := by rw [z_935]; exact t_913
  have t_937 : st_tg σ_934 h0 = some 1 := by rw [z_935]; exact t_914
  have t_938 : st_tg σ_934 q_12 = some 302 := by rw [z_935]; exact t_915
  have t_939 : st_tg σ_934 q_25 = some 302 := by rw [z_935]; exact t_916
  have t_940 : st_tg σ_934 q_40 = some 301 := by rw [z_935]; exact t_917
  have t_941 : st_tg σ_934 q_57 = some 301 := by rw [z_935]; exact t_918
  have t_942 : st_tg σ_934 q_76 = some 301 := by rw [z_935]; exact t_919
  have t_943 : st_tg σ_934 q_97 = some 301 := by rw [z_935]; exact t_920
  have t_944 : st_tg σ_934 q_120 = some 301 := by rw [z_935]; exact t_921
  have t_945 : st_tg σ_934 q_145 = some 302 := by rw [z_935]; exact t_922
  have t_946 : st_tg σ_934 q_172 = some 303 := by rw [z_935]; exact t_923
  have t_947 : st_tg σ_934 q_201 = some 302 := by rw [z_935]; exact t_924
  have t_948 : st_tg σ_934 q_292 = some 302 := by rw [z_935]; exact t_925
  have t_949 : st_tg σ_934 q_325 = some 302 := by rw [z_935]; exact t_926
  have t_950 : st_tg σ_934 q_496 = some 303 := by rw [z_935]; exact t_927
  have t_951 : st_tg σ_934 q_533 = some 301 := by rw [z_935]; exact t_928
  have t_952 : st_tg σ_934 q_572 = some 302 := by rw [z_935]; exact t_929
  have t_953 : st_tg σ_934 q_773 = some 302 := by rw [z_935]; exact t_930
  have t_954 : st_tg σ_934 q_816 = some 301 := by rw [z_935]; exact t_931
  have t_955 : st_tg σ_934 q_861 = some 301 := by rw [z_935]; exact t_932
  have t_956 : st_tg σ_934 q_908 = some 301 := by rw [z_935]; exact t_933
  refine mr_aload_n hx hb d_M_init_299 rfl (lv_at hl 0 rfl) ?_
  refine lv_sipush (v := 128) hx hb d_M_init_300 (by decide) ?_
  refine ms_newa (σ := σ_934) (atype := .long) (y := .inr (.inl (fun _ => 0))) hx hb (hts _ wd_66) rfl hK hH hS hA 302 rfl (n := 128) (N' := 128) (fun cA => rfl) (by decide) (by decide) (by decide) (by decide) (by decide) d_M_init_303 (fun q cA hq => anew_302 σ_934 q cA 128 hq) (fun q_957 C_958 H f_961 hH hK hS => ?_)
  obtain ⟨σ_959, z_960⟩ : ∃ y : ST, y = st_arr σ_934 q_957 302 C_958 128 := ⟨_, rfl⟩
  rw [← z_960] at hH hK
  have h := h q_957 C_958 f_961 σ_959 z_960
  have t_962 : st_tg σ_959 q_1 = some 301 := by rw [z_960, g_tg_arr, if_neg (fun y => by rw [y, f_961] at t_936; cases t_936)]; exact t_936
  have t_963 : st_tg σ_959 h0 = some 1 := by rw [z_960, g_tg_arr, if_neg (fun y => by rw [y, f_961] at t_937; cases t_937)]; exact t_937
  have t_964 : st_tg σ_959 q_12 = some 302 := by rw [z_960, g_tg_arr, if_neg (fun y => by rw [y, f_961] at t_938; cases t_938)]; exact t_938
  have t_965 : st_tg σ_959 q_25 = some 302 := by rw [z_960, g_tg_arr, if_neg (fun y => by rw [y, f_961] at t_939; cases t_939)]; exact t_939
  have t_966 : st_tg σ_959 q_40 = some 301 := by rw [z_960, g_tg_arr, if_neg (fun y => by rw [y, f_961] at t_940; cases t_940)]; exact t_940
  have t_967 : st_tg σ_959 q_57 = some 301 := by rw [z_960, g_tg_arr, if_neg (fun y => by rw [y, f_961] at t_941; cases t_941)]; exact t_941
  have t_968 : st_tg σ_959 q_76 = some 301 := by rw [z_960, g_tg_arr, if_neg (fun y => by rw [y, f_961] at t_942; cases t_942)]; exact t_942
  have t_969 : st_tg σ_959 q_97 = some 301 := by rw [z_960, g_tg_arr, if_neg (fun y => by rw [y, f_961] at t_943; cases t_943)]; exact t_943
  have t_970 : st_tg σ_959 q_120 = some 301 := by rw [z_960, g_tg_arr, if_neg (fun y => by rw [y, f_961] at t_944; cases t_944)]; exact t_944
  have t_971 : st_tg σ_959 q_145 = some 302 := by rw [z_960, g_tg_arr, if_neg (fun y => by rw [y, f_961] at t_945; cases t_945)]; exact t_945
  have t_972 : st_tg σ_959 q_172 = some 303 := by rw [z_960, g_tg_arr, if_neg (fun y => by rw [y, f_961] at t_946; cases t_946)]; exact t_946
  have t_973 : st_tg σ_959 q_201 = some 302 := by rw [z_960, g_tg_arr, if_neg (fun y => by rw [y, f_961] at t_947; cases t_947)]; exact t_947
  have t_974 : st_tg σ_959 q_292 = some 302 := by rw [z_960, g_tg_arr, if_neg (fun y => by rw [y, f_961] at t_948; cases t_948)]; exact t_948
  have t_975 : st_tg σ_959 q_325 = some 302 := by rw [z_960, g_tg_arr, if_neg (fun y => by rw [y, f_961] at t_949; cases t_949)]; exact t_949
  have t_976 : st_tg σ_959 q_496 = some 303 := by rw [z_960, g_tg_arr, if_neg (fun y => by rw [y, f_961] at t_950; cases t_950)]; exact t_950
  have t_977 : st_tg σ_959 q_533 = some 301 := by rw [z_960, g_tg_arr, if_neg (fun y => by rw [y, f_961] at t_951; cases t_951)]; exact t_951
  have t_978 : st_tg σ_959 q_572 = some 302 := by rw [z_960, g_tg_arr, if_neg (fun y => by rw [y, f_961] at t_952; cases t_952)]; exact t_952
  have t_979 : st_tg σ_959 q_773 = some 302 := by rw [z_960, g_tg_arr, if_neg (fun y => by rw [y, f_961] at t_953; cases t_953)]; exact t_953
  have t_980 : st_tg σ_959 q_816 = some 301 := by rw [z_960, g_tg_arr, if_neg (fun y => by rw [y, f_961] at t_954; cases t_954)]; exact t_954
  have t_981 : st_tg σ_959 q_861 = some 301 := by rw [z_960, g_tg_arr, if_neg (fun y => by rw [y, f_961] at t_955; cases t_955)]; exact t_955
  have t_982 : st_tg σ_959 q_908 = some 301 := by rw [z_960, g_tg_arr, if_neg (fun y => by rw [y, f_961] at t_956; cases t_956)]; exact t_956
  have t_983 : st_tg σ_959 q_957 = some 302 := by rw [z_960, g_tg_arr, if_pos rfl]
  obtain ⟨σ_984, z_985⟩ : ∃ y : ST, y = st_sR σ_959 63 h0 (some q_957) := ⟨_, rfl⟩
  have h := h σ_984 z_985
  refine ms_putF (σ := σ_959) (r := some h0) (a := h0) (fs := fl_1 σ_959 h0) (ci := 1) (C := R_M) (T := T_M) (N := 32) (v := va_rf (some q_957)) (ty := (.array .long)) hx hb hts in_1 ty_M ty_M_ok nm_M hown hK hH hS rfl (cell_1 t_963) rfl 23 (by decide) (hts _ wd_440) (fun _ h9 => h9) rfl hin rfl (by decide +kernel) (nar_ra _ _) (fit_ra _ _) (Nat.le_of_ble_eq_true rfl) d_M_init_305 (σ1 := σ_984) (by rw [z_985]; exact put_1_23 σ_959 h0 (some q_957) t_963) (by rw [z_985]; rfl) (by rw [z_985]; rfl) (fun H locs hH hK hS => ?_)
  have t_986 : st_tg σ_984 q_1 = some 301 := by rw [z_985]; exact t_962
  have t_987 : st_tg σ_984 h0 = some 1 := by rw [z_985]; exact t_963
  have t_988 : st_tg σ_984 q_12 = some 302 := by rw [z_985]; exact t_964
  have t_989 : st_tg σ_984 q_25 = some 302 := by rw [z_985]; exact t_965
  have t_990 : st_tg σ_984 q_40 = some 301 := by rw [z_985]; exact t_966
  have t_991 : st_tg σ_984 q_57 = some 301 := by rw [z_985]; exact t_967
  have t_992 : st_tg σ_984 q_76 = some 301 := by rw [z_985]; exact t_968
  have t_993 : st_tg σ_984 q_97 = some 301 := by rw [z_985]; exact t_969
  have t_994 : st_tg σ_984 q_120 = some 301 := by rw [z_985]; exact t_970
  have t_995 : st_tg σ_984 q_145 = some 302 := by rw [z_985]; exact t_971
  have t_996 : st_tg σ_984 q_172 = some 303 := by rw [z_985]; exact t_972
  have t_997 : st_tg σ_984 q_201 = some 302 := by rw [z_985]; exact t_973
  have t_998 : st_tg σ_984 q_292 = some 302 := by rw [z_985]; exact t_974
  have t_999 : st_tg σ_984 q_325 = some 302 := by rw [z_985]; exact t_975
  have t_1000 : st_tg σ_984 q_496 = some 303 := by rw [z_985]; exact t_976
  have t_1001 : st_tg σ_984 q_533 = some 301 := by rw [z_985]; exact t_977
  have t_1002 : st_tg σ_984 q_572 = some 302 := by rw [z_985]; exact t_978
  have t_1003 : st_tg σ_984 q_773 = some 302 := by rw [z_985]; exact t_979
  have t_1004 : st_tg σ_984 q_816 = some 301 := by rw [z_985]; exact t_980
  have t_1005 : st_tg σ_984 q_861 = some 301 := by rw [z_985]; exact t_981
  have t_1006 : st_tg σ_984 q_908 = some 301 := by rw [z_985]; exact t_982
  have t_1007 : st_tg σ_984 q_957 = some 302 := by rw [z_985]; exact t_983
  refine mr_aload_n hx hb d_M_init_308 rfl (lv_at hl 0 rfl) ?_
  refine lv_sipush (v := 128) hx hb d_M_init_309 (by decide) ?_
  refine ms_newa (σ := σ_984) (atype := .int) (y := .inl (fun _ => 0)) hx hb (hts _ wd_514) rfl hK hH hS hA 301 rfl (n := 128) (N' := 128) (fun cA => rfl) (by decide) (by decide) (by decide) (by decide) (by decide) d_M_init_312 (fun q cA hq => anew_301 σ_984 q cA 128 hq) (fun q_1008 C_1009 H f_1012 hH hK hS => ?_)
  obtain ⟨σ_1010, z_1011⟩ : ∃ y : ST, y = st_arr σ_984 q_1008 301 C_1009 128 := ⟨_, rfl⟩
  rw [← z_1011] at hH hK
  have h := h q_1008 C_1009 f_1012 σ_1010 z_1011
  have t_1013 : st_tg σ_1010 q_1 = some 301 := by rw [z_1011, g_tg_arr, if_neg (fun y => by rw [y, f_1012] at t_986; cases t_986)]; exact t_986
  have t_1014 : st_tg σ_1010 h0 = some 1 := by rw [z_1011, g_tg_arr, if_neg (fun y => by rw [y, f_1012] at t_987; cases t_987)]; exact t_987
  have t_1015 : st_tg σ_1010 q_12 = some 302 := by rw [z_1011, g_tg_arr, if_neg (fun y => by rw [y, f_1012] at t_988; cases t_988)]; exact t_988
  have t_1016 : st_tg σ_1010 q_25 = some 302 := by rw [z_1011, g_tg_arr, if_neg (fun y => by rw [y, f_1012] at t_989; cases t_989)]; exact t_989
  have t_1017 : st_tg σ_1010 q_40 = some 301 := by rw [z_1011, g_tg_arr, if_neg (fun y => by rw [y, f_1012] at t_990; cases t_990)]; exact t_990
  have t_1018 : st_tg σ_1010 q_57 = some 301 := by rw [z_1011, g_tg_arr, if_neg (fun y => by rw [y, f_1012] at t_991; cases t_991)]; exact t_991
  have t_1019 : st_tg σ_1010 q_76 = some 301 := by rw [z_1011, g_tg_arr, if_neg (fun y => by rw [y, f_1012] at t_992; cases t_992)]; exact t_992
  have t_1020 : st_tg σ_1010 q_97 = some 301 := by rw [z_1011, g_tg_arr, if_neg (fun y => by rw [y, f_1012] at t_993; cases t_993)]; exact t_993
  have t_1021 : st_tg σ_1010 q_120 = some 301 := by rw [z_1011, g_tg_arr, if_neg (fun y => by rw [y, f_1012] at t_994; cases t_994)]; exact t_994
  have t_1022 : st_tg σ_1010 q_145 = some 302 := by rw [z_1011, g_tg_arr, if_neg (fun y => by rw [y, f_1012] at t_995; cases t_995)]; exact t_995
  have t_1023 : st_tg σ_1010 q_172 = some 303 := by rw [z_1011, g_tg_arr, if_neg (fun y => by rw [y, f_1012] at t_996; cases t_996)]; exact t_996
  have t_1024 : st_tg σ_1010 q_201 = some 302 := by rw [z_1011, g_tg_arr, if_neg (fun y => by rw [y, f_1012] at t_997; cases t_997)]; exact t_997
  have t_1025 : st_tg σ_1010 q_292 = some 302 := by rw [z_1011, g_tg_arr, if_neg (fun y => by rw [y, f_1012] at t_998; cases t_998)]; exact t_998
  have t_1026 : st_tg σ_1010 q_325 = some 302 := by rw [z_1011, g_tg_arr, if_neg (fun y => by rw [y, f_1012] at t_999; cases t_999)]; exact t_999
  have t_1027 : st_tg σ_1010 q_496 = some 303 := by rw [z_1011, g_tg_arr, if_neg (fun y => by rw [y, f_1012] at t_1000; cases t_1000)]; exact t_1000
  have t_1028 : st_tg σ_1010 q_533 = some 301 := by rw [z_1011, g_tg_arr, if_neg (fun y => by rw [y, f_1012] at t_1001; cases t_1001)]; exact t_1001
  have t_1029 : st_tg σ_1010 q_572 = some 302 := by rw [z_1011, g_tg_arr, if_neg (fun y => by rw [y, f_1012] at t_1002; cases t_1002)]; exact t_1002
  have t_1030 : st_tg σ_1010 q_773 = some 302 := by rw [z_1011, g_tg_arr, if_neg (fun y => by rw [y, f_1012] at t_1003; cases t_1003)]; exact t_1003
  have t_1031 : st_tg σ_1010 q_816 = some 301 := by rw [z_1011, g_tg_arr, if_neg (fun y => by rw [y, f_1012] at t_1004; cases t_1004)]; exact t_1004
  have t_1032 : st_tg σ_1010 q_861 = some 301 := by rw [z_1011, g_tg_arr, if_neg (fun y => by rw [y, f_1012] at t_1005; cases t_1005)]; exact t_1005
  have t_1033 : st_tg σ_1010 q_908 = some 301 := by rw [z_1011, g_tg_arr, if_neg (fun y => by rw [y, f_1012] at t_1006; cases t_1006)]; exact t_1006
  have t_1034 : st_tg σ_1010 q_957 = some 302 := by rw [z_1011, g_tg_arr, if_neg (fun y => by rw [y, f_1012] at t_1007; cases t_1007)]; exact t_1007
  have t_1035 : st_tg σ_1010 q_1008 = some 301 := by rw [z_1011, g_tg_arr, if_pos rfl]
  obtain ⟨σ_1036, z_1037⟩ : ∃ y : ST, y = st_sR σ_1010 64 h0 (some q_1008) := ⟨_, rfl⟩
  have h := h σ_1036 z_1037
  refine ms_putF (σ := σ_1010) (r := some h0) (a := h0) (fs := fl_1 σ_1010 h0) (ci := 1) (C := R_M) (T := T_M) (N := 32) (v := va_rf (some q_1008)) (ty := (.array .int)) hx hb hts in_1 ty_M ty_M_ok nm_M hown hK hH hS rfl (cell_1 t_1014) rfl 24 (by decide) (hts _ wd_441) (fun _ h9 => h9) rfl hin rfl (by decide +kernel) (nar_ra _ _) (fit_ra _ _) (Nat.le_of_ble_eq_true rfl) d_M_init_314 (σ1 := σ_1036) (by rw [z_1037]; exact put_1_24 σ_1010 h0 (some q_1008) t_1014) (by rw [z_1037]; rfl) (by rw [z_1037]; rfl) (fun H locs hH hK hS => ?_)
  have t_1038 : st_tg σ_1036 q_1 = some 301 := by rw [z_1037]; exact t_1013
  have t_1039 : st_tg σ_1036 h0 = some 1 := by rw [z_1037]; exact t_1014
  have t_1040 : st_tg σ_1036 q_12 = some 302 := by rw [z_1037]; exact t_1015
  have t_1041 : st_tg σ_1036 q_25 = some 302 := by rw [z_1037]; exact t_1016
  have t_1042 : st_tg σ_1036 q_40 = some 301 := by rw [z_1037]; exact t_1017
  have t_1043 : st_tg σ_1036 q_57 = some 301 := by rw [z_1037]; exact t_1018
  have t_1044 : st_tg σ_1036 q_76 = some 301 := by rw [z_1037]; exact t_1019
  have t_1045 : st_tg σ_1036 q_97 = some 301 := by rw [z_1037]; exact t_1020
  have t_1046 : st_tg σ_1036 q_120 = some 301 := by rw [z_1037]; exact t_1021
  have t_1047 : st_tg σ_1036 q_145 = some 302 := by rw [z_1037]; exact t_1022
  have t_1048 : st_tg σ_1036 q_172 = some 303 := by rw [z_1037]; exact t_1023
  have t_1049 : st_tg σ_1036 q_201 = some 302 := by rw [z_1037]; exact t_1024
  have t_1050 : st_tg σ_1036 q_292 = some 302 := by rw [z_1037]; exact t_1025
  have t_1051 : st_tg σ_1036 q_325 = some 302 := by rw [z_1037]; exact t_1026
  have t_1052 : st_tg σ_1036 q_496 = some 303 := by rw [z_1037]; exact t_1027
  have t_1053 : st_tg σ_1036 q_533 = some 301 := by rw [z_1037]; exact t_1028
  have t_1054 : st_tg σ_1036 q_572 = some 302 := by rw [z_1037]; exact t_1029
  have t_1055 : st_tg σ_1036 q_773 = some 302 := by rw [z_1037]; exact t_1030
  have t_1056 : st_tg σ_1036 q_816 = some 301 := by rw [z_1037]; exact t_1031
  have t_1057 : st_tg σ_1036 q_861 = some 301 := by rw [z_1037]; exact t_1032
  have t_1058 : st_tg σ_1036 q_908 = some 301 := by rw [z_1037]; exact t_1033
  have t_1059 : st_tg σ_1036 q_957 = some 302 := by rw [z_1037]; exact t_1034
  have t_1060 : st_tg σ_1036 q_1008 = some 301 := by rw [z_1037]; exact t_1035
  refine mr_aload_n hx hb d_M_init_317 rfl (lv_at hl 0 rfl) ?_
  refine lv_sipush (v := 128) hx hb d_M_init_318 (by decide) ?_
  refine ms_newa (σ := σ_1036) (atype := .long) (y := .inr (.inl (fun _ => 0))) hx hb (hts _ wd_66) rfl hK hH hS hA 302 rfl (n := 128) (N' := 128) (fun cA => rfl) (by decide) (by decide) (by decide) (by decide) (by decide) d_M_init_321 (fun q cA hq => anew_302 σ_1036 q cA 128 hq) (fun q_1061 C_1062 H f_1065 hH hK hS => ?_)
  obtain ⟨σ_1063, z_1064⟩ : ∃ y : ST, y = st_arr σ_1036 q_1061 302 C_1062 128 := ⟨_, rfl⟩
  rw [← z_1064] at hH hK
  have h := h q_1061 C_1062 f_1065 σ_1063 z_1064
  have t_1066 : st_tg σ_1063 q_1 = some 301 := by rw [z_1064, g_tg_arr, if_neg (fun y => by rw [y, f_1065] at t_1038; cases t_1038)]; exact t_1038
  have t_1067 : st_tg σ_1063 h0 = some 1 := by rw [z_1064, g_tg_arr, if_neg (fun y => by rw [y, f_1065] at t_1039; cases t_1039)]; exact t_1039
  have t_1068 : st_tg σ_1063 q_12 = some 302 := by rw [z_1064, g_tg_arr, if_neg (fun y => by rw [y, f_1065] at t_1040; cases t_1040)]; exact t_1040
  have t_1069 : st_tg σ_1063 q_25 = some 302 := by rw [z_1064, g_tg_arr, if_neg (fun y => by rw [y, f_1065] at t_1041; cases t_1041)]; exact t_1041
  have t_1070 : st_tg σ_1063 q_40 = some 301 := by rw [z_1064, g_tg_arr, if_neg (fun y => by rw [y, f_1065] at t_1042; cases t_1042)]; exact t_1042
  have t_1071 : st_tg σ_1063 q_57 = some 301 := by rw [z_1064, g_tg_arr, if_neg (fun y => by rw [y, f_1065] at t_1043; cases t_1043)]; exact t_1043
  have t_1072 : st_tg σ_1063 q_76 = some 301 := by rw [z_1064, g_tg_arr, if_neg (fun y => by rw [y, f_1065] at t_1044; cases t_1044)]; exact t_1044
  have t_1073 : st_tg σ_1063 q_97 = some 301 := by rw [z_1064, g_tg_arr, if_neg (fun y => by rw [y, f_1065] at t_1045; cases t_1045)]; exact t_1045
  have t_1074 : st_tg σ_1063 q_120 = some 301 := by rw [z_1064, g_tg_arr, if_neg (fun y => by rw [y, f_1065] at t_1046; cases t_1046)]; exact t_1046
  have t_1075 : st_tg σ_1063 q_145 = some 302 := by rw [z_1064, g_tg_arr, if_neg (fun y => by rw [y, f_1065] at t_1047; cases t_1047)]; exact t_1047
  have t_1076 : st_tg σ_1063 q_172 = some 303 := by rw [z_1064, g_tg_arr, if_neg (fun y => by rw [y, f_1065] at t_1048; cases t_1048)]; exact t_1048
  have t_1077 : st_tg σ_1063 q_201 = some 302 := by rw [z_1064, g_tg_arr, if_neg (fun y => by rw [y, f_1065] at t_1049; cases t_1049)]; exact t_1049
  have t_1078 : st_tg σ_1063 q_292 = some 302 := by rw [z_1064, g_tg_arr, if_neg (fun y => by rw [y, f_1065] at t_1050; cases t_1050)]; exact t_1050
  have t_1079 : st_tg σ_1063 q_325 = some 302 := by rw [z_1064, g_tg_arr, if_neg (fun y => by rw [y, f_1065] at t_1051; cases t_1051)]; exact t_1051
  have t_1080 : st_tg σ_1063 q_496 = some 303 := by rw [z_1064, g_tg_arr, if_neg (fun y => by rw [y, f_1065] at t_1052; cases t_1052)]; exact t_1052
  have t_1081 : st_tg σ_1063 q_533 = some 301 := by rw [z_1064, g_tg_arr, if_neg (fun y => by rw [y, f_1065] at t_1053; cases t_1053)]; exact t_1053
  have t_1082 : st_tg σ_1063 q_572 = some 302 := by rw [z_1064, g_tg_arr, if_neg (fun y => by rw [y, f_1065] at t_1054; cases t_1054)]; exact t_1054
  have t_1083 : st_tg σ_1063 q_773 = some 302 := by rw [z_1064, g_tg_arr, if_neg (fun y => by rw [y, f_1065] at t_1055; cases t_1055)]; exact t_1055
  have t_1084 : st_tg σ_1063 q_816 = some 301 := by rw [z_1064, g_tg_arr, if_neg (fun y => by rw [y, f_1065] at t_1056; cases t_1056)]; exact t_1056
  have t_1085 : st_tg σ_1063 q_861 = some 301 := by rw [z_1064, g_tg_arr, if_neg (fun y => by rw [y, f_1065] at t_1057; cases t_1057)]; exact t_1057
  have t_1086 : st_tg σ_1063 q_908 = some 301 := by rw [z_1064, g_tg_arr, if_neg (fun y => by rw [y, f_1065] at t_1058; cases t_1058)]; exact t_1058
  have t_1087 : st_tg σ_1063 q_957 = some 302 := by rw [z_1064, g_tg_arr, if_neg (fun y => by rw [y, f_1065] at t_1059; cases t_1059)]; exact t_1059
  have t_1088 : st_tg σ_1063 q_1008 = some 301 := by rw [z_1064, g_tg_arr, if_neg (fun y => by rw [y, f_1065] at t_1060; cases t_1060)]; exact t_1060
  have t_1089 : st_tg σ_1063 q_1061 = some 302 := by rw [z_1064, g_tg_arr, if_pos rfl]
  obtain ⟨σ_1090, z_1091⟩ : ∃ y : ST, y = st_sR σ_1063 65 h0 (some q_1061) := ⟨_, rfl⟩
  have h := h σ_1090 z_1091
  refine ms_putF (σ := σ_1063) (r := some h0) (a := h0) (fs := fl_1 σ_1063 h0) (ci := 1) (C := R_M) (T := T_M) (N := 32) (v := va_rf (some q_1061)) (ty := (.array .long)) hx hb hts in_1 ty_M ty_M_ok nm_M hown hK hH hS rfl (cell_1 t_1067) rfl 25 (by decide) (hts _ wd_442) (fun _ h9 => h9) rfl hin rfl (by decide +kernel) (nar_ra _ _) (fit_ra _ _) (Nat.le_of_ble_eq_true rfl) d_M_init_323 (σ1 := σ_1090) (by rw [z_1091]; exact put_1_25 σ_1063 h0 (some q_1061) t_1067) (by rw [z_1091]; rfl) (by rw [z_1091]; rfl) (fun H locs hH hK hS => ?_)
  have t_1092 : st_tg σ_1090 q_1 = some 301 := by rw [z_1091]; exact t_1066
  have t_1093 : st_tg σ_1090 h0 = some 1 := by rw [z_1091]; exact t_1067
  have t_1094 : st_tg σ_1090 q_12 = some 302 := by rw [z_1091]; exact t_1068
  have t_1095 : st_tg σ_1090 q_25 = some 302 := by rw [z_1091]; exact t_1069
  have t_1096 : st_tg σ_1090 q_40 = some 301 := by rw [z_1091]; exact t_1070
  have t_1097 : st_tg σ_1090 q_57 = some 301 := by rw [z_1091]; exact t_1071
  have t_1098 : st_tg σ_1090 q_76 = some 301 := by rw [z_1091]; exact t_1072
  have t_1099 : st_tg σ_1090 q_97 = some 301 := by rw [z_1091]; exact t_1073
  have t_1100 : st_tg σ_1090 q_120 = some 301 := by rw [z_1091]; exact t_1074
  have t_1101 : st_tg σ_1090 q_145 = some 302 := by rw [z_1091]; exact t_1075
  have t_1102 : st_tg σ_1090 q_172 = some 303 := by rw [z_1091]; exact t_1076
  have t_1103 : st_tg σ_1090 q_201 = some 302 := by rw [z_1091]; exact t_1077
  have t_1104 : st_tg σ_1090 q_292 = some 302 := by rw [z_1091]; exact t_1078
  have t_1105 : st_tg σ_1090 q_325 = some 302 := by rw [z_1091]; exact t_1079
  have t_1106 : st_tg σ_1090 q_496 = some 303 := by rw [z_1091]; exact t_1080
  have t_1107 : st_tg σ_1090 q_533 = some 301 := by rw [z_1091]; exact t_1081
  have t_1108 : st_tg σ_1090 q_572 = some 302 := by rw [z_1091]; exact t_1082
  have t_1109 : st_tg σ_1090 q_773 = some 302 := by rw [z_1091]; exact t_1083
  have t_1110 : st_tg σ_1090 q_816 = some 301 := by rw [z_1091]; exact t_1084
  have t_1111 : st_tg σ_1090 q_861 = some 301 := by rw [z_1091]; exact t_1085
  have t_1112 : st_tg σ_1090 q_908 = some 301 := by rw [z_1091]; exact t_1086
  have t_1113 : st_tg σ_1090 q_957 = some 302 := by rw [z_1091]; exact t_1087
  have t_1114 : st_tg σ_1090 q_1008 = some 301 := by rw [z_1091]; exact t_1088
  have t_1115 : st_tg σ_1090 q_1061 = some 302 := by rw [z_1091]; exact t_1089
  refine mr_aload_n hx hb d_M_init_326 rfl (lv_at hl 0 rfl) ?_
  refine lv_sipush (v := 128) hx hb d_M_init_327 (by decide) ?_
  refine ms_newa (σ := σ_1090) (atype := .int) (y := .inl (fun _ => 0)) hx hb (hts _ wd_514) rfl hK hH hS hA 301 rfl (n := 128) (N' := 128) (fun cA => rfl) (by decide) (by decide) (by decide) (by decide) (by decide) d_M_init_330 (fun q cA hq => anew_301 σ_1090 q cA 128 hq) (fun q_1116 C_1117 H f_1120 hH hK hS => ?_)
  obtain ⟨σ_1118, z_1119⟩ : ∃ y : ST, y = st_arr σ_1090 q_1116 301 C_1117 128 := ⟨_, rfl⟩
  rw [← z_1119] at hH hK
  have h := h q_1116 C_1117 f_1120 σ_1118 z_1119
  have t_1121 : st_tg σ_1118 q_1 = some 301 := by rw [z_1119, g_tg_arr, if_neg (fun y => by rw [y, f_1120] at t_1092; cases t_1092)]; exact t_1092
  have t_1122 : st_tg σ_1118 h0 = some 1 := by rw [z_1119, g_tg_arr, if_neg (fun y => by rw [y, f_1120] at t_1093; cases t_1093)]; exact t_1093
  have t_1123 : st_tg σ_1118 q_12 = some 302 := by rw [z_1119, g_tg_arr, if_neg (fun y => by rw [y, f_1120] at t_1094; cases t_1094)]; exact t_1094
  have t_1124 : st_tg σ_1118 q_25 = some 302 := by rw [z_1119, g_tg_arr, if_neg (fun y => by rw [y, f_1120] at t_1095; cases t_1095)]; exact t_1095
  have t_1125 : st_tg σ_1118 q_40 = some 301 := by rw [z_1119, g_tg_arr, if_neg (fun y => by rw [y, f_1120] at t_1096; cases t_1096)]; exact t_1096
  have t_1126 : st_tg σ_1118 q_57 = some 301 := by rw [z_1119, g_tg_arr, if_neg (fun y => by rw [y, f_1120] at t_1097; cases t_1097)]; exact t_1097
  have t_1127 : st_tg σ_1118 q_76 = some 301 := by rw [z_1119, g_tg_arr, if_neg (fun y => by rw [y, f_1120] at t_1098; cases t_1098)]; exact t_1098
  have t_1128 : st_tg σ_1118 q_97 = some 301 := by rw [z_1119, g_tg_arr, if_neg (fun y => by rw [y, f_1120] at t_1099; cases t_1099)]; exact t_1099
  have t_1129 : st_tg σ_1118 q_120 = some 301 := by rw [z_1119, g_tg_arr, if_neg (fun y => by rw [y, f_1120] at t_1100; cases t_1100)]; exact t_1100
  have t_1130 : st_tg σ_1118 q_145 = some 302 := by rw [z_1119, g_tg_arr, if_neg (fun y => by rw [y, f_1120] at t_1101; cases t_1101)]; exact t_1101
  have t_1131 : st_tg σ_1118 q_172 = some 303 := by rw [z_1119, g_tg_arr, if_neg (fun y => by rw [y, f_1120] at t_1102; cases t_1102)]; exact t_1102
  have t_1132 : st_tg σ_1118 q_201 = some 302 := by rw [z_1119, g_tg_arr, if_neg (fun y => by rw [y, f_1120] at t_1103; cases t_1103)]; exact t_1103
  have t_1133 : st_tg σ_1118 q_292 = some 302 := by rw [z_1119, g_tg_arr, if_neg (fun y => by rw [y, f_1120] at t_1104; cases t_1104)]; exact t_1104
  have t_1134 : st_tg σ_1118 q_325 = some 302 := by rw [z_1119, g_tg_arr, if_neg (fun y => by rw [y, f_1120] at t_1105; cases t_1105)]; exact t_1105
  have t_1135 : st_tg σ_1118 q_496 = some 303 := by rw [z_1119, g_tg_arr, if_neg (fun y => by rw [y, f_1120] at t_1106; cases t_1106)]; exact t_1106
  have t_1136 : st_tg σ_1118 q_533 = some 301 := by rw [z_1119, g_tg_arr, if_neg (fun y => by rw [y, f_1120] at t_1107; cases t_1107)]; exact t_1107
  have t_1137 : st_tg σ_1118 q_572 = some 302 := by rw [z_1119, g_tg_arr, if_neg (fun y => by rw [y, f_1120] at t_1108; cases t_1108)]; exact t_1108
  have t_1138 : st_tg σ_1118 q_773 = some 302 := by rw [z_1119, g_tg_arr, if_neg (fun y => by rw [y, f_1120] at t_1109; cases t_1109)]; exact t_1109
  have t_1139 : st_tg σ_1118 q_816 = some 301 := by rw [z_1119, g_tg_arr, if_neg (fun y => by rw [y, f_1120] at t_1110; cases t_1110)]; exact t_1110
  have t_1140 : st_tg σ_1118 q_861 = some 301 := by rw [z_1119, g_tg_arr, if_neg (fun y => by rw [y, f_1120] at t_1111; cases t_1111)]; exact t_1111
  have t_1141 : st_tg σ_1118 q_908 = some 301 := by rw [z_1119, g_tg_arr, if_neg (fun y => by rw [y, f_1120] at t_1112; cases t_1112)]; exact t_1112
  have t_1142 : st_tg σ_1118 q_957 = some 302 := by rw [z_1119, g_tg_arr, if_neg (fun y => by rw [y, f_1120] at t_1113; cases t_1113)]; exact t_1113
  have t_1143 : st_tg σ_1118 q_1008 = some 301 := by rw [z_1119, g_tg_arr, if_neg (fun y => by rw [y, f_1120] at t_1114; cases t_1114)]; exact t_1114
  have t_1144 : st_tg σ_1118 q_1061 = some 302 := by rw [z_1119, g_tg_arr, if_neg (fun y => by rw [y, f_1120] at t_1115; cases t_1115)]; exact t_1115
  have t_1145 : st_tg σ_1118 q_1116 = some 301 := by rw [z_1119, g_tg_arr, if_pos rfl]
  obtain ⟨σ_1146, z_1147⟩ : ∃ y : ST, y = st_sR σ_1118 66 h0 (some q_1116) := ⟨_, rfl⟩
  have h := h σ_1146 z_1147
  refine ms_putF (σ := σ_1118) (r := some h0) (a := h0) (fs := fl_1 σ_1118 h0) (ci := 1) (C := R_M) (T := T_M) (N := 32) (v := va_rf (some q_1116)) (ty := (.array .int)) hx hb hts in_1 ty_M ty_M_ok nm_M hown hK hH hS rfl (cell_1 t_1122) rfl 26 (by decide) (hts _ wd_443) (fun _ h9 => h9) rfl hin rfl (by decide +kernel) (nar_ra _ _) (fit_ra _ _) (Nat.le_of_ble_eq_true rfl) d_M_init_332 (σ1 := σ_1146) (by rw [z_1147]; exact put_1_26 σ_1118 h0 (some q_1116) t_1122) (by rw [z_1147]; rfl) (by rw [z_1147]; rfl) (fun H locs hH hK hS => ?_)
  have t_1148 : st_tg σ_1146 q_1 = some 301 := by rw [z_1147]; exact t_1121
  have t_1149 : st_tg σ_1146 h0 = some 1 := by rw [z_1147]; exact t_1122
  have t_1150 : st_tg σ_1146 q_12 = some 302 := by rw [z_1147]; exact t_1123
  have t_1151 : st_tg σ_1146 q_25 = some 302 := by rw [z_1147]; exact t_1124
  have t_1152 : st_tg σ_1146 q_40 = some 301 := by rw [z_1147]; exact t_1125
  have t_1153 : st_tg σ_1146 q_57 = some 301 := by rw [z_1147]; exact t_1126
  have t_1154 : st_tg σ_1146 q_76 = some 301 := by rw [z_1147]; exact t_1127
  have t_1155 : st_tg σ_1146 q_97 = some 301 := by rw [z_1147]; exact t_1128
  have t_1156 : st_tg σ_1146 q_120 = some 301 := by rw [z_1147]; exact t_1129
  have t_1157 : st_tg σ_1146 q_145 = some 302 := by rw [z_1147]; exact t_1130
  have t_1158 : st_tg σ_1146 q_172 = some 303 := by rw [z_1147]; exact t_1131
  have t_1159 : st_tg σ_1146 q_201 = some 302 := by rw [z_1147]; exact t_1132
  have t_1160 : st_tg σ_1146 q_292 = some 302 := by rw [z_1147]; exact t_1133
  have t_1161 : st_tg σ_1146 q_325 = some 302 := by rw [z_1147]; exact t_1134
  have t_1162 : st_tg σ_1146 q_496 = some 303 := by rw [z_1147]; exact t_1135
  have t_1163 : st_tg σ_1146 q_533 = some 301 := by rw [z_1147]; exact t_1136
  have t_1164 : st_tg σ_1146 q_572 = some 302 := by rw [z_1147]; exact t_1137
  have t_1165 : st_tg σ_1146 q_773 = some 302 := by rw [z_1147]; exact t_1138
  have t_1166 : st_tg σ_1146 q_816 = some 301 := by rw [z_1147]; exact t_1139
  have t_1167 : st_tg σ_1146 q_861 = some 301 := by rw [z_1147]; exact t_1140
  have t_1168 : st_tg σ_1146 q_908 = some 301 := by rw [z_1147]; exact t_1141
  have t_1169 : st_tg σ_1146 q_957 = some 302 := by rw [z_1147]; exact t_1142
  have t_1170 : st_tg σ_1146 q_1008 = some 301 := by rw [z_1147]; exact t_1143
  have t_1171 : st_tg σ_1146 q_1061 = some 302 := by rw [z_1147]; exact t_1144
  have t_1172 : st_tg σ_1146 q_1116 = some 301 := by rw [z_1147]; exact t_1145
  refine mr_aload_n hx hb d_M_init_335 rfl (lv_at hl 0 rfl) ?_
  refine lv_bipush (v := 100) hx hb d_M_init_336 (by decide) ?_
  refine ms_newa (σ := σ_1146) (atype := .int) (y := .inl (fun _ => 0)) hx hb (hts _ wd_514) rfl hK hH hS hA 301 rfl (n := 100) (N' := 100) (fun cA => rfl) (by decide) (by decide) (by decide) (by decide) (by decide) d_M_init_338 (fun q cA hq => anew_301 σ_1146 q cA 100 hq) (fun q_1173 C_1174 H f_1177 hH hK hS => ?_)
  obtain ⟨σ_1175, z_1176⟩ : ∃ y : ST, y = st_arr σ_1146 q_1173 301 C_1174 100 := ⟨_, rfl⟩
  rw [← z_1176] at hH hK
  have h := h q_1173 C_1174 f_1177 σ_1175 z_1176
  have t_1178 : st_tg σ_1175 q_1 = some 301 := by rw [z_1176, g_tg_arr, if_neg (fun y => by rw [y, f_1177] at t_1148; cases t_1148)]; exact t_1148
  have t_1179 : st_tg σ_1175 h0 = some 1 := by rw [z_1176, g_tg_arr, if_neg (fun y => by rw [y, f_1177] at t_1149; cases t_1149)]; exact t_1149
  have t_1180 : st_tg σ_1175 q_12 = some 302 := by rw [z_1176, g_tg_arr, if_neg (fun y => by rw [y, f_1177] at t_1150; cases t_1150)]; exact t_1150
  have t_1181 : st_tg σ_1175 q_25 = some 302 := by rw [z_1176, g_tg_arr, if_neg (fun y => by rw [y, f_1177] at t_1151; cases t_1151)]; exact t_1151
  have t_1182 : st_tg σ_1175 q_40 = some 301 := by rw [z_1176, g_tg_arr, if_neg (fun y => by rw [y, f_1177] at t_1152; cases t_1152)]; exact t_1152
  have t_1183 : st_tg σ_1175 q_57 = some 301 := by rw [z_1176, g_tg_arr, if_neg (fun y => by rw [y, f_1177] at t_1153; cases t_1153)]; exact t_1153
  have t_1184 : st_tg σ_1175 q_76 = some 301 := by rw [z_1176, g_tg_arr, if_neg (fun y => by rw [y, f_1177] at t_1154; cases t_1154)]; exact t_1154
  have t_1185 : st_tg σ_1175 q_97 = some 301 := by rw [z_1176, g_tg_arr, if_neg (fun y => by rw [y, f_1177] at t_1155; cases t_1155)]; exact t_1155
  have t_1186 : st_tg σ_1175 q_120 = some 301 := by rw [z_1176, g_tg_arr, if_neg (fun y => by rw [y, f_1177] at t_1156; cases t_1156)]; exact t_1156
  have t_1187 : st_tg σ_1175 q_145 = some 302 := by rw [z_1176, g_tg_arr, if_neg (fun y => by rw [y, f_1177] at t_1157; cases t_1157)]; exact t_1157
  have t_1188 : st_tg σ_1175 q_172 = some 303 := by rw [z_1176, g_tg_arr, if_neg (fun y => by rw [y, f_1177] at t_1158; cases t_1158)]; exact t_1158
  have t_1189 : st_tg σ_1175 q_201 = some 302 := by rw [z_1176, g_tg_arr, if_neg (fun y => by rw [y, f_1177] at t_1159; cases t_1159)]; exact t_1159
  have t_1190 : st_tg σ_1175 q_292 = some 302 := by rw [z_1176, g_tg_arr, if_neg (fun y => by rw [y, f_1177] at t_1160; cases t_1160)]; exact t_1160
  have t_1191 : st_tg σ_1175 q_325 = some 302 := by rw [z_1176, g_tg_arr, if_neg (fun y => by rw [y, f_1177] at t_1161; cases t_1161)]; exact t_1161
  have t_1192 : st_tg σ_1175 q_496 = some 303 := by rw [z_1176, g_tg_arr, if_neg (fun y => by rw [y, f_1177] at t_1162; cases t_1162)]; exact t_1162
  have t_1193 : st_tg σ_1175 q_533 = some 301 := by rw [z_1176, g_tg_arr, if_neg (fun y => by rw [y, f_1177] at t_1163; cases t_1163)]; exact t_1163
  have t_1194 : st_tg σ_1175 q_572 = some 302 := by rw [z_1176, g_tg_arr, if_neg (fun y => by rw [y, f_1177] at t_1164; cases t_1164)]; exact t_1164
  have t_1195 : st_tg σ_1175 q_773 = some 302 := by rw [z_1176, g_tg_arr, if_neg (fun y => by rw [y, f_1177] at t_1165; cases t_1165)]; exact t_1165
  have t_1196 : st_tg σ_1175 q_816 = some 301 := by rw [z_1176, g_tg_arr, if_neg (fun y => by rw [y, f_1177] at t_1166; cases t_1166)]; exact t_1166
  have t_1197 : st_tg σ_1175 q_861 = some 301 := by rw [z_1176, g_tg_arr, if_neg (fun y => by rw [y, f_1177] at t_1167; cases t_1167)]; exact t_1167
  have t_1198 : st_tg σ_1175 q_908 = some 301 := by rw [z_1176, g_tg_arr, if_neg (fun y => by rw [y, f_1177] at t_1168; cases t_1168)]; exact t_1168
  have t_1199 : st_tg σ_1175 q_957 = some 302 := by rw [z_1176, g_tg_arr, if_neg (fun y => by rw [y, f_1177] at t_1169; cases t_1169)]; exact t_1169
  have t_1200 : st_tg σ_1175 q_1008 = some 301 := by rw [z_1176, g_tg_arr, if_neg (fun y => by rw [y, f_1177] at t_1170; cases t_1170)]; exact t_1170
  have t_1201 : st_tg σ_1175 q_1061 = some 302 := by rw [z_1176, g_tg_arr, if_neg (fun y => by rw [y, f_1177] at t_1171; cases t_1171)]; exact t_1171
  have t_1202 : st_tg σ_1175 q_1116 = some 301 := by rw [z_1176, g_tg_arr, if_neg (fun y => by rw [y, f_1177] at t_1172; cases t_1172)]; exact t_1172
  have t_1203 : st_tg σ_1175 q_1173 = some 301 := by rw [z_1176, g_tg_arr, if_pos rfl]
  obtain ⟨σ_1204, z_1205⟩ : ∃ y : ST, y = st_sR σ_1175 68 h0 (some q_1173) := ⟨_, rfl⟩
  have h := h σ_1204 z_1205
  refine ms_putF (σ := σ_1175) (r := some h0) (a := h0) (fs := fl_1 σ_1175 h0) (ci := 1) (C := R_M) (T := T_M) (N := 32) (v := va_rf (some q_1173)) (ty := (.array .int)) hx hb hts in_1 ty_M ty_M_ok nm_M hown hK hH hS rfl (cell_1 t_1179) rfl 28 (by decide) (hts _ wd_445) (fun _ h9 => h9) rfl hin rfl (by decide +kernel) (nar_ra _ _) (fit_ra _ _) (Nat.le_of_ble_eq_true rfl) d_M_init_340 (σ1 := σ_1204) (by rw [z_1205]; exact put_1_28 σ_1175 h0 (some q_1173) t_1179) (by rw [z_1205]; rfl) (by rw [z_1205]; rfl) (fun H locs hH hK hS => ?_)
  have t_1206 : st_tg σ_1204 q_1 = some 301 := by rw [z_1205]; exact t_1178
  have t_1207 : st_tg σ_1204 h0 = some 1 := by rw [z_1205]; exact t_1179
  have t_1208 : st_tg σ_1204 q_12 = some 302 := by rw [z_1205]; exact t_1180
  have t_1209 : st_tg σ_1204 q_25 = some 302 := by rw [z_1205]; exact t_1181
  have t_1210 : st_tg σ_1204 q_40 = some 301 := by rw [z_1205]; exact t_1182
  have t_1211 : st_tg σ_1204 q_57 = some 301 := by rw [z_1205]; exact t_1183
  have t_1212 : st_tg σ_1204 q_76 = some 301 := by rw [z_1205]; exact t_1184
  have t_1213 : st_tg σ_1204 q_97 = some 301 := by rw [z_1205]; exact t_1185
  have t_1214 : st_tg σ_1204 q_120 = some 301 := by rw [z_1205]; exact t_1186
  have t_1215 : st_tg σ_1204 q_145 = some 302 := by rw [z_1205]; exact t_1187
  have t_1216 : st_tg σ_1204 q_172 = some 303 := by rw [z_1205]; exact t_1188
  have t_1217 : st_tg σ_1204 q_201 = some 302 := by rw [z_1205]; exact t_1189
  have t_1218 : st_tg σ_1204 q_292 = some 302 := by rw [z_1205]; exact t_1190
  have t_1219 : st_tg σ_1204 q_325 = some 302 := by rw [z_1205]; exact t_1191
  have t_1220 : st_tg σ_1204 q_496 = some 303 := by rw [z_1205]; exact t_1192
  have t_1221 : st_tg σ_1204 q_533 = some 301 := by rw [z_1205]; exact t_1193
  have t_1222 : st_tg σ_1204 q_572 = some 302 := by rw [z_1205]; exact t_1194
  have t_1223 : st_tg σ_1204 q_773 = some 302 := by rw [z_1205]; exact t_1195
  have t_1224 : st_tg σ_1204 q_816 = some 301 := by rw [z_1205]; exact t_1196
  have t_1225 : st_tg σ_1204 q_861 = some 301 := by rw [z_1205]; exact t_1197
  have t_1226 : st_tg σ_1204 q_908 = some 301 := by rw [z_1205]; exact t_1198
  have t_1227 : st_tg σ_1204 q_957 = some 302 := by rw [z_1205]; exact t_1199
  have t_1228 : st_tg σ_1204 q_1008 = some 301 := by rw [z_1205]; exact t_1200
  have t_1229 : st_tg σ_1204 q_1061 = some 302 := by rw [z_1205]; exact t_1201
  have t_1230 : st_tg σ_1204 q_1116 = some 301 := by rw [z_1205]; exact t_1202
  have t_1231 : st_tg σ_1204 q_1173 = some 301 := by rw [z_1205]; exact t_1203
  refine mr_aload_n hx hb d_M_init_343 rfl (lv_at hl 0 rfl) ?_
  refine lv_bipush (v := 100) hx hb d_M_init_344 (by decide) ?_
  refine ms_newa (σ := σ_1204) (atype := .long) (y := .inr (.inl (fun _ => 0))) hx hb (hts _ wd_66) rfl hK hH hS hA 302 rfl (n := 100) (N' := 100) (fun cA => rfl) (by decide) (by decide) (by decide) (by decide) (by decide) d_M_init_346 (fun q cA hq => anew_302 σ_1204 q cA 100 hq) (fun q_1232 C_1233 H f_1236 hH hK hS => ?_)
  obtain ⟨σ_1234, z_1235⟩ : ∃ y : ST, y = st_arr σ_1204 q_1232 302 C_1233 100 := ⟨_, rfl⟩
  rw [← z_1235] at hH hK
  have h := h q_1232 C_1233 f_1236 σ_1234 z_1235
  have t_1237 : st_tg σ_1234 q_1 = some 301 := by rw [z_1235, g_tg_arr, if_neg (fun y => by rw [y, f_1236] at t_1206; cases t_1206)]; exact t_1206
  have t_1238 : st_tg σ_1234 h0 = some 1 := by rw [z_1235, g_tg_arr, if_neg (fun y => by rw [y, f_1236] at t_1207; cases t_1207)]; exact t_1207
  have t_1239 : st_tg σ_1234 q_12 = some 302 := by rw [z_1235, g_tg_arr, if_neg (fun y => by rw [y, f_1236] at t_1208; cases t_1208)]; exact t_1208
  have t_1240 : st_tg σ_1234 q_25 = some 302 := by rw [z_1235, g_tg_arr, if_neg (fun y => by rw [y, f_1236] at t_1209; cases t_1209)]; exact t_1209
  have t_1241 : st_tg σ_1234 q_40 = some 301 := by rw [z_1235, g_tg_arr, if_neg (fun y => by rw [y, f_1236] at t_1210; cases t_1210)]; exact t_1210
  have t_1242 : st_tg σ_1234 q_57 = some 301 := by rw [z_1235, g_tg_arr, if_neg (fun y => by rw [y, f_1236] at t_1211; cases t_1211)]; exact t_1211
  have t_1243 : st_tg σ_1234 q_76 = some 301 := by rw [z_1235, g_tg_arr, if_neg (fun y => by rw [y, f_1236] at t_1212; cases t_1212)]; exact t_1212
  have t_1244 : st_tg σ_1234 q_97 = some 301 := by rw [z_1235, g_tg_arr, if_neg (fun y => by rw [y, f_1236] at t_1213; cases t_1213)]; exact t_1213
  have t_1245 : st_tg σ_1234 q_120 = some 301 := by rw [z_1235, g_tg_arr, if_neg (fun y => by rw [y, f_1236] at t_1214; cases t_1214)]; exact t_1214
  have t_1246 : st_tg σ_1234 q_145 = some 302 := by rw [z_1235, g_tg_arr, if_neg (fun y => by rw [y, f_1236] at t_1215; cases t_1215)]; exact t_1215
  have t_1247 : st_tg σ_1234 q_172 = some 303 := by rw [z_1235, g_tg_arr, if_neg (fun y => by rw [y, f_1236] at t_1216; cases t_1216)]; exact t_1216
  have t_1248 : st_tg σ_1234 q_201 = some 302 := by rw [z_1235, g_tg_arr, if_neg (fun y => by rw [y, f_1236] at t_1217; cases t_1217)]; exact t_1217
  have t_1249 : st_tg σ_1234 q_292 = some 302 := by rw [z_1235, g_tg_arr, if_neg (fun y => by rw [y, f_1236] at t_1218; cases t_1218)]; exact t_1218
  have t_1250 : st_tg σ_1234 q_325 = some 302 := by rw [z_1235, g_tg_arr, if_neg (fun y => by rw [y, f_1236] at t_1219; cases t_1219)]; exact t_1219
  have t_1251 : st_tg σ_1234 q_496 = some 303 := by rw [z_1235, g_tg_arr, if_neg (fun y => by rw [y, f_1236] at t_1220; cases t_1220)]; exact t_1220
  have t_1252 : st_tg σ_1234 q_533 = some 301 := by rw [z_1235, g_tg_arr, if_neg (fun y => by rw [y, f_1236] at t_1221; cases t_1221)]; exact t_1221
  have t_1253 : st_tg σ_1234 q_572 = some 302 := by rw [z_1235, g_tg_arr, if_neg (fun y => by rw [y, f_1236] at t_1222; cases t_1222)]; exact t_1222
  have t_1254 : st_tg σ_1234 q_773 = some 302 := by rw [z_1235, g_tg_arr, if_neg (fun y => by rw [y, f_1236] at t_1223; cases t_1223)]; exact t_1223
  have t_1255 : st_tg σ_1234 q_816 = some 301 := by rw [z_1235, g_tg_arr, if_neg (fun y => by rw [y, f_1236] at t_1224; cases t_1224)]; exact t_1224
  have t_1256 : st_tg σ_1234 q_861 = some 301 := by rw [z_1235, g_tg_arr, if_neg (fun y => by rw [y, f_1236] at t_1225; cases t_1225)]; exact t_1225
  have t_1257 : st_tg σ_1234 q_908 = some 301 := by rw [z_1235, g_tg_arr, if_neg (fun y => by rw [y, f_1236] at t_1226; cases t_1226)]; exact t_1226
  have t_1258 : st_tg σ_1234 q_957 = some 302 := by rw [z_1235, g_tg_arr, if_neg (fun y => by rw [y, f_1236] at t_1227; cases t_1227)]; exact t_1227
  have t_1259 : st_tg σ_1234 q_1008 = some 301 := by rw [z_1235, g_tg_arr, if_neg (fun y => by rw [y, f_1236] at t_1228; cases t_1228)]; exact t_1228
  have t_1260 : st_tg σ_1234 q_1061 = some 302 := by rw [z_1235, g_tg_arr, if_neg (fun y => by rw [y, f_1236] at t_1229; cases t_1229)]; exact t_1229
  have t_1261 : st_tg σ_1234 q_1116 = some 301 := by rw [z_1235, g_tg_arr, if_neg (fun y => by rw [y, f_1236] at t_1230; cases t_1230)]; exact t_1230
  have t_1262 : st_tg σ_1234 q_1173 = some 301 := by rw [z_1235, g_tg_arr, if_neg (fun y => by rw [y, f_1236] at t_1231; cases t_1231)]; exact t_1231
  have t_1263 : st_tg σ_1234 q_1232 = some 302 := by rw [z_1235, g_tg_arr, if_pos rfl]
  obtain ⟨σ_1264, z_1265⟩ : ∃ y : ST, y = st_sR σ_1234 69 h0 (some q_1232) := ⟨_, rfl⟩
  have h := h σ_1264 z_1265
  refine ms_putF (σ := σ_1234) (r := some h0) (a := h0) (fs := fl_1 σ_1234 h0) (ci := 1) (C := R_M) (T := T_M) (N := 32) (v := va_rf (some q_1232)) (ty := (.array .long)) hx hb hts in_1 ty_M ty_M_ok nm_M hown hK hH hS rfl (cell_1 t_1238) rfl 29 (by decide) (hts _ wd_446) (fun _ h9 => h9) rfl hin rfl (by decide +kernel) (nar_ra _ _) (fit_ra _ _) (Nat.le_of_ble_eq_true rfl) d_M_init_348 (σ1 := σ_1264) (by rw [z_1265]; exact put_1_29 σ_1234 h0 (some q_1232) t_1238) (by rw [z_1265]; rfl) (by rw [z_1265]; rfl) (fun H locs hH hK hS => ?_)
  have t_1266 : st_tg σ_1264 q_1 = some 301 := by rw [z_1265]; exact t_1237
  have t_1267 : st_tg σ_1264 h0 = some 1 := by rw [z_1265]; exact t_1238
  have t_1268 : st_tg σ_1264 q_12 = some 302 := by rw [z_1265]; exact t_1239
  have t_1269 : st_tg σ_1264 q_25 = some 302 := by rw [z_1265]; exact t_1240
  have t_1270 : st_tg σ_1264 q_40 = some 301 := by rw [z_1265]; exact t_1241
  have t_1271 : st_tg σ_1264 q_57 = some 301 := by rw [z_1265]; exact t_1242
  have t_1272 : st_tg σ_1264 q_76 = some 301 := by rw [z_1265]; exact t_1243
  have t_1273 : st_tg σ_1264 q_97 = some 301 := by rw [z_1265]; exact t_1244
  have t_1274 : st_tg σ_1264 q_120 = some 301 := by rw [z_1265]; exact t_1245
  have t_1275 : st_tg σ_1264 q_145 = some 302 := by rw [z_1265]; exact t_1246
  have t_1276 : st_tg σ_1264 q_172 = some 303 := by rw [z_1265]; exact t_1247
  have t_1277 : st_tg σ_1264 q_201 = some 302 := by rw [z_1265]; exact t_1248
  have t_1278 : st_tg σ_1264 q_292 = some 302 := by rw [z_1265]; exact t_1249
  have t_1279 : st_tg σ_1264 q_325 = some 302 := by rw [z_1265]; exact t_1250
  have t_1280 : st_tg σ_1264 q_496 = some 303 := by rw [z_1265]; exact t_1251
  have t_1281 : st_tg σ_1264 q_533 = some 301 := by rw [z_1265]; exact t_1252
  have t_1282 : st_tg σ_1264 q_572 = some 302 := by rw [z_1265]; exact t_1253
  have t_1283 : st_tg σ_1264 q_773 = some 302 := by rw [z_1265]; exact t_1254
  have t_1284 : st_tg σ_1264 q_816 = some 301 := by rw [z_1265]; exact t_1255
  have t_1285 : st_tg σ_1264 q_861 = some 301 := by rw [z_1265]; exact t_1256
  have t_1286 : st_tg σ_1264 q_908 = some 301 := by rw [z_1265]; exact t_1257
  have t_1287 : st_tg σ_1264 q_957 = some 302 := by rw [z_1265]; exact t_1258
  have t_1288 : st_tg σ_1264 q_1008 = some 301 := by rw [z_1265]; exact t_1259
  have t_1289 : st_tg σ_1264 q_1061 = some 302 := by rw [z_1265]; exact t_1260
  have t_1290 : st_tg σ_1264 q_1116 = some 301 := by rw [z_1265]; exact t_1261
  have t_1291 : st_tg σ_1264 q_1173 = some 301 := by rw [z_1265]; exact t_1262
  have t_1292 : st_tg σ_1264 q_1232 = some 302 := by rw [z_1265]; exact t_1263
  refine mr_aload_n hx hb d_M_init_351 rfl (lv_at hl 0 rfl) ?_
  refine lv_bipush (v := 100) hx hb d_M_init_352 (by decide) ?_
  refine ms_newa (σ := σ_1264) (atype := .int) (y := .inl (fun _ => 0)) hx hb (hts _ wd_514) rfl hK hH hS hA 301 rfl (n := 100) (N' := 100) (fun cA => rfl) (by decide) (by decide) (by decide) (by decide) (by decide) d_M_init_354 (fun q cA hq => anew_301 σ_1264 q cA 100 hq) (fun q_1293 C_1294 H f_1297 hH hK hS => ?_)
  obtain ⟨σ_1295, z_1296⟩ : ∃ y : ST, y = st_arr σ_1264 q_1293 301 C_1294 100 := ⟨_, rfl⟩
  rw [← z_1296] at hH hK
  have h := h q_1293 C_1294 f_1297 σ_1295 z_1296
  have t_1298 : st_tg σ_1295 q_1 = some 301 := by rw [z_1296, g_tg_arr, if_neg (fun y => by rw [y, f_1297] at t_1266; cases t_1266)]; exact t_1266
  have t_1299 : st_tg σ_1295 h0 = some 1 := by rw [z_1296, g_tg_arr, if_neg (fun y => by rw [y, f_1297] at t_1267; cases t_1267)]; exact t_1267
  have t_1300 : st_tg σ_1295 q_12 = some 302 := by rw [z_1296, g_tg_arr, if_neg (fun y => by rw [y, f_1297] at t_1268; cases t_1268)]; exact t_1268
  have t_1301 : st_tg σ_1295 q_25 = some 302 := by rw [z_1296, g_tg_arr, if_neg (fun y => by rw [y, f_1297] at t_1269; cases t_1269)]; exact t_1269
  have t_1302 : st_tg σ_1295 q_40 = some 301 := by rw [z_1296, g_tg_arr, if_neg (fun y => by rw [y, f_1297] at t_1270; cases t_1270)]; exact t_1270
  have t_1303 : st_tg σ_1295 q_57 = some 301 := by rw [z_1296, g_tg_arr, if_neg (fun y => by rw [y, f_1297] at t_1271; cases t_1271)]; exact t_1271
  have t_1304 : st_tg σ_1295 q_76 = some 301 := by rw [z_1296, g_tg_arr, if_neg (fun y => by rw [y, f_1297] at t_1272; cases t_1272)]; exact t_1272
  have t_1305 : st_tg σ_1295 q_97 = some 301 := by rw [z_1296, g_tg_arr, if_neg (fun y => by rw [y, f_1297] at t_1273; cases t_1273)]; exact t_1273
  have t_1306 : st_tg σ_1295 q_120 = some 301 := by rw [z_1296, g_tg_arr, if_neg (fun y => by rw [y, f_1297] at t_1274; cases t_1274)]; exact t_1274
  have t_1307 : st_tg σ_1295 q_145 = some 302 := by rw [z_1296, g_tg_arr, if_neg (fun y => by rw [y, f_1297] at t_1275; cases t_1275)]; exact t_1275
  have t_1308 : st_tg σ_1295 q_172 = some 303 := by rw [z_1296, g_tg_arr, if_neg (fun y => by rw [y, f_1297] at t_1276; cases t_1276)]; exact t_1276
  have t_1309 : st_tg σ_1295 q_201 = some 302 := by rw [z_1296, g_tg_arr, if_neg (fun y => by rw [y, f_1297] at t_1277; cases t_1277)]; exact t_1277
  have t_1310 : st_tg σ_1295 q_292 = some 302 := by rw [z_1296, g_tg_arr, if_neg (fun y => by rw [y, f_1297] at t_1278; cases t_1278)]; exact t_1278
  have t_1311 : st_tg σ_1295 q_325 = some 302 := by rw [z_1296, g_tg_arr, if_neg (fun y => by rw [y, f_1297] at t_1279; cases t_1279)]; exact t_1279
  have t_1312 : st_tg σ_1295 q_496 = some 303 := by rw [z_1296, g_tg_arr, if_neg (fun y => by rw [y, f_1297] at t_1280; cases t_1280)]; exact t_1280
  have t_1313 : st_tg σ_1295 q_533 = some 301 := by rw [z_1296, g_tg_arr, if_neg (fun y => by rw [y, f_1297] at t_1281; cases t_1281)]; exact t_1281
  have t_1314 : st_tg σ_1295 q_572 = some 302 := by rw [z_1296, g_tg_arr, if_neg (fun y => by rw [y, f_1297] at t_1282; cases t_1282)]; exact t_1282
  have t_1315 : st_tg σ_1295 q_773 = some 302 := by rw [z_1296, g_tg_arr, if_neg (fun y => by rw [y, f_1297] at t_1283; cases t_1283)]; exact t_1283
  have t_1316 : st_tg σ_1295 q_816 = some 301 := by rw [z_1296, g_tg_arr, if_neg (fun y => by rw [y, f_1297] at t_1284; cases t_1284)]; exact t_1284
  have t_1317 : st_tg σ_1295 q_861 = some 301 := by rw [z_1296, g_tg_arr, if_neg (fun y => by rw [y, f_1297] at t_1285; cases t_1285)]; exact t_1285
  have t_1318 : st_tg σ_1295 q_908 = some 301 := by rw [z_1296, g_tg_arr, if_neg (fun y => by rw [y, f_1297] at t_1286; cases t_1286)]; exact t_1286
  have t_1319 : st_tg σ_1295 q_957 = some 302 := by rw [z_1296, g_tg_arr, if_neg (fun y => by rw [y, f_1297] at t_1287; cases t_1287)]; exact t_1287
  have t_1320 : st_tg σ_1295 q_1008 = some 301 := by rw [z_1296, g_tg_arr, if_neg (fun y => by rw [y, f_1297] at t_1288; cases t_1288)]; exact t_1288
  have t_1321 : st_tg σ_1295 q_1061 = some 302 := by rw [z_1296, g_tg_arr, if_neg (fun y => by rw [y, f_1297] at t_1289; cases t_1289)]; exact t_1289
  have t_1322 : st_tg σ_1295 q_1116 = some 301 := by rw [z_1296, g_tg_arr, if_neg (fun y => by rw [y, f_1297] at t_1290; cases t_1290)]; exact t_1290
  have t_1323 : st_tg σ_1295 q_1173 = some 301 := by rw [z_1296, g_tg_arr, if_neg (fun y => by rw [y, f_1297] at t_1291; cases t_1291)]; exact t_1291
  have t_1324 : st_tg σ_1295 q_1232 = some 302 := by rw [z_1296, g_tg_arr, if_neg (fun y => by rw [y, f_1297] at t_1292; cases t_1292)]; exact t_1292
  have t_1325 : st_tg σ_1295 q_1293 = some 301 := by rw [z_1296, g_tg_arr, if_pos rfl]
  obtain ⟨σ_1326, z_1327⟩ : ∃ y : ST, y = st_sR σ_1295 70 h0 (some q_1293) := ⟨_, rfl⟩
  have h := h σ_1326 z_1327
  refine ms_putF (σ := σ_1295) (r := some h0) (a := h0) (fs := fl_1 σ_1295 h0) (ci := 1) (C := R_M) (T := T_M) (N := 32) (v := va_rf (some q_1293)) (ty := (.array .int)) hx hb hts in_1 ty_M ty_M_ok nm_M hown hK hH hS rfl (cell_1 t_1299) rfl 30 (by decide) (hts _ wd_447) (fun _ h9 => h9) rfl hin rfl (by decide +kernel) (nar_ra _ _) (fit_ra _ _) (Nat.le_of_ble_eq_true rfl) d_M_init_356 (σ1 := σ_1326) (by rw [z_1327]; exact put_1_30 σ_1295 h0 (some q_1293) t_1299) (by rw [z_1327]; rfl) (by rw [z_1327]; rfl) (fun H locs hH hK hS => ?_)
  have t_1328 : st_tg σ_1326 q_1 = some 301 := by rw [z_1327]; exact t_1298
  have t_1329 : st_tg σ_1326 h0 = some 1 := by rw [z_1327]; exact t_1299
  have t_1330 : st_tg σ_1326 q_12 = some 302 := by rw [z_1327]; exact t_1300
  have t_1331 : st_tg σ_1326 q_25 = some 302 := by rw [z_1327]; exact t_1301
  have t_1332 : st_tg σ_1326 q_40 = some 301 := by rw [z_1327]; exact t_1302
  have t_1333 : st_tg σ_1326 q_57 = some 301 := by rw [z_1327]; exact t_1303
  have t_1334 : st_tg σ_1326 q_76 = some 301 := by rw [z_1327]; exact t_1304
  have t_1335 : st_tg σ_1326 q_97 = some 301 := by rw [z_1327]; exact t_1305
  have t_1336 : st_tg σ_1326 q_120 = some 301 := by rw [z_1327]; exact t_1306
  have t_1337 : st_tg σ_1326 q_145 = some 302 := by rw [z_1327]; exact t_1307
  have t_1338 : st_tg σ_1326 q_172 = some 303 := by rw [z_1327]; exact t_1308
  have t_1339 : st_tg σ_1326 q_201 = some 302 := by rw [z_1327]; exact t_1309
  have t_1340 : st_tg σ_1326 q_292 = some 302 := by rw [z_1327]; exact t_1310
  have t_1341 : st_tg σ_1326 q_325 = some 302 := by rw [z_1327]; exact t_1311
  have t_1342 : st_tg σ_1326 q_496 = some 303 := by rw [z_1327]; exact t_1312
  have t_1343 : st_tg σ_1326 q_533 = some 301 := by rw [z_1327]; exact t_1313
  have t_1344 : st_tg σ_1326 q_572 = some 302 := by rw [z_1327]; exact t_1314
  have t_1345 : st_tg σ_1326 q_773 = some 302 := by rw [z_1327]; exact t_1315
  have t_1346 : st_tg σ_1326 q_816 = some 301 := by rw [z_1327]; exact t_1316
  have t_1347 : st_tg σ_1326 q_861 = some 301 := by rw [z_1327]; exact t_1317
  have t_1348 : st_tg σ_1326 q_908 = some 301 := by rw [z_1327]; exact t_1318
  have t_1349 : st_tg σ_1326 q_957 = some 302 := by rw [z_1327]; exact t_1319
  have t_1350 : st_tg σ_1326 q_1008 = some 301 := by rw [z_1327]; exact t_1320
  have t_1351 : st_tg σ_1326 q_1061 = some 302 := by rw [z_1327]; exact t_1321
  have t_1352 : st_tg σ_1326 q_1116 = some 301 := by rw [z_1327]; exact t_1322
  have t_1353 : st_tg σ_1326 q_1173 = some 301 := by rw [z_1327]; exact t_1323
  have t_1354 : st_tg σ_1326 q_1232 = some 302 := by rw [z_1327]; exact t_1324
  have t_1355 : st_tg σ_1326 q_1293 = some 301 := by rw [z_1327]; exact t_1325
  refine mr_aload_n hx hb d_M_init_359 rfl (lv_at hl 0 rfl) ?_
  refine lv_bipush (v := 9) hx hb d_M_init_360 (by decide) ?_
  refine ms_newa (σ := σ_1326) (atype := .long) (y := .inr (.inl (fun _ => 0))) hx hb (hts _ wd_66) rfl hK hH hS hA 302 rfl (n := 9) (N' := 9) (fun cA => rfl) (by decide) (by decide) (by decide) (by decide) (by decide) d_M_init_362 (fun q cA hq => anew_302 σ_1326 q cA 9 hq) (fun q_1356 C_1357 H f_1360 hH hK hS => ?_)
  obtain ⟨σ_1358, z_1359⟩ : ∃ y : ST, y = st_arr σ_1326 q_1356 302 C_1357 9 := ⟨_, rfl⟩
  rw [← z_1359] at hH hK
  have h := h q_1356 C_1357 f_1360 σ_1358 z_1359
  have t_1361 : st_tg σ_1358 q_1 = some 301 := by rw [z_1359, g_tg_arr, if_neg (fun y => by rw [y, f_1360] at t_1328; cases t_1328)]; exact t_1328
  have t_1362 : st_tg σ_1358 h0 = some 1 := by rw [z_1359, g_tg_arr, if_neg (fun y => by rw [y, f_1360] at t_1329; cases t_1329)]; exact t_1329
  have t_1363 : st_tg σ_1358 q_12 = some 302 := by rw [z_1359, g_tg_arr, if_neg (fun y => by rw [y, f_1360] at t_1330; cases t_1330)]; exact t_1330
  have t_1364 : st_tg σ_1358 q_25 = some 302 := by rw [z_1359, g_tg_arr, if_neg (fun y => by rw [y, f_1360] at t_1331; cases t_1331)]; exact t_1331
  have t_1365 : st_tg σ_1358 q_40 = some 301 := by rw [z_1359, g_tg_arr, if_neg (fun y => by rw [y, f_1360] at t_1332; cases t_1332)]; exact t_1332
  have t_1366 : st_tg σ_1358 q_57 = some 301 := by rw [z_1359, g_tg_arr, if_neg (fun y => by rw [y, f_1360] at t_1333; cases t_1333)]; exact t_1333
  have t_1367 : st_tg σ_1358 q_76 = some 301 := by rw [z_1359, g_tg_arr, if_neg (fun y => by rw [y, f_1360] at t_1334; cases t_1334)]; exact t_1334
  have t_1368 : st_tg σ_1358 q_97 = some 301 := by rw [z_1359, g_tg_arr, if_neg (fun y => by rw [y, f_1360] at t_1335; cases t_1335)]; exact t_1335
  have t_1369 : st_tg σ_1358 q_120 = some 301 := by rw [z_1359, g_tg_arr, if_neg (fun y => by rw [y, f_1360] at t_1336; cases t_1336)]; exact t_1336
  have t_1370 : st_tg σ_1358 q_145 = some 302 := by rw [z_1359, g_tg_arr, if_neg (fun y => by rw [y, f_1360] at t_1337; cases t_1337)]; exact t_1337
  have t_1371 : st_tg σ_1358 q_172 = some 303 := by rw [z_1359, g_tg_arr, if_neg (fun y => by rw [y, f_1360] at t_1338; cases t_1338)]; exact t_1338
  have t_1372 : st_tg σ_1358 q_201 = some 302 := by rw [z_1359, g_tg_arr, if_neg (fun y => by rw [y, f_1360] at t_1339; cases t_1339)]; exact t_1339
  have t_1373 : st_tg σ_1358 q_292 = some 302 := by rw [z_1359, g_tg_arr, if_neg (fun y => by rw [y, f_1360] at t_1340; cases t_1340)]; exact t_1340
  have t_1374 : st_tg σ_1358 q_325 = some 302 := by rw [z_1359, g_tg_arr, if_neg (fun y => by rw [y, f_1360] at t_1341; cases t_1341)]; exact t_1341
  have t_1375 : st_tg σ_1358 q_496 = some 303 := by rw [z_1359, g_tg_arr, if_neg (fun y => by rw [y, f_1360] at t_1342; cases t_1342)]; exact t_1342
  have t_1376 : st_tg σ_1358 q_533 = some 301 := by rw [z_1359, g_tg_arr, if_neg (fun y => by rw [y, f_1360] at t_1343; cases t_1343)]; exact t_1343
  have t_1377 : st_tg σ_1358 q_572 = some 302 := by rw [z_1359, g_tg_arr, if_neg (fun y => by rw [y, f_1360] at t_1344; cases t_1344)]; exact t_1344
  have t_1378 : st_tg σ_1358 q_773 = some 302 := by rw [z_1359, g_tg_arr, if_neg (fun y => by rw [y, f_1360] at t_1345; cases t_1345)]; exact t_1345
  have t_1379 : st_tg σ_1358 q_816 = some 301 := by rw [z_1359, g_tg_arr, if_neg (fun y => by rw [y, f_1360] at t_1346; cases t_1346)]; exact t_1346
  have t_1380 : st_tg σ_1358 q_861 = some 301 := by rw [z_1359, g_tg_arr, if_neg (fun y => by rw [y, f_1360] at t_1347; cases t_1347)]; exact t_1347
  have t_1381 : st_tg σ_1358 q_908 = some 301 := by rw [z_1359, g_tg_arr, if_neg (fun y => by rw [y, f_1360] at t_1348; cases t_1348)]; exact t_1348
  have t_1382 : st_tg σ_1358 q_957 = some 302 := by rw [z_1359, g_tg_arr, if_neg (fun y => by rw [y, f_1360] at t_1349; cases t_1349)]; exact t_1349
  have t_1383 : st_tg σ_1358 q_1008 = some 301 := by rw [z_1359, g_tg_arr, if_neg (fun y => by rw [y, f_1360] at t_1350; cases t_1350)]; exact t_1350
  have t_1384 : st_tg σ_1358 q_1061 = some 302 := by rw [z_1359, g_tg_arr, if_neg (fun y => by rw [y, f_1360] at t_1351; cases t_1351)]; exact t_1351
  have t_1385 : st_tg σ_1358 q_1116 = some 301 := by rw [z_1359, g_tg_arr, if_neg (fun y => by rw [y, f_1360] at t_1352; cases t_1352)]; exact t_1352
  have t_1386 : st_tg σ_1358 q_1173 = some 301 := by rw [z_1359, g_tg_arr, if_neg (fun y => by rw [y, f_1360] at t_1353; cases t_1353)]; exact t_1353
  have t_1387 : st_tg σ_1358 q_1232 = some 302 := by rw [z_1359, g_tg_arr, if_neg (fun y => by rw [y, f_1360] at t_1354; cases t_1354)]; exact t_1354
  have t_1388 : st_tg σ_1358 q_1293 = some 301 := by rw [z_1359, g_tg_arr, if_neg (fun y => by rw [y, f_1360] at t_1355; cases t_1355)]; exact t_1355
  have t_1389 : st_tg σ_1358 q_1356 = some 302 := by rw [z_1359, g_tg_arr, if_pos rfl]
  obtain ⟨σ_1390, z_1391⟩ : ∃ y : ST, y = st_sR σ_1358 71 h0 (some q_1356) := ⟨_, rfl⟩
  have h := h σ_1390 z_1391
  refine ms_putF (σ := σ_1358) (r := some h0) (a := h0) (fs := fl_1 σ_1358 h0) (ci := 1) (C := R_M) (T := T_M) (N := 32) (v := va_rf (some q_1356)) (ty := (.array .long)) hx hb hts in_1 ty_M ty_M_ok nm_M hown hK hH hS rfl (cell_1 t_1362) rfl 31 (by decide) (hts _ wd_448) (fun _ h9 => h9) rfl hin rfl (by decide +kernel) (nar_ra _ _) (fit_ra _ _) (Nat.le_of_ble_eq_true rfl) d_M_init_364 (σ1 := σ_1390) (by rw [z_1391]; exact put_1_31 σ_1358 h0 (some q_1356) t_1362) (by rw [z_1391]; rfl) (by rw [z_1391]; rfl) (fun H locs hH hK hS => ?_)
  have t_1392 : st_tg σ_1390 q_1 = some 301 := by rw [z_1391]; exact t_1361
  have t_1393 : st_tg σ_1390 h0 = some 1 := by rw [z_1391]; exact t_1362
  have t_1394 : st_tg σ_1390 q_12 = some 302 := by rw [z_1391]; exact t_1363
  have t_1395 : st_tg σ_1390 q_25 = some 302 := by rw [z_1391]; exact t_1364
  have t_1396 : st_tg σ_1390 q_40 = some 301 := by rw [z_1391]; exact t_1365
  have t_1397 : st_tg σ_1390 q_57 = some 301 := by rw [z_1391]; exact t_1366
  have t_1398 : st_tg σ_1390 q_76 = some 301 := by rw [z_1391]; exact t_1367
  have t_1399 : st_tg σ_1390 q_97 = some 301 := by rw [z_1391]; exact t_1368
  have t_1400 : st_tg σ_1390 q_120 = some 301 := by rw [z_1391]; exact t_1369
  have t_1401 : st_tg σ_1390 q_145 = some 302 := by rw [z_1391]; exact t_1370
  have t_1402 : st_tg σ_1390 q_172 = some 303 := by rw [z_1391]; exact t_1371
  have t_1403 : st_tg σ_1390 q_201 = some 302 := by rw [z_1391]; exact t_1372
  have t_1404 : st_tg σ_1390 q_292 = some 302 := by rw [z_1391]; exact t_1373
  have t_1405 : st_tg σ_1390 q_325 = some 302 := by rw [z_1391]; exact t_1374
  have t_1406 : st_tg σ_1390 q_496 = some 303 := by rw [z_1391]; exact t_1375
  have t_1407 : st_tg σ_1390 q_533 = some 301 := by rw [z_1391]; exact t_1376
  have t_1408 : st_tg σ_1390 q_572 = some 302 := by rw [z_1391]; exact t_1377
  have t_1409 : st_tg σ_1390 q_773 = some 302 := by rw [z_1391]; exact t_1378
  have t_1410 : st_tg σ_1390 q_816 = some 301 := by rw [z_1391]; exact t_1379
  have t_1411 : st_tg σ_1390 q_861 = some 301 := by rw [z_1391]; exact t_1380
  have t_1412 : st_tg σ_1390 q_908 = some 301 := by rw [z_1391]; exact t_1381
  have t_1413 : st_tg σ_1390 q_957 = some 302 := by rw [z_1391]; exact t_1382
  have t_1414 : st_tg σ_1390 q_1008 = some 301 := by rw [z_1391]; exact t_1383
  have t_1415 : st_tg σ_1390 q_1061 = some 302 := by rw [z_1391]; exact t_1384
  have t_1416 : st_tg σ_1390 q_1116 = some 301 := by rw [z_1391]; exact t_1385
  have t_1417 : st_tg σ_1390 q_1173 = some 301 := by rw [z_1391]; exact t_1386
  have t_1418 : st_tg σ_1390 q_1232 = some 302 := by rw [z_1391]; exact t_1387
  have t_1419 : st_tg σ_1390 q_1293 = some 301 := by rw [z_1391]; exact t_1388
  have t_1420 : st_tg σ_1390 q_1356 = some 302 := by rw [z_1391]; exact t_1389
  exact W.vret hx hb hr (fun t ht hW => ⟨⟨σ_1390, rfl, h, mw_pass hH hK hA hS ht hW⟩, hS.F ht⟩) hS.2.2 d_M_init_367
