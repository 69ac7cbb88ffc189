/-! ROWS over a heap that is a finite map M from addresses to cells (mg_H): every row of the kit's worlds, with the list of cells hidden. -/
def mg_H (D : va_G) (cl : List vw_C) (A : Nat → Prop) (M : Nat → Option va_E) (H : Heap) : Prop := ∃ ws : va_W, va_P D cl ws H ∧ va_D A ws ∧ ∀ (a : Nat) (e : va_E), (∃ k : Nat, ws[k]? = some (a, e)) ↔ M a = some e
theorem mg_set {A : Nat → Prop} {ws : va_W} {M : Nat → Option va_E} {a k0 : Nat} {e0 e1 : va_E} (hD : va_D A ws) (hM : ∀ (a : Nat) (e : va_E), (∃ k : Nat, ws[k]? = some (a, e)) ↔ M a = some e) (h0 : ws[k0]? = some (a, e0)) : ∀ (b : Nat) (e : va_E), (∃ k : Nat, (ws.set k0 (a, e1))[k]? = some (b, e)) ↔ va_up M a (some e1) b = some e := by
  intro b e
  have hl := (List.getElem?_eq_some_iff.mp h0).1
  constructor
  · intro hk
    obtain ⟨k, hk⟩ := hk
    by_cases h : k = k0
    · subst h
      rw [List.getElem?_set_self hl] at hk
      cases hk
      exact va_up_self M a (some e1)
    · rw [List.getElem?_set_ne (Ne.symm h)] at hk
      have hne : b ≠ a := fun z => h (hD.1 k k0 _ _ hk h0 z)
      rw [va_up_ne M _ hne]
      exact (hM b e).mp ⟨k, hk⟩
  · intro h
    by_cases z : b = a
    · subst z
      rw [va_up_self] at h
      cases h
      exact ⟨k0, List.getElem?_set_self hl⟩
    · rw [va_up_ne M _ z] at h
      obtain ⟨k, hk⟩ := (hM b e).mpr h
      have hkk : k ≠ k0 := fun q => z (by rw [q] at hk; have h9 := Option.some.inj (hk.symm.trans h0); exact congrArg Prod.fst h9)
      exact ⟨k, by rw [List.getElem?_set_ne (Ne.symm hkk)]; exact hk⟩
theorem mg_push {A : Nat → Prop} {ws : va_W} {M : Nat → Option va_E} {q : Nat} {e1 : va_E} (hD : va_D A (ws ++ [(q, e1)])) (hM : ∀ (a : Nat) (e : va_E), (∃ k : Nat, ws[k]? = some (a, e)) ↔ M a = some e) : M q = none ∧ ∀ (b : Nat) (e : va_E), (∃ k : Nat, (ws ++ [(q, e1)])[k]? = some (b, e)) ↔ va_up M q (some e1) b = some e := by
  have hlast : (ws ++ [(q, e1)])[ws.length]? = some (q, e1) := by rw [List.getElem?_append_right (Nat.le_refl _), Nat.sub_self]; rfl
  have hq : M q = none := by
    cases hm : M q with
    | none => rfl
    | some e =>
      obtain ⟨k, hk⟩ := (hM q e).mpr hm
      have hlt := (List.getElem?_eq_some_iff.mp hk).1
      have h2 : (ws ++ [(q, e1)])[k]? = some (q, e) := by rw [List.getElem?_append_left hlt]; exact hk
      have h3 := hD.1 k ws.length _ _ h2 hlast rfl
      omega
  refine ⟨hq, fun b e => ⟨fun hk => ?_, fun h => ?_⟩⟩
  · obtain ⟨k, hk⟩ := hk
    by_cases hlt : k < ws.length
    · rw [List.getElem?_append_left hlt] at hk
      have h1 := (hM b e).mp ⟨k, hk⟩
      have hne : b ≠ q := fun z => by rw [z, hq] at h1; cases h1
      rw [va_up_ne M _ hne]
      exact h1
    · rw [List.getElem?_append_right (by omega)] at hk
      have hz : k - ws.length < 1 := (List.getElem?_eq_some_iff.mp hk).1
      rw [show k - ws.length = 0 by omega] at hk
      cases hk
      exact va_up_self M q (some e1)
  · by_cases z : b = q
    · subst z
      rw [va_up_self] at h
      cases h
      exact ⟨_, hlast⟩
    · rw [va_up_ne M _ z] at h
      obtain ⟨k, hk⟩ := (hM b e).mpr h
      have hlt := (List.getElem?_eq_some_iff.mp hk).1
      exact ⟨k, by rw [List.getElem?_append_left hlt]; exact hk⟩
theorem mg_H.kept {D : va_G} {cl : List vw_C} {A B : Nat → Prop} {M : Nat → Option va_E} {H H1 : Heap} (h : mg_H D cl A M H) (hq : ∀ a : Nat, a < H.size → A a → H1[a]? = H[a]?) (hB : ∀ a, A a → B a) : mg_H D cl B M H1 := by
  obtain ⟨ws, hP, hD, hM⟩ := h
  exact ⟨ws, hP.kept (fun k q hk => hq q.1 ((hP k q hk).lt) (hD.2 k q hk)), hD.weaken (fun k q _ h => hB _ h), hM⟩
section MGR
variable {p : Program} {l : Launch} {e : Env} {R : Room} {s : State} {m : MethodId} {args : Array Value} {below : List Frame} {meth : Method} {c : Code} {H : Heap} {locs : List Loc} {cells slots : Nat} {Q : State → Prop}
variable {cc : ByteArray} {pc : Nat} {ls : Array Slot} {rest : List Value} {D : va_G} {cl : List vw_C} {A : Nat → Prop} {a : Nat} {tys : List (ClassId × FieldType)} {H0 : Heap} {M : Nat → Option va_E}
theorem mg_get (hexec : p.tables.exec = Jvm.exec) (hb : c.code = cc) {own ref C : String} {T : u_T} {N ci index : Nat} {Ts : List Cond} (hts : ∀ w ∈ Ts, w.before args s = true) (hin : ∀ w ∈ u_ws C T N, w ∈ Ts) (hown : s.vm.findClass own = some m.cls) (hK : va_K D cl tys s) (hH : mg_H D cl A M H) {fs : List Value} (he : M a = some (.inr (ci, fs))) (hc : cl[ci]? = some (C, T, N)) (k : Nat) (hk : k < N) (hlink : (Cond.fieldLink own index ref (T k).2.1 (T k).2.2.1).before args s = true) (hsame : ∀ x, s.fieldFound? (T k).1 (T k).2.1 (T k).2.2.1 = some x → s.fieldFound? ref (T k).2.1 (T k).2.2.1 = some x) {v : Value} (hv : fs[k]? = some v) (hdg : decode cc pc = .ok (.getfield index, 3))
    (kk : W p l e R s m args below meth c H locs cells slots Q (F0 m (pc + 3) ls (v :: rest))) : W p l e R s m args below meth c H locs cells slots Q (F0 m pc ls (.ref a :: rest)) := by
  obtain ⟨ws, hP, hD, hM⟩ := hH
  obtain ⟨q0, hq⟩ := (hM a _).mpr he
  exact va_get hexec hb hts hin hown hK hP q0 hq hc k hk hlink hsame hv hdg kk
theorem mg_getN (hexec : p.tables.exec = Jvm.exec) (hb : c.code = cc) {own ref C host : String} {T : u_T} {N ci index : Nat} {Ts : List Cond} (hts : ∀ w ∈ Ts, w.before args s = true) (hin : ∀ w ∈ u_ws C T N, w ∈ Ts) (hown : s.vm.findClass own = some m.cls) (hK : va_K D cl tys s) (hH : mg_H D cl A M H) {fs : List Value} (he : M a = some (.inr (ci, fs))) (hc : cl[ci]? = some (C, T, N)) (k : Nat) (hk : k < N) (hlink : (Cond.fieldLinkNest own index ref (T k).2.1 (T k).2.2.1 host).before args s = true) (hsame : ∀ x, s.fieldFound? (T k).1 (T k).2.1 (T k).2.2.1 = some x → s.fieldFound? ref (T k).2.1 (T k).2.2.1 = some x) {v : Value} (hv : fs[k]? = some v) (hdg : decode cc pc = .ok (.getfield index, 3))
    (kk : W p l e R s m args below meth c H locs cells slots Q (F0 m (pc + 3) ls (v :: rest))) : W p l e R s m args below meth c H locs cells slots Q (F0 m pc ls (.ref a :: rest)) := by
  obtain ⟨ws, hP, hD, hM⟩ := hH
  obtain ⟨q0, hq⟩ := (hM a _).mpr he
  exact va_getN hexec hb hts hin hown hK hP q0 hq hc k hk hlink hsame hv hdg kk
theorem mg_put (hexec : p.tables.exec = Jvm.exec) (hb : c.code = cc) {own ref C : String} {T : u_T} {N ci index : Nat} {Ts : List Cond} (hts : ∀ w ∈ Ts, w.before args s = true) (hin : ∀ w ∈ u_ws C T N, w ∈ Ts) (ty0 : Nat → FieldType) (hty : ∀ k, k < N → parseFieldDescriptor (T k).2.2.1 = some (ty0 k)) (hnm : ∀ a, a < N → ∀ b, b < N → a ≠ b → (T a).2.1 ≠ (T b).2.1) (hown : s.vm.findClass own = some m.cls) (hK : va_K D cl tys s) (hH : mg_H D cl A M H) (hS0 : va_S A H0 H locs) {fs : List Value} (he : M a = some (.inr (ci, fs))) (hc : cl[ci]? = some (C, T, N)) (k : Nat) (hk : k < N) (hlink : (Cond.fieldLink own index ref (T k).2.1 (T k).2.2.1).before args s = true) (hsame : ∀ x, s.fieldFound? (T k).1 (T k).2.1 (T k).2.2.1 = some x → s.fieldFound? ref (T k).2.1 (T k).2.2.1 = some x) (hfin : (T k).2.2.2 = false) {ty : FieldType} {v : Value} (hd : parseFieldDescriptor (T k).2.2.1 = some ty) (hn : narrow ty v = v) (hfit : fits ty v = true) (hl : k < fs.length) (hdg : decode cc pc = .ok (.putfield index, 3)) {M' : Nat → Option va_E} (hM' : M' = va_up M a (some (.inr (ci, fs.set k v))))
    (kk : ∀ (H1 : Heap) (locs1 : List Loc), mg_H D cl A M' H1 → va_S A H0 H1 locs1 → W p l e R s m args below meth c H1 locs1 cells slots Q (F0 m (pc + 3) ls rest)) : W p l e R s m args below meth c H locs cells slots Q (F0 m pc ls (v :: .ref a :: rest)) := by
  obtain ⟨ws, hP, hD, hM⟩ := hH
  obtain ⟨q0, hq⟩ := (hM a _).mpr he
  subst hM'
  exact va_put hexec hb hts hin ty0 hty hnm hown hK hP hD hS0 q0 hq hc k hk hlink hsame hfin hd hn hfit hl hdg (fun H1 locs1 hP1 hD1 hS1 => kk H1 locs1 ⟨_, hP1, hD1, mg_set hD hM hq⟩ hS1)
theorem mg_putN (hexec : p.tables.exec = Jvm.exec) (hb : c.code = cc) {own ref C host : String} {T : u_T} {N ci index : Nat} {Ts : List Cond} (hts : ∀ w ∈ Ts, w.before args s = true) (hin : ∀ w ∈ u_ws C T N, w ∈ Ts) (ty0 : Nat → FieldType) (hty : ∀ k, k < N → parseFieldDescriptor (T k).2.2.1 = some (ty0 k)) (hnm : ∀ a, a < N → ∀ b, b < N → a ≠ b → (T a).2.1 ≠ (T b).2.1) (hown : s.vm.findClass own = some m.cls) (hK : va_K D cl tys s) (hH : mg_H D cl A M H) (hS0 : va_S A H0 H locs) {fs : List Value} (he : M a = some (.inr (ci, fs))) (hc : cl[ci]? = some (C, T, N)) (k : Nat) (hk : k < N) (hlink : (Cond.fieldLinkNest own index ref (T k).2.1 (T k).2.2.1 host).before args s = true) (hsame : ∀ x, s.fieldFound? (T k).1 (T k).2.1 (T k).2.2.1 = some x → s.fieldFound? ref (T k).2.1 (T k).2.2.1 = some x) (hfin : (T k).2.2.2 = false) {ty : FieldType} {v : Value} (hd : parseFieldDescriptor (T k).2.2.1 = some ty) (hn : narrow ty v = v) (hfit : fits ty v = true) (hl : k < fs.length) (hdg : decode cc pc = .ok (.putfield index, 3)) {M' : Nat → Option va_E} (hM' : M' = va_up M a (some (.inr (ci, fs.set k v))))
    (kk : ∀ (H1 : Heap) (locs1 : List Loc), mg_H D cl A M' H1 → va_S A H0 H1 locs1 → W p l e R s m args below meth c H1 locs1 cells slots Q (F0 m (pc + 3) ls rest)) : W p l e R s m args below meth c H locs cells slots Q (F0 m pc ls (v :: .ref a :: rest)) := by
  obtain ⟨ws, hP, hD, hM⟩ := hH
  obtain ⟨q0, hq⟩ := (hM a _).mpr he
  subst hM'
  exact va_putN hexec hb hts hin ty0 hty hnm hown hK hP hD hS0 q0 hq hc k hk hlink hsame hfin hd hn hfit hl hdg (fun H1 locs1 hP1 hD1 hS1 => kk H1 locs1 ⟨_, hP1, hD1, mg_set hD hM hq⟩ hS1)
theorem mg_putF (hexec : p.tables.exec = Jvm.exec) (hb : c.code = cc) {own ref C : String} {T : u_T} {N ci index : Nat} {Ts : List Cond} (hts : ∀ w ∈ Ts, w.before args s = true) (hin : ∀ w ∈ u_ws C T N, w ∈ Ts) (ty0 : Nat → FieldType) (hty : ∀ k, k < N → parseFieldDescriptor (T k).2.2.1 = some (ty0 k)) (hnm : ∀ a, a < N → ∀ b, b < N → a ≠ b → (T a).2.1 ≠ (T b).2.1) (hown : s.vm.findClass own = some m.cls) (hK : va_K D cl tys s) (hH : mg_H D cl A M H) (hS0 : va_S A H0 H locs) {fs : List Value} (he : M a = some (.inr (ci, fs))) (hc : cl[ci]? = some (C, T, N)) (k : Nat) (hk : k < N) (hlink : (Cond.fieldLink own index ref (T k).2.1 (T k).2.2.1).before args s = true) (hsame : ∀ x, s.fieldFound? (T k).1 (T k).2.1 (T k).2.2.1 = some x → s.fieldFound? ref (T k).2.1 (T k).2.2.1 = some x) (hfin : (T k).2.2.2 = true) (hin2 : meth.name = "<init>") (hdecl : (T k).1 = own) {ty : FieldType} {v : Value} (hd : parseFieldDescriptor (T k).2.2.1 = some ty) (hn : narrow ty v = v) (hfit : fits ty v = true) (hl : k < fs.length) (hdg : decode cc pc = .ok (.putfield index, 3)) {M' : Nat → Option va_E} (hM' : M' = va_up M a (some (.inr (ci, fs.set k v))))
    (kk : ∀ (H1 : Heap) (locs1 : List Loc), mg_H D cl A M' H1 → va_S A H0 H1 locs1 → W p l e R s m args below meth c H1 locs1 cells slots Q (F0 m (pc + 3) ls rest)) : W p l e R s m args below meth c H locs cells slots Q (F0 m pc ls (v :: .ref a :: rest)) := by
  obtain ⟨ws, hP, hD, hM⟩ := hH
  obtain ⟨q0, hq⟩ := (hM a _).mpr he
  subst hM'
  exact va_putF hexec hb hts hin ty0 hty hnm hown hK hP hD hS0 q0 hq hc k hk hlink hsame hfin hin2 hdecl hd hn hfit hl hdg (fun H1 locs1 hP1 hD1 hS1 => kk H1 locs1 ⟨_, hP1, hD1, mg_set hD hM hq⟩ hS1)
theorem mg_iald (hexec : p.tables.exec = Jvm.exec) (hb : c.code = cc) {cA : ClassId} (hK : va_K D cl [(cA, .int)] s) (hH : mg_H D cl A M H) {n : Nat} {f : Nat → Int32} (ha : M a = some (.inl (cA, n, .inl f))) {i : Int32} (hin : vp_in i n) (hdg : decode cc pc = .ok (.iaload, 1))
    (kk : W p l e R s m args below meth c H locs cells slots Q (F0 m (pc + 1) ls (.int (f i.toNatClampNeg) :: rest))) : W p l e R s m args below meth c H locs cells slots Q (F0 m pc ls (.int i :: .ref a :: rest)) := by
  obtain ⟨ws, hP, hD, hM⟩ := hH
  obtain ⟨q0, hq⟩ := (hM a _).mpr ha
  exact va_iald hexec hb hK hP q0 0 hq rfl hin hdg kk
theorem mg_lald (hexec : p.tables.exec = Jvm.exec) (hb : c.code = cc) {cA : ClassId} (hK : va_K D cl [(cA, .long)] s) (hH : mg_H D cl A M H) {n : Nat} {f : Nat → Int64} (ha : M a = some (.inl (cA, n, .inr (.inl f)))) {i : Int32} (hin : vp_in i n) (hdg : decode cc pc = .ok (.laload, 1))
    (kk : W p l e R s m args below meth c H locs cells slots Q (F0 m (pc + 1) ls (.long (f i.toNatClampNeg) :: rest))) : W p l e R s m args below meth c H locs cells slots Q (F0 m pc ls (.int i :: .ref a :: rest)) := by
  obtain ⟨ws, hP, hD, hM⟩ := hH
  obtain ⟨q0, hq⟩ := (hM a _).mpr ha
  exact va_lald hexec hb hK hP q0 0 hq rfl hin hdg kk
theorem mg_aald (hexec : p.tables.exec = Jvm.exec) (hb : c.code = cc) {cA : ClassId} {C : String} (hK : va_K D cl [(cA, .object C)] s) (hH : mg_H D cl A M H) {n : Nat} {f : Nat → Option Nat} (ha : M a = some (.inl (cA, n, .inr (.inr (.inr (.inr f)))))) {i : Int32} (hin : vp_in i n) (hdg : decode cc pc = .ok (.aaload, 1))
    (kk : W p l e R s m args below meth c H locs cells slots Q (F0 m (pc + 1) ls (va_rf (f i.toNatClampNeg) :: rest))) : W p l e R s m args below meth c H locs cells slots Q (F0 m pc ls (.int i :: .ref a :: rest)) := by
  obtain ⟨ws, hP, hD, hM⟩ := hH
  obtain ⟨q0, hq⟩ := (hM a _).mpr ha
  exact va_aldq hexec hb hK hP q0 0 hq rfl hin hdg kk
theorem mg_iast (hexec : p.tables.exec = Jvm.exec) (hb : c.code = cc) {cA : ClassId} (hK : va_K D cl [(cA, .int)] s) (hH : mg_H D cl A M H) (hS : va_S A H0 H locs) {n : Nat} {f : Nat → Int32} (ha : M a = some (.inl (cA, n, .inl f))) {i : Int32} {x : Int32} (hin : vp_in i n) (hdg : decode cc pc = .ok (.iastore, 1)) {M' : Nat → Option va_E} (hM' : M' = va_up M a (some (.inl (cA, n, .inl (upd f i.toNatClampNeg x)))))
    (kk : ∀ (H1 : Heap) (locs1 : List Loc), mg_H D cl A M' H1 → va_S A H0 H1 locs1 → W p l e R s m args below meth c H1 locs1 cells slots Q (F0 m (pc + 1) ls rest)) : W p l e R s m args below meth c H locs cells slots Q (F0 m pc ls (.int x :: .int i :: .ref a :: rest)) := by
  obtain ⟨ws, hP, hD, hM⟩ := hH
  obtain ⟨q0, hq⟩ := (hM a _).mpr ha
  subst hM'
  exact va_iast hexec hb hK hP hD hS q0 0 hq rfl hin hdg (fun H1 locs1 hP1 hD1 hS1 => kk H1 locs1 ⟨_, hP1, hD1, mg_set hD hM hq⟩ hS1)
theorem mg_last (hexec : p.tables.exec = Jvm.exec) (hb : c.code = cc) {cA : ClassId} (hK : va_K D cl [(cA, .long)] s) (hH : mg_H D cl A M H) (hS : va_S A H0 H locs) {n : Nat} {f : Nat → Int64} (ha : M a = some (.inl (cA, n, .inr (.inl f)))) {i : Int32} {x : Int64} (hin : vp_in i n) (hdg : decode cc pc = .ok (.lastore, 1)) {M' : Nat → Option va_E} (hM' : M' = va_up M a (some (.inl (cA, n, .inr (.inl (vp_updL f i.toNatClampNeg x))))))
    (kk : ∀ (H1 : Heap) (locs1 : List Loc), mg_H D cl A M' H1 → va_S A H0 H1 locs1 → W p l e R s m args below meth c H1 locs1 cells slots Q (F0 m (pc + 1) ls rest)) : W p l e R s m args below meth c H locs cells slots Q (F0 m pc ls (.long x :: .int i :: .ref a :: rest)) := by
  obtain ⟨ws, hP, hD, hM⟩ := hH
  obtain ⟨q0, hq⟩ := (hM a _).mpr ha
  subst hM'
  exact va_last hexec hb hK hP hD hS q0 0 hq rfl hin hdg (fun H1 locs1 hP1 hD1 hS1 => kk H1 locs1 ⟨_, hP1, hD1, mg_set hD hM hq⟩ hS1)
theorem mg_zald (hexec : p.tables.exec = Jvm.exec) (hb : c.code = cc) {cA : ClassId} (hK : va_K D cl [(cA, .boolean)] s) (hH : mg_H D cl A M H) {n : Nat} {f : Nat → Int32} (ha : M a = some (.inl (cA, n, .inl f))) {i : Int32} (hin : vp_in i n) (hdg : decode cc pc = .ok (.baload, 1))
    (kk : W p l e R s m args below meth c H locs cells slots Q (F0 m (pc + 1) ls (.int (f i.toNatClampNeg) :: rest))) : W p l e R s m args below meth c H locs cells slots Q (F0 m pc ls (.int i :: .ref a :: rest)) := by
  obtain ⟨ws, hP, hD, hM⟩ := hH
  obtain ⟨q0, hq⟩ := (hM a _).mpr ha
  exact va_zald hexec hb hK hP q0 0 hq rfl hin hdg kk
theorem mg_zast (hexec : p.tables.exec = Jvm.exec) (hb : c.code = cc) {cA : ClassId} (hK : va_K D cl [(cA, .boolean)] s) (hH : mg_H D cl A M H) (hS : va_S A H0 H locs) {n : Nat} {f : Nat → Int32} (ha : M a = some (.inl (cA, n, .inl f))) {i : Int32} {x : Int32} (hv : x = 0 ∨ x = 1) (hin : vp_in i n) (hdg : decode cc pc = .ok (.bastore, 1)) {M' : Nat → Option va_E} (hM' : M' = va_up M a (some (.inl (cA, n, .inl (upd f i.toNatClampNeg x)))))
    (kk : ∀ (H1 : Heap) (locs1 : List Loc), mg_H D cl A M' H1 → va_S A H0 H1 locs1 → W p l e R s m args below meth c H1 locs1 cells slots Q (F0 m (pc + 1) ls rest)) : W p l e R s m args below meth c H locs cells slots Q (F0 m pc ls (.int x :: .int i :: .ref a :: rest)) := by
  obtain ⟨ws, hP, hD, hM⟩ := hH
  obtain ⟨q0, hq⟩ := (hM a _).mpr ha
  subst hM'
  have hz : vp_nar .boolean x = x := by rcases hv with rfl | rfl <;> rfl
  refine va_zast hexec hb hK hP hD hS q0 0 hq rfl hin hdg (fun H1 locs1 hP1 hD1 hS1 => ?_)
  rw [hz] at hP1 hD1
  exact kk H1 locs1 ⟨_, hP1, hD1, mg_set hD hM hq⟩ hS1
/-- a reference, null or not, into an array of its class -/
theorem mg_aast (hexec : p.tables.exec = Jvm.exec) (hb : c.code = cc) {cA : ClassId} {r : vw_C} {ci : Nat} (hc : cl[ci]? = some r) (hK : va_K D cl [(cA, .object r.1)] s) (hH : mg_H D cl A M H) (hS : va_S A H0 H locs) {n : Nat} {f : Nat → Option Nat} (ha : M a = some (.inl (cA, n, .inr (.inr (.inr (.inr f)))))) {i : Int32} {v : Option Nat} (hv : ∀ y, v = some y → ∃ vs, M y = some (.inr (ci, vs))) (hin : vp_in i n) (hdg : decode cc pc = .ok (.aastore, 1)) {M' : Nat → Option va_E} (hM' : M' = va_up M a (some (.inl (cA, n, .inr (.inr (.inr (.inr (va_up f i.toNatClampNeg v))))))))
    (kk : ∀ (H1 : Heap) (locs1 : List Loc), mg_H D cl A M' H1 → va_S A H0 H1 locs1 → W p l e R s m args below meth c H1 locs1 cells slots Q (F0 m (pc + 1) ls rest)) : W p l e R s m args below meth c H locs cells slots Q (F0 m pc ls (va_rf v :: .int i :: .ref a :: rest)) := by
  obtain ⟨ws, hP, hD, hM⟩ := hH
  obtain ⟨q0, hq⟩ := (hM a _).mpr ha
  subst hM'
  cases v with
  | none => exact va_astqN hexec hb hK hP hD hS q0 0 hq rfl hin hdg (fun H1 locs1 hP1 hD1 hS1 => kk H1 locs1 ⟨_, hP1, hD1, mg_set hD hM hq⟩ hS1)
  | some y =>
    obtain ⟨vs, hvs⟩ := hv y rfl
    obtain ⟨qk, hqk⟩ := (hM y _).mpr hvs
    exact va_astq hexec hb hK hP hD hS q0 0 qk ci hq rfl hqk hc hin hdg (fun H1 locs1 hP1 hD1 hS1 => kk H1 locs1 ⟨_, hP1, hD1, mg_set hD hM hq⟩ hS1)
theorem mg_alen (hexec : p.tables.exec = Jvm.exec) (hb : c.code = cc) {cA : ClassId} {ty : FieldType} (hK : va_K D cl [(cA, ty)] s) (hH : mg_H D cl A M H) {x : vp_A} (ha : M a = some (.inl (cA, x))) {v : Int32} (hv : Int32.ofNat x.1 = v) (hdg : decode cc pc = .ok (.arraylength, 1))
    (kk : W p l e R s m args below meth c H locs cells slots Q (F0 m (pc + 1) ls (.int v :: rest))) : W p l e R s m args below meth c H locs cells slots Q (F0 m pc ls (.ref a :: rest)) := by
  obtain ⟨ws, hP, hD, hM⟩ := hH
  obtain ⟨q0, hq⟩ := (hM a _).mpr ha
  exact va_alen hexec hb hK hP q0 0 hq rfl hv hdg kk
theorem mg_new (hexec : p.tables.exec = Jvm.exec) (hb : c.code = cc) {own C : String} {T : u_T} {N ci index : Nat} {Ts : List Cond} (hts : ∀ w ∈ Ts, w.before args s = true) (hin : ∀ w ∈ u_ws C T N, w ∈ Ts) (ty : Nat → FieldType) (hty : ∀ k, k < N → parseFieldDescriptor (T k).2.2.1 = some (ty k)) (hown : s.vm.findClass own = some m.cls) (hcl : (Cond.classLink own index C).before args s = true) (hinst : (Cond.instantiable C N).before args s = true) (hini : (Cond.initialized C).before args s = true)
    (hK : va_K D cl tys s) (hH : mg_H D cl A M H) (hS : va_S A H0 H locs) (hA : ∀ q, H0.size ≤ q → A q) (hc : cl[ci]? = some (C, T, N)) {fs : List Value} (hfs : ∀ j, j < N → defaultValue (ty j) = vp_V fs j) (hcells : cells + 1 ≤ R.cells) (hslots : slots + N ≤ R.slots) (hdg : decode cc pc = .ok (.new index, 3))
    (kk : ∀ (q : Nat) (H1 : Heap), M q = none → mg_H D cl A (va_up M q (some (.inr (ci, fs)))) H1 → va_S A H0 H1 locs → W p l e R s m args below meth c H1 locs (cells + 1) (slots + N) Q (F0 m (pc + 3) ls (.ref q :: rest))) : W p l e R s m args below meth c H locs cells slots Q (F0 m pc ls rest) := by
  obtain ⟨ws, hP, hD, hM⟩ := hH
  exact va_new hexec hb hts hin ty hty hown hcl hinst hini hK hP hD hS hA hc hfs hcells hslots hdg (fun q H1 hP1 hD1 hS1 => kk q H1 (mg_push hD1 hM).1 ⟨_, hP1, hD1, (mg_push hD1 hM).2⟩ hS1)
theorem mg_newa (hexec : p.tables.exec = Jvm.exec) (hb : c.code = cc) {atype : ArrayType} (harr : (Cond.arrayClass (newarray.typeOf atype)).before args s = true) {ty : FieldType} (hty : newarray.typeOf atype = ty) (hK : va_K D cl [] s) (hH : mg_H D cl A M H) (hS : va_S A H0 H locs) (hA : ∀ q, H0.size ≤ q → A q)
    {n : Int32} {N' : Nat} {a0 : vp_A} (ha : ∀ cA : ClassId, vp_cell cA a0 = arrV cA N' (fun _ => defaultValue ty)) (hn : ¬ n < 0) (hN : n.toNatClampNeg = N') (hbytes : N' * componentBytes ty ≤ 536870912) (hcells : cells + 1 ≤ R.cells) (hslots : slots + N' ≤ R.slots) (hdg : decode cc pc = .ok (.newarray atype, 2))
    (kk : ∀ (q : Nat) (cA : ClassId) (H1 : Heap), M q = none → va_K D cl [(cA, ty)] s → mg_H D cl A (va_up M q (some (.inl (cA, a0)))) H1 → va_S A H0 H1 locs → W p l e R s m args below meth c H1 locs (cells + 1) (slots + N') Q (F0 m (pc + 2) ls (.ref q :: rest))) : W p l e R s m args below meth c H locs cells slots Q (F0 m pc ls (.int n :: rest)) := by
  obtain ⟨ws, hP, hD, hM⟩ := hH
  exact va_newa hexec hb harr hty hK hP hD hS hA ha hn hN hbytes hcells hslots hdg (fun q cA H1 hK1 hP1 hD1 hS1 => kk q cA H1 (mg_push hD1 hM).1 hK1 ⟨_, hP1, hD1, (mg_push hD1 hM).2⟩ hS1)
theorem mg_newq (hexec : p.tables.exec = Jvm.exec) (hb : c.code = cc) {own C : String} {index : Nat} (hown : s.vm.findClass own = some m.cls) (hclink : (Cond.classLink own index C).before args s = true) (hover : va_AO C s) (hK : va_K D cl [] s) (hH : mg_H D cl A M H) (hS : va_S A H0 H locs) (hA : ∀ q, H0.size ≤ q → A q)
    {n : Int32} {N' : Nat} (hn : ¬ n < 0) (hN : n.toNatClampNeg = N') (hbytes : N' * 4 ≤ 536870912) (hcells : cells + 1 ≤ R.cells) (hslots : slots + N' ≤ R.slots) (hdg : decode cc pc = .ok (.anewarray index, 3))
    (kk : ∀ (q : Nat) (cA : ClassId) (H1 : Heap), M q = none → va_K D cl [(cA, .object C)] s → mg_H D cl A (va_up M q (some (.inl (cA, N', .inr (.inr (.inr (.inr (fun _ => none)))))))) H1 → va_S A H0 H1 locs → W p l e R s m args below meth c H1 locs (cells + 1) (slots + N') Q (F0 m (pc + 3) ls (.ref q :: rest))) : W p l e R s m args below meth c H locs cells slots Q (F0 m pc ls (.int n :: rest)) := by
  obtain ⟨ws, hP, hD, hM⟩ := hH
  exact va_newq hexec hb hown hclink hover hK hP hD hS hA hn hN hbytes hcells hslots hdg (fun q cA H1 hK1 hP1 hD1 hS1 => kk q cA H1 (mg_push hD1 hM).1 hK1 ⟨_, hP1, hD1, (mg_push hD1 hM).2⟩ hS1)
theorem mg_recv {q : vw_C} {ci : Nat} {fs : List Value} (hK : va_K D cl tys s) (hH : mg_H D cl A M H) (hc : cl[ci]? = some q) (he : M a = some (.inr (ci, fs))) : ∃ cell : Cell, H[a]? = some cell ∧ cell.vm.isStatics = false ∧ s.vm.findClass q.1 = some cell.cls := by
  obtain ⟨ws, hP, hD, hM⟩ := hH
  obtain ⟨q0, hq⟩ := (hM a _).mpr he
  exact va_recv hK hP hc hq
/-- references on the stack and in the locals, null or not -/
theorem mr_aload_n (hexec : p.tables.exec = Jvm.exec) (hb : c.code = cc) {k : Fin 4} {i : Nat} {x : Option Nat} (hdg : decode cc pc = .ok (.aload_n k, 1)) (hi : (k : Nat) = i) (hl : ls[i]? = some (.val (va_rf x)))
    (kk : W p l e R s m args below meth c H locs cells slots Q (F0 m (pc + 1) ls (va_rf x :: rest))) : W p l e R s m args below meth c H locs cells slots Q (F0 m pc ls rest) := by
  cases x with
  | none => exact lv_aload_nN hexec hb hdg hi hl kk
  | some y => exact lv_aload_n hexec hb hdg hi hl kk
theorem mr_aload (hexec : p.tables.exec = Jvm.exec) (hb : c.code = cc) {i : Nat} {x : Option Nat} (hdg : decode cc pc = .ok (.aload i, 2)) (hl : ls[i]? = some (.val (va_rf x)))
    (kk : W p l e R s m args below meth c H locs cells slots Q (F0 m (pc + 2) ls (va_rf x :: rest))) : W p l e R s m args below meth c H locs cells slots Q (F0 m pc ls rest) := by
  cases x with
  | none => exact lv_aloadN hexec hb hdg hl kk
  | some y => exact lv_aload hexec hb hdg hl kk
theorem mr_astore_n (hexec : p.tables.exec = Jvm.exec) (hb : c.code = cc) {k : Fin 4} {i nL : Nat} {x : Option Nat} {lv lv' : List (Nat × Value)} (hdg : decode cc pc = .ok (.astore_n k, 1)) (hi : (k : Nat) = i) (h : lv_has ls nL lv) (hn : i < nL) (hl : (i, va_rf x) :: lv.filter (fun q => !(q.1 == i) && !(q.1 + 1 == i && q.2.category == 2)) = lv')
    (kk : ∀ ls' : Array Slot, lv_has ls' nL lv' → W p l e R s m args below meth c H locs cells slots Q (F0 m (pc + 1) ls' rest)) : W p l e R s m args below meth c H locs cells slots Q (F0 m pc ls (va_rf x :: rest)) := by
  cases x with
  | none => exact lv_astore_nN hexec hb hdg hi h hn hl kk
  | some y => exact lv_astore_n hexec hb hdg hi h hn hl kk
theorem mr_astore (hexec : p.tables.exec = Jvm.exec) (hb : c.code = cc) {i nL : Nat} {x : Option Nat} {lv lv' : List (Nat × Value)} (hdg : decode cc pc = .ok (.astore i, 2)) (h : lv_has ls nL lv) (hn : i < nL) (hl : (i, va_rf x) :: lv.filter (fun q => !(q.1 == i) && !(q.1 + 1 == i && q.2.category == 2)) = lv')
    (kk : ∀ ls' : Array Slot, lv_has ls' nL lv' → W p l e R s m args below meth c H locs cells slots Q (F0 m (pc + 2) ls' rest)) : W p l e R s m args below meth c H locs cells slots Q (F0 m pc ls (va_rf x :: rest)) := by
  cases x with
  | none => exact lv_astoreN hexec hb hdg h hn hl kk
  | some y => exact lv_astore hexec hb hdg h hn hl kk
theorem mr_ifnull (hexec : p.tables.exec = Jvm.exec) (hb : c.code = cc) {x : Option Nat} {off : Int} {tgt : Nat} (hdg : decode cc pc = .ok (.ifnull off, 3)) (ht : (pc : Int) + off = (tgt : Int)) (kt : x = none → W p l e R s m args below meth c H locs cells slots Q (F0 m tgt ls rest)) (kf : ¬ x = none → W p l e R s m args below meth c H locs cells slots Q (F0 m (pc + 3) ls rest)) : W p l e R s m args below meth c H locs cells slots Q (F0 m pc ls (va_rf x :: rest)) := by
  cases x with
  | none => exact lv_ifnullN hexec hb hdg ht (kt rfl)
  | some y => exact lv_ifnull hexec hb hdg (kf (fun h => by cases h))
theorem mr_ifnonnull (hexec : p.tables.exec = Jvm.exec) (hb : c.code = cc) {x : Option Nat} {off : Int} {tgt : Nat} (hdg : decode cc pc = .ok (.ifnonnull off, 3)) (ht : (pc : Int) + off = (tgt : Int)) (kt : ¬ x = none → W p l e R s m args below meth c H locs cells slots Q (F0 m tgt ls rest)) (kf : x = none → W p l e R s m args below meth c H locs cells slots Q (F0 m (pc + 3) ls rest)) : W p l e R s m args below meth c H locs cells slots Q (F0 m pc ls (va_rf x :: rest)) := by
  cases x with
  | none => exact lv_ifnonnullN hexec hb hdg (kf rfl)
  | some y => exact lv_ifnonnull hexec hb hdg ht (kt (fun h => by cases h))
theorem mr_null (hexec : p.tables.exec = Jvm.exec) (hb : c.code = cc) (hdg : decode cc pc = .ok (.aconst_null, 1)) (kk : W p l e R s m args below meth c H locs cells slots Q (F0 m (pc + 1) ls (va_rf none :: rest))) : W p l e R s m args below meth c H locs cells slots Q (F0 m pc ls rest) := lv_null hexec hb hdg kk
end MGR
theorem cat_rf (r : Option Nat) : (va_rf r).category = 1 := by cases r <;> rfl
theorem cat_i (x : Int32) : (Value.int x).category = 1 := rfl
theorem cat_l (x : Int64) : (Value.long x).category = 2 := rfl
theorem cat_r (x : Nat) : (Value.ref x).category = 1 := rfl
theorem nar_rf (C : String) (r : Option Nat) : narrow (.object C) (va_rf r) = va_rf r := by cases r <;> rfl
theorem fit_rf (C : String) (r : Option Nat) : fits (.object C) (va_rf r) = true := by cases r <;> rfl
theorem nar_ra (t : FieldType) (r : Option Nat) : narrow (.array t) (va_rf r) = va_rf r := by cases r <;> rfl
theorem fit_ra (t : FieldType) (r : Option Nat) : fits (.array t) (va_rf r) = true := by cases r <;> rfl
theorem narb {v : Int32} (h : v = 0 ∨ v = 1) : narrow .boolean (.int v) = .int v := by rcases h with rfl | rfl <;> rfl
theorem fitb {v : Int32} (h : v = 0 ∨ v = 1) : fits .boolean (.int v) = true := by rcases h with rfl | rfl <;> rfl

