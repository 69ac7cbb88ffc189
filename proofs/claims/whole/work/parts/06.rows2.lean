/-! THE WORLD of a state σ: its cells lie in the heap, its arrays' classes are known, new cells may be made -/
def mk_K (D : va_G) (σ : ST) (U : State) : Prop := va_K D vwCl [] U ∧ ∀ (a k : Nat) (ty : FieldType), st_tg σ a = some k → st_aty k = some ty → va_K D vwCl [(st_cl σ a, ty)] U
def mw (D : va_G) (A : Nat → Prop) (σ : ST) (U : State) : Prop := mg_H D vwCl A (st_cell σ) U.heap ∧ mk_K D σ U ∧ ∀ q, U.heap.size ≤ q → A q
theorem mk_K.moved {D : va_G} {σ : ST} {u U : State} (hvm : u.vm.Alike U.vm) (h : mk_K D σ u) : mk_K D σ U := ⟨va_K.moved hvm h.1, fun a k ty h1 h2 => va_K.moved hvm (h.2 a k ty h1 h2)⟩
/-- the words that a call doesn't carry by itself: links of nest mates, arrays of objects -/
def isNest : Cond → Bool
  | .fieldLinkNest .. => true
  | .methodLinkNest .. => true
  | .arrayOver (.object _) => true
  | _ => false
def mn (U : State) : Prop := ∀ w ∈ lw_tbl, isNest w = true → va_Nw w U
theorem mn_warm {s U : State} (hW : s.WarmedH U.vm) (h : mn s) : mn U := fun w hw hq => by
  cases w with
  | fieldLinkNest a i b n d k => exact va_Nw.warmF hW (h _ hw hq)
  | methodLinkNest a i x k => exact va_Nw.warmM hW (h _ hw hq)
  | arrayOver t =>
    cases t with
    | object C => exact va_AO.moved hW.alike (h _ hw hq)
    | _ => cases hq
  | _ => cases hq
theorem mn_same {u U : State} (e : u.vm = U.vm) (h : mn u) : mn U := fun w hw hq => by
  cases w with
  | fieldLinkNest a i b n d k => exact va_Nw.same rfl e (h _ hw hq)
  | methodLinkNest a i x k => exact va_Nw.same rfl e (h _ hw hq)
  | arrayOver t =>
    cases t with
    | object C => exact va_AO.moved (u := u) (by rw [e]; exact Vm.Alike.refl _) (h _ hw hq)
    | _ => cases hq
  | _ => cases hq
theorem mn_of {s : State} {args : Array Value} (hts : ∀ w ∈ lw_tbl, w.before args s = true) : mn s := fun w hw hq => by
  cases w with
  | fieldLinkNest a i b n d k => exact va_Nw.of rfl (hts _ hw)
  | methodLinkNest a i x k => exact va_Nw.of rfl (hts _ hw)
  | arrayOver t =>
    cases t with
    | object C => exact va_AO.of (hts _ hw)
    | _ => cases hq
  | _ => cases hq
theorem mw_blind {D : va_G} {A : Nat → Prop} {σ : ST} {av : List Value} {P : Prop} : FrameBlind (va_Pc av (fun U => mw D A σ U ∧ mn U ∧ P)) := fun a U g mk q => by
  obtain ⟨q0, ⟨q1, q2, q3⟩, q5, q4⟩ := q
  exact ⟨q0, ⟨q1, mk_K.moved (u := U) (U := U.calling g mk a) (Vm.Alike.refl U.vm) q2, q3⟩, mn_same (u := U) (U := U.calling g mk a) rfl q5, q4⟩
theorem mw_pass {D : va_G} {A : Nat → Prop} {σ : ST} {s U : State} {H : Heap} {locs : List Loc} (hH : mg_H D vwCl A (st_cell σ) H) (hK : mk_K D σ s) (hA : ∀ q, s.heap.size ≤ q → A q) (hS : va_S A s.heap H locs) (hU : U.heap = H) (hW : s.WarmedH U.vm) : mw D A σ U :=
  ⟨by rw [hU]; exact hH, mk_K.moved hW.alike hK, fun q h => hA q (Nat.le_trans hS.1 (by rw [← hU]; exact h))⟩
section MSR
variable {p : Program} {l : Launch} {e : Env} {R : Room} {s : State} {m : MethodId} {args : Array Value} {below : List Frame} {meth : Method} {c : Code} {H : Heap} {locs : List Loc} {cells slots : Nat} {Q : State → Prop}
variable {cc : ByteArray} {pc : Nat} {ls : Array Slot} {rest st0 : List Value} {D : va_G} {A : Nat → Prop} {a : Nat} {r : Option Nat} {av : Array Value} {mc ms : Nat} {σ : ST}
theorem ms_get (hexec : p.tables.exec = Jvm.exec) (hb : c.code = cc) {own ref C : String} {T : u_T} {N ci index : Nat} {Ts : List Cond} (hts : ∀ w ∈ Ts, w.before args s = true) (hin : ∀ w ∈ u_ws C T N, w ∈ Ts) (hown : s.vm.findClass own = some m.cls) (hK : mk_K D σ s) (hH : mg_H D vwCl A (st_cell σ) H) (hr : r = some a) {fs : List Value} (he : st_cell σ a = some (.inr (ci, fs))) (hc : vwCl[ci]? = some (C, T, N)) (k : Nat) (hk : k < N) (hlink : (Cond.fieldLink own index ref (T k).2.1 (T k).2.2.1).before args s = true) (hsame : ∀ x, s.fieldFound? (T k).1 (T k).2.1 (T k).2.2.1 = some x → s.fieldFound? ref (T k).2.1 (T k).2.2.1 = some x) {v : Value} (hv : fs[k]? = some v) (hdg : decode cc pc = .ok (.getfield index, 3))
    (kk : W p l e R s m args below meth c H locs cells slots Q (F0 m (pc + 3) ls (v :: rest))) : W p l e R s m args below meth c H locs cells slots Q (F0 m pc ls (va_rf r :: rest)) := by
  subst hr
  exact mg_get hexec hb hts hin hown hK.1 hH he hc k hk hlink hsame hv hdg kk
theorem ms_getN (hexec : p.tables.exec = Jvm.exec) (hb : c.code = cc) {own ref C host : String} {T : u_T} {N ci index : Nat} {Ts : List Cond} (hts : ∀ w ∈ Ts, w.before args s = true) (hin : ∀ w ∈ u_ws C T N, w ∈ Ts) (hown : s.vm.findClass own = some m.cls) (hK : mk_K D σ s) (hH : mg_H D vwCl A (st_cell σ) H) (hr : r = some a) {fs : List Value} (he : st_cell σ a = some (.inr (ci, fs))) (hc : vwCl[ci]? = some (C, T, N)) (k : Nat) (hk : k < N) (hlink : (Cond.fieldLinkNest own index ref (T k).2.1 (T k).2.2.1 host).before args s = true) (hsame : ∀ x, s.fieldFound? (T k).1 (T k).2.1 (T k).2.2.1 = some x → s.fieldFound? ref (T k).2.1 (T k).2.2.1 = some x) {v : Value} (hv : fs[k]? = some v) (hdg : decode cc pc = .ok (.getfield index, 3))
    (kk : W p l e R s m args below meth c H locs cells slots Q (F0 m (pc + 3) ls (v :: rest))) : W p l e R s m args below meth c H locs cells slots Q (F0 m pc ls (va_rf r :: rest)) := by
  subst hr
  exact mg_getN hexec hb hts hin hown hK.1 hH he hc k hk hlink hsame hv hdg kk
/-- behind a store: the state's arrays' classes are the same -/
theorem mk_K.of {σ1 : ST} (h : mk_K D σ s) (h1 : st_tg σ1 = st_tg σ) (h2 : st_cl σ1 = st_cl σ) : mk_K D σ1 s := ⟨h.1, fun a k ty q1 q2 => by rw [h2]; exact h.2 a k ty (by rw [← h1]; exact q1) q2⟩
theorem ms_put (hexec : p.tables.exec = Jvm.exec) (hb : c.code = cc) {own ref C : String} {T : u_T} {N ci index : Nat} {Ts : List Cond} (hts : ∀ w ∈ Ts, w.before args s = true) (hin : ∀ w ∈ u_ws C T N, w ∈ Ts) (ty0 : Nat → FieldType) (hty : ∀ k, k < N → parseFieldDescriptor (T k).2.2.1 = some (ty0 k)) (hnm : ∀ a, a < N → ∀ b, b < N → a ≠ b → (T a).2.1 ≠ (T b).2.1) (hown : s.vm.findClass own = some m.cls) (hK : mk_K D σ s) (hH : mg_H D vwCl A (st_cell σ) H) (hS0 : va_S A s.heap H locs) (hr : r = some a) {fs : List Value} (he : st_cell σ a = some (.inr (ci, fs))) (hc : vwCl[ci]? = some (C, T, N)) (k : Nat) (hk : k < N) (hlink : (Cond.fieldLink own index ref (T k).2.1 (T k).2.2.1).before args s = true) (hsame : ∀ x, s.fieldFound? (T k).1 (T k).2.1 (T k).2.2.1 = some x → s.fieldFound? ref (T k).2.1 (T k).2.2.1 = some x) (hfin : (T k).2.2.2 = false) {ty : FieldType} {v : Value} (hd : parseFieldDescriptor (T k).2.2.1 = some ty) (hn : narrow ty v = v) (hfit : fits ty v = true) (hl : k < fs.length) (hdg : decode cc pc = .ok (.putfield index, 3)) {σ1 : ST} (hM' : st_cell σ1 = va_up (st_cell σ) a (some (.inr (ci, fs.set k v)))) (h1 : st_tg σ1 = st_tg σ) (h2 : st_cl σ1 = st_cl σ)
    (kk : ∀ (H1 : Heap) (locs1 : List Loc), mg_H D vwCl A (st_cell σ1) H1 → mk_K D σ1 s → va_S A s.heap H1 locs1 → W p l e R s m args below meth c H1 locs1 cells slots Q (F0 m (pc + 3) ls rest)) : W p l e R s m args below meth c H locs cells slots Q (F0 m pc ls (v :: va_rf r :: rest)) := by
  subst hr
  exact mg_put hexec hb hts hin ty0 hty hnm hown hK.1 hH hS0 he hc k hk hlink hsame hfin hd hn hfit hl hdg hM' (fun H1 locs1 q1 q2 => kk H1 locs1 q1 (hK.of h1 h2) q2)
theorem ms_putN (hexec : p.tables.exec = Jvm.exec) (hb : c.code = cc) {own ref C host : String} {T : u_T} {N ci index : Nat} {Ts : List Cond} (hts : ∀ w ∈ Ts, w.before args s = true) (hin : ∀ w ∈ u_ws C T N, w ∈ Ts) (ty0 : Nat → FieldType) (hty : ∀ k, k < N → parseFieldDescriptor (T k).2.2.1 = some (ty0 k)) (hnm : ∀ a, a < N → ∀ b, b < N → a ≠ b → (T a).2.1 ≠ (T b).2.1) (hown : s.vm.findClass own = some m.cls) (hK : mk_K D σ s) (hH : mg_H D vwCl A (st_cell σ) H) (hS0 : va_S A s.heap H locs) (hr : r = some a) {fs : List Value} (he : st_cell σ a = some (.inr (ci, fs))) (hc : vwCl[ci]? = some (C, T, N)) (k : Nat) (hk : k < N) (hlink : (Cond.fieldLinkNest own index ref (T k).2.1 (T k).2.2.1 host).before args s = true) (hsame : ∀ x, s.fieldFound? (T k).1 (T k).2.1 (T k).2.2.1 = some x → s.fieldFound? ref (T k).2.1 (T k).2.2.1 = some x) (hfin : (T k).2.2.2 = false) {ty : FieldType} {v : Value} (hd : parseFieldDescriptor (T k).2.2.1 = some ty) (hn : narrow ty v = v) (hfit : fits ty v = true) (hl : k < fs.length) (hdg : decode cc pc = .ok (.putfield index, 3)) {σ1 : ST} (hM' : st_cell σ1 = va_up (st_cell σ) a (some (.inr (ci, fs.set k v)))) (h1 : st_tg σ1 = st_tg σ) (h2 : st_cl σ1 = st_cl σ)
    (kk : ∀ (H1 : Heap) (locs1 : List Loc), mg_H D vwCl A (st_cell σ1) H1 → mk_K D σ1 s → va_S A s.heap H1 locs1 → W p l e R s m args below meth c H1 locs1 cells slots Q (F0 m (pc + 3) ls rest)) : W p l e R s m args below meth c H locs cells slots Q (F0 m pc ls (v :: va_rf r :: rest)) := by
  subst hr
  exact mg_putN hexec hb hts hin ty0 hty hnm hown hK.1 hH hS0 he hc k hk hlink hsame hfin hd hn hfit hl hdg hM' (fun H1 locs1 q1 q2 => kk H1 locs1 q1 (hK.of h1 h2) q2)
theorem ms_putF (hexec : p.tables.exec = Jvm.exec) (hb : c.code = cc) {own ref C : String} {T : u_T} {N ci index : Nat} {Ts : List Cond} (hts : ∀ w ∈ Ts, w.before args s = true) (hin : ∀ w ∈ u_ws C T N, w ∈ Ts) (ty0 : Nat → FieldType) (hty : ∀ k, k < N → parseFieldDescriptor (T k).2.2.1 = some (ty0 k)) (hnm : ∀ a, a < N → ∀ b, b < N → a ≠ b → (T a).2.1 ≠ (T b).2.1) (hown : s.vm.findClass own = some m.cls) (hK : mk_K D σ s) (hH : mg_H D vwCl A (st_cell σ) H) (hS0 : va_S A s.heap H locs) (hr : r = some a) {fs : List Value} (he : st_cell σ a = some (.inr (ci, fs))) (hc : vwCl[ci]? = some (C, T, N)) (k : Nat) (hk : k < N) (hlink : (Cond.fieldLink own index ref (T k).2.1 (T k).2.2.1).before args s = true) (hsame : ∀ x, s.fieldFound? (T k).1 (T k).2.1 (T k).2.2.1 = some x → s.fieldFound? ref (T k).2.1 (T k).2.2.1 = some x) (hfin : (T k).2.2.2 = true) (hin2 : meth.name = "<init>") (hdecl : (T k).1 = own) {ty : FieldType} {v : Value} (hd : parseFieldDescriptor (T k).2.2.1 = some ty) (hn : narrow ty v = v) (hfit : fits ty v = true) (hl : k < fs.length) (hdg : decode cc pc = .ok (.putfield index, 3)) {σ1 : ST} (hM' : st_cell σ1 = va_up (st_cell σ) a (some (.inr (ci, fs.set k v)))) (h1 : st_tg σ1 = st_tg σ) (h2 : st_cl σ1 = st_cl σ)
    (kk : ∀ (H1 : Heap) (locs1 : List Loc), mg_H D vwCl A (st_cell σ1) H1 → mk_K D σ1 s → va_S A s.heap H1 locs1 → W p l e R s m args below meth c H1 locs1 cells slots Q (F0 m (pc + 3) ls rest)) : W p l e R s m args below meth c H locs cells slots Q (F0 m pc ls (v :: va_rf r :: rest)) := by
  subst hr
  exact mg_putF hexec hb hts hin ty0 hty hnm hown hK.1 hH hS0 he hc k hk hlink hsame hfin hin2 hdecl hd hn hfit hl hdg hM' (fun H1 locs1 q1 q2 => kk H1 locs1 q1 (hK.of h1 h2) q2)
/-- what comes back of a call -/
theorem mk_back {σ1 : ST} {t : State} {H1 : Heap} (ht : t.heap = H1) (hvm : s.vm.Alike t.vm) (hB : mw D A σ1 t) : mg_H D vwCl A (st_cell σ1) H1 ∧ mk_K D σ1 s := ⟨by rw [← ht]; exact hB.1, mk_K.moved hvm.symm hB.2.1⟩
theorem ms_calli {K : Int32 → ST → Prop} (hr : va_Run p l e R s m args below meth c H locs cells slots mc ms (F0 m pc ls st0) rest (va_Qi K (mw D A) A av) A) (hS : va_S A s.heap H locs)
    (kk : ∀ (x : Int32) (σ1 : ST) (H1 : Heap) (locs1 : List Loc), K x σ1 → mg_H D vwCl A (st_cell σ1) H1 → mk_K D σ1 s → va_S A s.heap H1 locs1 → W p l e R s m args below meth c H1 locs1 (cells + mc) (slots + ms) Q (F0 m (pc + 3) ls (.int x :: rest))) : W p l e R s m args below meth c H locs cells slots Q (F0 m pc ls st0) :=
  va_calli hr hS (fun _ _ h => h) (fun _ h => h) (fun x u t H1 locs1 ht hvm hw hB _ _ hS1 => kk x u H1 locs1 hw (mk_back ht hvm hB).1 (mk_back ht hvm hB).2 hS1)
theorem ms_calll {K : Int64 → ST → Prop} (hr : va_Run p l e R s m args below meth c H locs cells slots mc ms (F0 m pc ls st0) rest (va_Ql K (mw D A) A av) A) (hS : va_S A s.heap H locs)
    (kk : ∀ (x : Int64) (σ1 : ST) (H1 : Heap) (locs1 : List Loc), K x σ1 → mg_H D vwCl A (st_cell σ1) H1 → mk_K D σ1 s → va_S A s.heap H1 locs1 → W p l e R s m args below meth c H1 locs1 (cells + mc) (slots + ms) Q (F0 m (pc + 3) ls (.long x :: rest))) : W p l e R s m args below meth c H locs cells slots Q (F0 m pc ls st0) :=
  va_calll hr hS (fun _ _ h => h) (fun _ h => h) (fun x u t H1 locs1 ht hvm hw hB _ _ hS1 => kk x u H1 locs1 hw (mk_back ht hvm hB).1 (mk_back ht hvm hB).2 hS1)
theorem ms_callv {K : ST → Prop} (hr : va_Run p l e R s m args below meth c H locs cells slots mc ms (F0 m pc ls st0) rest (va_Qv K (mw D A) A av) A) (hS : va_S A s.heap H locs)
    (kk : ∀ (σ1 : ST) (H1 : Heap) (locs1 : List Loc), K σ1 → mg_H D vwCl A (st_cell σ1) H1 → mk_K D σ1 s → va_S A s.heap H1 locs1 → W p l e R s m args below meth c H1 locs1 (cells + mc) (slots + ms) Q (F0 m (pc + 3) ls rest)) : W p l e R s m args below meth c H locs cells slots Q (F0 m pc ls st0) :=
  va_callv hr hS (fun _ _ h => h) (fun _ h => h) (fun u t H1 locs1 ht hvm hw hB _ _ hS1 => kk u H1 locs1 hw (mk_back ht hvm hB).1 (mk_back ht hvm hB).2 hS1)
theorem ms_callq {K : Option Nat → ST → Prop} (hr : va_Run p l e R s m args below meth c H locs cells slots mc ms (F0 m pc ls st0) rest (va_Qq K (mw D A) A av) A) (hS : va_S A s.heap H locs)
    (kk : ∀ (x : Option Nat) (σ1 : ST) (H1 : Heap) (locs1 : List Loc), K x σ1 → mg_H D vwCl A (st_cell σ1) H1 → mk_K D σ1 s → va_S A s.heap H1 locs1 → W p l e R s m args below meth c H1 locs1 (cells + mc) (slots + ms) Q (F0 m (pc + 3) ls (va_rf x :: rest))) : W p l e R s m args below meth c H locs cells slots Q (F0 m pc ls st0) :=
  va_callq hr hS (fun _ _ h => h) (fun _ h => h) (fun x u t H1 locs1 ht hvm hw hB _ _ hS1 => kk x u H1 locs1 hw (mk_back ht hvm hB).1 (mk_back ht hvm hB).2 hS1)
theorem ms_iald (hexec : p.tables.exec = Jvm.exec) (hb : c.code = cc) (hK : mk_K D σ s) (hH : mg_H D vwCl A (st_cell σ) H) (hr : r = some a) {k : Nat} (ht : st_tg σ a = some k) (hty : st_aty k = some (.int)) (he : st_cell σ a = some (.inl (st_cl σ a, st_ln σ a, .inl (st_eI σ a)))) {i : Int32} (hin : vp_in i (st_ln σ a)) (hdg : decode cc pc = .ok (.iaload, 1))
    (kk : W p l e R s m args below meth c H locs cells slots Q (F0 m (pc + 1) ls (.int (st_eI σ a i.toNatClampNeg) :: rest))) : W p l e R s m args below meth c H locs cells slots Q (F0 m pc ls (.int i :: va_rf r :: rest)) := by
  subst hr
  exact mg_iald hexec hb (hK.2 a k _ ht hty) hH he hin hdg kk
theorem ms_lald (hexec : p.tables.exec = Jvm.exec) (hb : c.code = cc) (hK : mk_K D σ s) (hH : mg_H D vwCl A (st_cell σ) H) (hr : r = some a) {k : Nat} (ht : st_tg σ a = some k) (hty : st_aty k = some (.long)) (he : st_cell σ a = some (.inl (st_cl σ a, st_ln σ a, .inr (.inl (st_eJ σ a))))) {i : Int32} (hin : vp_in i (st_ln σ a)) (hdg : decode cc pc = .ok (.laload, 1))
    (kk : W p l e R s m args below meth c H locs cells slots Q (F0 m (pc + 1) ls (.long (st_eJ σ a i.toNatClampNeg) :: rest))) : W p l e R s m args below meth c H locs cells slots Q (F0 m pc ls (.int i :: va_rf r :: rest)) := by
  subst hr
  exact mg_lald hexec hb (hK.2 a k _ ht hty) hH he hin hdg kk
theorem ms_aald (hexec : p.tables.exec = Jvm.exec) (hb : c.code = cc) (hK : mk_K D σ s) (hH : mg_H D vwCl A (st_cell σ) H) (hr : r = some a) {k : Nat} {C : String} (ht : st_tg σ a = some k) (hty : st_aty k = some (.object C)) (he : st_cell σ a = some (.inl (st_cl σ a, st_ln σ a, .inr (.inr (.inr (.inr (st_eR σ a))))))) {i : Int32} (hin : vp_in i (st_ln σ a)) (hdg : decode cc pc = .ok (.aaload, 1))
    (kk : W p l e R s m args below meth c H locs cells slots Q (F0 m (pc + 1) ls (va_rf (st_eR σ a i.toNatClampNeg) :: rest))) : W p l e R s m args below meth c H locs cells slots Q (F0 m pc ls (.int i :: va_rf r :: rest)) := by
  subst hr
  exact mg_aald hexec hb (hK.2 a k _ ht hty) hH he hin hdg kk
theorem ms_iast (hexec : p.tables.exec = Jvm.exec) (hb : c.code = cc) (hK : mk_K D σ s) (hH : mg_H D vwCl A (st_cell σ) H) (hS : va_S A s.heap H locs) (hr : r = some a) {k : Nat} (ht : st_tg σ a = some k) (hty : st_aty k = some (.int)) (he : st_cell σ a = some (.inl (st_cl σ a, st_ln σ a, .inl (st_eI σ a)))) {i : Int32} {x : Int32} (hin : vp_in i (st_ln σ a)) (hdg : decode cc pc = .ok (.iastore, 1)) {σ1 : ST} (hM' : st_cell σ1 = va_up (st_cell σ) a (some (.inl (st_cl σ a, st_ln σ a, .inl (upd (st_eI σ a) i.toNatClampNeg x))))) (h1 : st_tg σ1 = st_tg σ) (h2 : st_cl σ1 = st_cl σ)
    (kk : ∀ (H1 : Heap) (locs1 : List Loc), mg_H D vwCl A (st_cell σ1) H1 → mk_K D σ1 s → va_S A s.heap H1 locs1 → W p l e R s m args below meth c H1 locs1 cells slots Q (F0 m (pc + 1) ls rest)) : W p l e R s m args below meth c H locs cells slots Q (F0 m pc ls (.int x :: .int i :: va_rf r :: rest)) := by
  subst hr
  exact mg_iast hexec hb (hK.2 a k _ ht hty) hH hS he hin hdg hM' (fun H1 locs1 q1 q2 => kk H1 locs1 q1 (hK.of h1 h2) q2)
theorem ms_last (hexec : p.tables.exec = Jvm.exec) (hb : c.code = cc) (hK : mk_K D σ s) (hH : mg_H D vwCl A (st_cell σ) H) (hS : va_S A s.heap H locs) (hr : r = some a) {k : Nat} (ht : st_tg σ a = some k) (hty : st_aty k = some (.long)) (he : st_cell σ a = some (.inl (st_cl σ a, st_ln σ a, .inr (.inl (st_eJ σ a))))) {i : Int32} {x : Int64} (hin : vp_in i (st_ln σ a)) (hdg : decode cc pc = .ok (.lastore, 1)) {σ1 : ST} (hM' : st_cell σ1 = va_up (st_cell σ) a (some (.inl (st_cl σ a, st_ln σ a, .inr (.inl (vp_updL (st_eJ σ a) i.toNatClampNeg x)))))) (h1 : st_tg σ1 = st_tg σ) (h2 : st_cl σ1 = st_cl σ)
    (kk : ∀ (H1 : Heap) (locs1 : List Loc), mg_H D vwCl A (st_cell σ1) H1 → mk_K D σ1 s → va_S A s.heap H1 locs1 → W p l e R s m args below meth c H1 locs1 cells slots Q (F0 m (pc + 1) ls rest)) : W p l e R s m args below meth c H locs cells slots Q (F0 m pc ls (.long x :: .int i :: va_rf r :: rest)) := by
  subst hr
  exact mg_last hexec hb (hK.2 a k _ ht hty) hH hS he hin hdg hM' (fun H1 locs1 q1 q2 => kk H1 locs1 q1 (hK.of h1 h2) q2)
theorem ms_aast (hexec : p.tables.exec = Jvm.exec) (hb : c.code = cc) {w : vw_C} {ci : Nat} (hc : vwCl[ci]? = some w) (hK : mk_K D σ s) (hH : mg_H D vwCl A (st_cell σ) H) (hS : va_S A s.heap H locs) (hr : r = some a) {k : Nat} (ht : st_tg σ a = some k) (hty : st_aty k = some (.object w.1)) (he : st_cell σ a = some (.inl (st_cl σ a, st_ln σ a, .inr (.inr (.inr (.inr (st_eR σ a))))))) {i : Int32} {x : Option Nat} (hv : ∀ y, x = some y → ∃ vs, st_cell σ y = some (.inr (ci, vs))) (hin : vp_in i (st_ln σ a)) (hdg : decode cc pc = .ok (.aastore, 1)) {σ1 : ST} (hM' : st_cell σ1 = va_up (st_cell σ) a (some (.inl (st_cl σ a, st_ln σ a, .inr (.inr (.inr (.inr (va_up (st_eR σ a) i.toNatClampNeg x)))))))) (h1 : st_tg σ1 = st_tg σ) (h2 : st_cl σ1 = st_cl σ)
    (kk : ∀ (H1 : Heap) (locs1 : List Loc), mg_H D vwCl A (st_cell σ1) H1 → mk_K D σ1 s → va_S A s.heap H1 locs1 → W p l e R s m args below meth c H1 locs1 cells slots Q (F0 m (pc + 1) ls rest)) : W p l e R s m args below meth c H locs cells slots Q (F0 m pc ls (va_rf x :: .int i :: va_rf r :: rest)) := by
  subst hr
  exact mg_aast hexec hb hc (hK.2 a k _ ht hty) hH hS he hv hin hdg hM' (fun H1 locs1 q1 q2 => kk H1 locs1 q1 (hK.of h1 h2) q2)
theorem ms_zald (hexec : p.tables.exec = Jvm.exec) (hb : c.code = cc) (hK : mk_K D σ s) (hH : mg_H D vwCl A (st_cell σ) H) (hr : r = some a) {k : Nat} (ht : st_tg σ a = some k) (hty : st_aty k = some (.boolean)) (he : st_cell σ a = some (.inl (st_cl σ a, st_ln σ a, .inl (st_eI σ a)))) {i : Int32} (hin : vp_in i (st_ln σ a)) (hdg : decode cc pc = .ok (.baload, 1))
    (kk : W p l e R s m args below meth c H locs cells slots Q (F0 m (pc + 1) ls (.int (st_eI σ a i.toNatClampNeg) :: rest))) : W p l e R s m args below meth c H locs cells slots Q (F0 m pc ls (.int i :: va_rf r :: rest)) := by
  subst hr
  exact mg_zald hexec hb (hK.2 a k _ ht hty) hH he hin hdg kk
theorem ms_zast (hexec : p.tables.exec = Jvm.exec) (hb : c.code = cc) (hK : mk_K D σ s) (hH : mg_H D vwCl A (st_cell σ) H) (hS : va_S A s.heap H locs) (hr : r = some a) {k : Nat} (ht : st_tg σ a = some k) (hty : st_aty k = some (.boolean)) (he : st_cell σ a = some (.inl (st_cl σ a, st_ln σ a, .inl (st_eI σ a)))) {i : Int32} {x : Int32} (hv : x = 0 ∨ x = 1) (hin : vp_in i (st_ln σ a)) (hdg : decode cc pc = .ok (.bastore, 1)) {σ1 : ST} (hM' : st_cell σ1 = va_up (st_cell σ) a (some (.inl (st_cl σ a, st_ln σ a, .inl (upd (st_eI σ a) i.toNatClampNeg x))))) (h1 : st_tg σ1 = st_tg σ) (h2 : st_cl σ1 = st_cl σ)
    (kk : ∀ (H1 : Heap) (locs1 : List Loc), mg_H D vwCl A (st_cell σ1) H1 → mk_K D σ1 s → va_S A s.heap H1 locs1 → W p l e R s m args below meth c H1 locs1 cells slots Q (F0 m (pc + 1) ls rest)) : W p l e R s m args below meth c H locs cells slots Q (F0 m pc ls (.int x :: .int i :: va_rf r :: rest)) := by
  subst hr
  exact mg_zast hexec hb (hK.2 a k _ ht hty) hH hS he hv hin hdg hM' (fun H1 locs1 q1 q2 => kk H1 locs1 q1 (hK.of h1 h2) q2)
theorem ms_alen (hexec : p.tables.exec = Jvm.exec) (hb : c.code = cc) (hK : mk_K D σ s) (hH : mg_H D vwCl A (st_cell σ) H) (hr : r = some a) {k : Nat} {ty : FieldType} (ht : st_tg σ a = some k) (hty : st_aty k = some ty) {y : (Nat → Int32) ⊕ (Nat → Int64) ⊕ (Nat → UInt32) ⊕ (Nat → UInt64) ⊕ (Nat → Option Nat)} (he : st_cell σ a = some (.inl (st_cl σ a, st_ln σ a, y))) (hdg : decode cc pc = .ok (.arraylength, 1))
    (kk : W p l e R s m args below meth c H locs cells slots Q (F0 m (pc + 1) ls (.int (nI (st_ln σ a)) :: rest))) : W p l e R s m args below meth c H locs cells slots Q (F0 m pc ls (va_rf r :: rest)) := by
  subst hr
  exact mg_alen hexec hb (hK.2 a k _ ht hty) hH he rfl hdg kk
theorem st_none {σ : ST} {q : Nat} (h : st_cell σ q = none) : st_tg σ q = none := by
  unfold st_cell at h
  cases hz : st_tg σ q with
  | none => rfl
  | some k => rw [hz] at h; cases h
theorem ms_new (hexec : p.tables.exec = Jvm.exec) (hb : c.code = cc) {own C : String} {T : u_T} {N ci index : Nat} {Ts : List Cond} (hts : ∀ w ∈ Ts, w.before args s = true) (hin : ∀ w ∈ u_ws C T N, w ∈ Ts) (ty : Nat → FieldType) (hty : ∀ k, k < N → parseFieldDescriptor (T k).2.2.1 = some (ty k)) (hown : s.vm.findClass own = some m.cls) (hcl : (Cond.classLink own index C).before args s = true) (hinst : (Cond.instantiable C N).before args s = true) (hini : (Cond.initialized C).before args s = true)
    (hK : mk_K D σ s) (hH : mg_H D vwCl A (st_cell σ) H) (hS : va_S A s.heap H locs) (hA : ∀ q, s.heap.size ≤ q → A q) (hc : vwCl[ci]? = some (C, T, N)) {fs : List Value} (hfs : ∀ j, j < N → defaultValue (ty j) = vp_V fs j) (hcells : cells + 1 ≤ R.cells) (hslots : slots + N ≤ R.slots) (hdg : decode cc pc = .ok (.new index, 3)) (hno : st_aty ci = none) (hM' : ∀ q, st_tg σ q = none → st_cell (st_new σ q ci) = va_up (st_cell σ) q (some (.inr (ci, fs))))
    (kk : ∀ (q : Nat) (H1 : Heap), st_tg σ q = none → mg_H D vwCl A (st_cell (st_new σ q ci)) H1 → mk_K D (st_new σ q ci) s → va_S A s.heap H1 locs → W p l e R s m args below meth c H1 locs (cells + 1) (slots + N) Q (F0 m (pc + 3) ls (va_rf (some q) :: rest))) : W p l e R s m args below meth c H locs cells slots Q (F0 m pc ls rest) := by
  refine mg_new hexec hb hts hin ty hty hown hcl hinst hini hK.1 hH hS hA hc hfs hcells hslots hdg (fun q H1 q1 q2 q3 => ?_)
  have hq := st_none q1
  refine kk q H1 hq (by rw [hM' q hq]; exact q2) ⟨hK.1, fun a k ty h1 h2 => ?_⟩ q3
  rw [g_tg_new] at h1
  by_cases z : a = q
  · rw [if_pos z] at h1
    cases h1
    rw [hno] at h2
    cases h2
  · rw [if_neg z] at h1
    exact hK.2 a k ty h1 h2
theorem mk_arr {q k : Nat} {cA : ClassId} {n : Nat} {ty : FieldType} (hK : mk_K D σ s) (hty : st_aty k = some ty) (h : va_K D vwCl [(cA, ty)] s) : mk_K D (st_arr σ q k cA n) s := by
  refine ⟨hK.1, fun a k1 ty1 h1 h2 => ?_⟩
  rw [g_tg_arr] at h1
  rw [g_cl_arr]
  by_cases z : a = q
  · rw [if_pos z] at h1
    cases h1
    rw [hty] at h2
    cases h2
    rw [if_pos z]
    exact h
  · rw [if_neg z] at h1
    rw [if_neg z]
    exact hK.2 a k1 ty1 h1 h2
theorem ms_newa (hexec : p.tables.exec = Jvm.exec) (hb : c.code = cc) {atype : ArrayType} (harr : (Cond.arrayClass (newarray.typeOf atype)).before args s = true) {ty : FieldType} (hty : newarray.typeOf atype = ty) (hK : mk_K D σ s) (hH : mg_H D vwCl A (st_cell σ) H) (hS : va_S A s.heap H locs) (hA : ∀ q, s.heap.size ≤ q → A q) (k : Nat) (hk : st_aty k = some ty)
    {n : Int32} {N' : Nat} {y : (Nat → Int32) ⊕ (Nat → Int64) ⊕ (Nat → UInt32) ⊕ (Nat → UInt64) ⊕ (Nat → Option Nat)} (ha : ∀ cA : ClassId, vp_cell cA (N', y) = arrV cA N' (fun _ => defaultValue ty)) (hn : ¬ n < 0) (hN : n.toNatClampNeg = N') (hbytes : N' * componentBytes ty ≤ 536870912) (hcells : cells + 1 ≤ R.cells) (hslots : slots + N' ≤ R.slots) (hdg : decode cc pc = .ok (.newarray atype, 2)) (hM' : ∀ q cA, st_tg σ q = none → st_cell (st_arr σ q k cA N') = va_up (st_cell σ) q (some (.inl (cA, N', y))))
    (kk : ∀ (q : Nat) (cA : ClassId) (H1 : Heap), st_tg σ q = none → mg_H D vwCl A (st_cell (st_arr σ q k cA N')) H1 → mk_K D (st_arr σ q k cA N') s → va_S A s.heap H1 locs → W p l e R s m args below meth c H1 locs (cells + 1) (slots + N') Q (F0 m (pc + 2) ls (va_rf (some q) :: rest))) : W p l e R s m args below meth c H locs cells slots Q (F0 m pc ls (.int n :: rest)) := by
  refine mg_newa hexec hb harr hty hK.1 hH hS hA ha hn hN hbytes hcells hslots hdg (fun q cA H1 q1 hKa q2 q3 => ?_)
  have hq := st_none q1
  exact kk q cA H1 hq (by rw [hM' q cA hq]; exact q2) (mk_arr hK hk hKa) q3
theorem ms_newq (hexec : p.tables.exec = Jvm.exec) (hb : c.code = cc) {own C : String} {index : Nat} (hown : s.vm.findClass own = some m.cls) (hclink : (Cond.classLink own index C).before args s = true) (hover : va_AO C s) (hK : mk_K D σ s) (hH : mg_H D vwCl A (st_cell σ) H) (hS : va_S A s.heap H locs) (hA : ∀ q, s.heap.size ≤ q → A q) (k : Nat) (hk : st_aty k = some (.object C))
    {n : Int32} {N' : Nat} (hn : ¬ n < 0) (hN : n.toNatClampNeg = N') (hbytes : N' * 4 ≤ 536870912) (hcells : cells + 1 ≤ R.cells) (hslots : slots + N' ≤ R.slots) (hdg : decode cc pc = .ok (.anewarray index, 3)) (hM' : ∀ q cA, st_tg σ q = none → st_cell (st_arr σ q k cA N') = va_up (st_cell σ) q (some (.inl (cA, N', .inr (.inr (.inr (.inr (fun _ => none))))))))
    (kk : ∀ (q : Nat) (cA : ClassId) (H1 : Heap), st_tg σ q = none → mg_H D vwCl A (st_cell (st_arr σ q k cA N')) H1 → mk_K D (st_arr σ q k cA N') s → va_S A s.heap H1 locs → W p l e R s m args below meth c H1 locs (cells + 1) (slots + N') Q (F0 m (pc + 3) ls (va_rf (some q) :: rest))) : W p l e R s m args below meth c H locs cells slots Q (F0 m pc ls (.int n :: rest)) := by
  refine mg_newq hexec hb hown hclink hover hK.1 hH hS hA hn hN hbytes hcells hslots hdg (fun q cA H1 q1 hKa q2 q3 => ?_)
  have hq := st_none q1
  exact kk q cA H1 hq (by rw [hM' q cA hq]; exact q2) (mk_arr hK hk hKa) q3
end MSR

