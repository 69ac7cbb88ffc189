/-! from the entry: nothing is made yet -/
def st_0 (c : ClassId) : ST := (fun _ => none, fun _ => c, fun _ => 0, fun _ _ => 0, fun _ _ => 0, fun _ _ => none, fun _ _ => 0, fun _ _ => 0, fun _ _ => none)
theorem whole_start {p : Program} {e : Env} {s : State} {m : MethodId} {below : List Frame} {meth : Method} {c : Code} (l : Launch) {b L : Nat} {xs : Nat → Int32} (hL : L ≤ 4096) (C0 : lw_At p s m meth c b L xs) : W p l e room_1 s m #[Value.ref b] below meth c s.heap [] 0 0 (lw_Z below #[Value.ref b] s) (entryFrame m ([Value.ref b] : List Value).toArray 4) := by
  obtain ⟨hx, hb, hr, hml, hown, hts, hX, hbl, hlocks, hgv⟩ := id C0
  have htg : ∀ w ∈ lw_g, w.before #[Value.ref b] s = true := fun w h => hts w (List.mem_filter.mp h).1
  obtain ⟨c0, i0, k0⟩ := u_known (C := R_X) (T := T_X) (N := 10) (n := 10) htg in_0 (htg _ wd_10)
  obtain ⟨c1, i1, k1⟩ := u_known (C := R_M) (T := T_M) (N := 32) (n := 32) htg in_1 (htg _ wd_410)
  obtain ⟨c2, i2, k2⟩ := u_known (C := R_Collected) (T := T_Collected) (N := 3) (n := 3) htg in_2 (htg _ wd_359)
  obtain ⟨c3, i3, k3⟩ := u_known (C := R_Currency) (T := T_Currency) (N := 1) (n := 1) htg in_3 (htg _ wd_67)
  obtain ⟨c4, i4, k4⟩ := u_known (C := R_Office) (T := T_Office) (N := 9) (n := 9) htg in_4 (htg _ wd_27)
  obtain ⟨c5, i5, k5⟩ := u_known (C := R_Order) (T := T_Order) (N := 11) (n := 11) htg in_5 (htg _ wd_133)
  obtain ⟨c6, i6, k6⟩ := u_known (C := R_Try) (T := T_Try) (N := 5) (n := 5) htg in_6 (htg _ wd_266)
  obtain ⟨D, hKc⟩ : ∃ D : va_G, ∀ (k : Nat) (q : vw_C), vwCl[k]? = some q → u_Kn s q.1 q.2.1 q.2.2 (D.1 k) (D.2 k) := by
    refine ⟨(fun k => if k = 0 then c0 else if k = 1 then c1 else if k = 2 then c2 else if k = 3 then c3 else if k = 4 then c4 else if k = 5 then c5 else c6, fun k => if k = 0 then i0 else if k = 1 then i1 else if k = 2 then i2 else if k = 3 then i3 else if k = 4 then i4 else if k = 5 then i5 else i6), ?_⟩
    intro k q hq
    match k, hq with
    | 0, hq => cases hq; exact k0
    | 1, hq => cases hq; exact k1
    | 2, hq => cases hq; exact k2
    | 3, hq => cases hq; exact k3
    | 4, hq => cases hq; exact k4
    | 5, hq => cases hq; exact k5
    | 6, hq => cases hq; exact k6
    | k + 7, hq => simp [vwCl] at hq
  have hH : mg_H D vwCl (fun q : Nat => s.heap.size ≤ q) (st_cell (st_0 c0)) s.heap := by
    refine ⟨[], fun k q h => by simp at h, ⟨fun i j p q h => by simp at h, fun k q h => by simp at h⟩, fun a e => ⟨fun h => ?_, fun h => ?_⟩⟩
    · obtain ⟨k, h⟩ := h
      simp at h
    · rw [cell_none (σ := st_0 c0) (a := a) rfl] at h
      cases h
  have hK : mk_K D (st_0 c0) s := by
    refine ⟨⟨hKc, fun k q h => by simp at h⟩, fun a k ty h => ?_⟩
    have h2 : (none : Option Nat) = some k := h
    cases h2
  exact law_walk l C0 hH hK (law_all hL (st_0 c0))
