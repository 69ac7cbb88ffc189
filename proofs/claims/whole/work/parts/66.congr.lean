/-! the relation looks only at what lives -/
def Ext (σ σ' : ST) : Prop := ∀ a, st_tg σ a ≠ none → st_tg σ' a = st_tg σ a ∧ st_ln σ' a = st_ln σ a ∧ (∀ f, isS f = false → st_I σ' f a = st_I σ f a) ∧ (∀ f, st_J σ' f a = st_J σ f a) ∧ (∀ f, st_R σ' f a = st_R σ f a) ∧ st_eR σ' a = st_eR σ a
theorem Ext.at {σ σ' : ST} (h : Ext σ σ') {a k : Nat} (e : st_tg σ a = some k) : st_tg σ' a = some k ∧ st_ln σ' a = st_ln σ a ∧ (∀ f, isS f = false → st_I σ' f a = st_I σ f a) ∧ (∀ f, st_J σ' f a = st_J σ f a) ∧ (∀ f, st_R σ' f a = st_R σ f a) ∧ st_eR σ' a = st_eR σ a := by
  obtain ⟨h1, h2⟩ := h a (by rw [e]; exact fun q => by cases q)
  exact ⟨h1.trans e, h2⟩
theorem SX.ext {G : GX} {σ σ' : ST} (h : SX G σ) (hc : Ext σ σ') : SX G σ' := by
  obtain ⟨⟨a1, a2, a3, a4, a5, a6, a7⟩, ⟨⟨b1, b2⟩, ⟨b3, b4⟩, ⟨b5, b6⟩, ⟨b7, b8⟩, ⟨b9, b10⟩, b11, b12⟩, c1, c2, c3⟩ := h
  have e := hc.at a1
  refine ⟨⟨e.1, ?_, ?_, ?_, ?_, ?_, ?_⟩, ⟨⟨(hc.at b1).1, ?_⟩, ⟨(hc.at b3).1, ?_⟩, ⟨(hc.at b5).1, ?_⟩, ⟨(hc.at b7).1, ?_⟩, ⟨(hc.at b9).1, ?_⟩, (hc.at b11).1, ?_⟩, fun k hk => ⟨?_, (hc.at (c1 k hk).2.1).1, ?_⟩, fun k hk => ⟨?_, (hc.at (c2 k hk).2).1⟩, c3⟩
  · rw [e.2.2.2.2.1]; exact a2
  · rw [e.2.2.2.2.1]; exact a3
  · rw [e.2.2.2.2.1]; exact a4
  · rw [e.2.2.2.2.1]; exact a5
  · rw [e.2.2.2.2.1]; exact a6
  · rw [e.2.2.2.2.1]; exact a7
  · rw [(hc.at b1).2.1]; exact b2
  · rw [(hc.at b3).2.1]; exact b4
  · rw [(hc.at b5).2.1]; exact b6
  · rw [(hc.at b7).2.1]; exact b8
  · rw [(hc.at b9).2.1]; exact b10
  · rw [(hc.at b11).2.1]; exact b12
  · rw [(hc.at b1).2.2.2.2.2]; exact (c1 k hk).1
  · rw [(hc.at (c1 k hk).2.1).2.2.1 160 rfl]; exact (c1 k hk).2.2
  · rw [(hc.at b3).2.2.2.2.2]; exact (c2 k hk).1
theorem OFF.ext {G : GX} {F : FS} {σ σ' : ST} (hS : SX G σ) (h : OFF G F σ) (hc : Ext σ σ') : OFF G F σ' := fun k hk => by
  obtain ⟨-, -, e3, e4, -⟩ := hc.at (hS.2.2.1 k hk).2.1
  obtain ⟨a1, a2, a3, a4, a5, a6⟩ := h k hk
  exact ⟨by rw [e4]; exact a1, by rw [e4]; exact a2, by rw [e3 163 rfl]; exact a3, by rw [e3 165 rfl]; exact a4, by rw [e4]; exact a5, by rw [e4]; exact a6⟩
theorem CUR.ext {G : GX} {F : FS} {σ σ' : ST} (hS : SX G σ) (h : CUR G F σ) (hc : Ext σ σ') : CUR G F σ' := fun k hk => by
  rw [(hc.at (hS.2.2.2.1 k hk).2).2.2.2.1]
  exact h k hk
theorem OR1.ext {G : GX} {F : FS} {σ σ' : ST} (hS : SX G σ) {i : Nat} (h : OR1 G F σ i) (hc : Ext σ σ') : OR1 G F σ' i := by
  obtain ⟨o1, o2, o3, ⟨hh, q1, q2, q3⟩, o5, o6, ⟨cc, r1, r2, r3⟩, o8, o9, o10, o11, o12⟩ := h
  obtain ⟨e1, -, e3, e4, e5, -⟩ := hc.at o2
  refine ⟨?_, e1, ?_, ⟨hh, q1, ?_, q3⟩, ?_, ?_, ⟨cc, r1, ?_, r3⟩, ?_, ?_, ?_, ?_, ?_⟩
  · rw [(hc.at hS.2.1.2.2.1.1).2.2.2.2.2]; exact o1
  · rw [e3 200 rfl]; exact o3
  · rw [e5]; exact q2
  · rw [e4]; exact o5
  · rw [e4]; exact o6
  · rw [e5]; exact r2
  · rw [e3 205 rfl]; exact o8
  · rw [e3 206 rfl]; exact o9
  · rw [e4]; exact o10
  · rw [e5]; exact o11
  · rw [e5]; exact o12
theorem chn_ext {G : GX} {σ σ' : ST} {n : Nat} (h : ∀ i, i < n → st_R σ' 210 (G 3 i) = st_R σ 210 (G 3 i)) : ∀ l x, (∀ i, i ∈ l → i < n) → chn G σ l x → chn G σ' l x
  | [], _ => fun _ q => q
  | i :: t, _ => fun hl q => ⟨q.1, by rw [h i (hl i (List.mem_cons_self))]; exact chn_ext h t _ (fun j hj => hl j (List.mem_cons_of_mem _ hj)) q.2⟩
theorem RX.ext {G : GX} {c : Nat} {F : FS} {σ σ' : ST} (h : RX G c F σ) (hc : Ext σ σ') (hZ : st_eJ σ' (G 0 9) = st_eJ σ (G 0 9)) : RX G c F σ' := by
  obtain ⟨h1, h2, h3, h4, h5, ⟨n, ⟨n1, n2, n3, n4⟩, ⟨d1, d2⟩, h62, h63⟩, ⟨a, v, t1, t2, t3, t4, t5, t6, t7, t8, t9⟩, ⟨w, w1, w2, w3, w4⟩⟩ := h
  have ea := hc.at h1.1.1
  refine ⟨h1.ext hc, h2.ext h1 hc, h3, h4.ext h1 hc, fun j hj => ?_, ⟨n, ⟨n1, n2, ?_, n4⟩, ⟨fun i hi => (d1 i hi).ext h1 hc, d2⟩, fun k hk => ⟨?_, (h62 k hk).2⟩, fun k hk => ?_⟩, ⟨a, v, t1, ?_, t3, ?_, t5, t6, t7, fun t ht htk => ?_, t9⟩, ⟨w, w1, w2, ?_, fun i hi => ?_⟩⟩
  · rw [hZ]; exact h5 j hj
  · rw [ea.2.2.1 3 rfl]; exact n3
  · rw [(hc.at (h1.2.2.1 k hk).2.1).2.2.1 164 rfl]; exact (h62 k hk).1
  · obtain ⟨ch, c1, c2, c3, c4, c5⟩ := h63 k hk
    refine ⟨ch, ?_, c2, c3, c4, c5⟩
    rw [(hc.at (h1.2.2.1 k hk).2.1).2.2.2.2.1]
    exact chn_ext (n := n) (fun i hi => (hc.at (d1 i hi).2.1).2.2.2.2.1 210) ch _ (fun i hi => (c4 i hi).1) c1
  · rw [ea.2.2.1 5 rfl]; exact t2
  · rw [ea.2.2.1 6 rfl]; exact t4
  · obtain ⟨x1, x2, x3, x4, x5, x6, x7⟩ := t8 t ht htk
    obtain ⟨e1, -, e3, e4, -, -⟩ := hc.at x2
    exact ⟨by rw [(hc.at h1.2.1.2.2.2.1.1).2.2.2.2.2]; exact x1, e1, by rw [e3 240 rfl]; exact x3, by rw [e4]; exact x4, by rw [e3 242 rfl]; exact x5, by rw [e4]; exact x6, by rw [e3 244 rfl]; exact x7⟩
  · rw [ea.2.2.1 8 rfl]; exact w3
  · obtain ⟨z, x1, x2, ⟨hh, y1, y2, y3⟩, x4, x5⟩ := w4 i hi
    obtain ⟨e1, -, e3, e4, e5, -⟩ := hc.at x2
    exact ⟨z, by rw [(hc.at h1.2.1.2.2.2.2.1.1).2.2.2.2.2]; exact x1, e1, ⟨hh, y1, by rw [e5]; exact y2, y3⟩, by rw [e4]; exact x4, by rw [e3 82 rfl]; exact x5⟩
theorem Ext.nw {σ : ST} {q k : Nat} (hq : st_tg σ q = none) : Ext σ (st_new σ q k) := fun b hb => by
  have hne : b ≠ q := fun e => hb (by rw [e]; exact hq)
  exact ⟨by rw [g_tg_new, if_neg hne], rfl, fun f _ => by rw [g_I_new, if_neg hne], fun f => by rw [g_J_new, if_neg hne], fun f => by rw [g_R_new, if_neg hne], rfl⟩
theorem Ext.sI {σ σ1 : ST} {q f : Nat} {v : Int32} (h : Ext σ σ1) (hq : st_tg σ q = none) : Ext σ (st_sI σ1 f q v) := fun b hb => by
  have hne : b ≠ q := fun e => hb (by rw [e]; exact hq)
  obtain ⟨a1, a2, a3, a4, a5, a6⟩ := h b hb
  exact ⟨a1, a2, fun g hg => by rw [g_I_sI, if_neg (fun y => hne y.2)]; exact a3 g hg, a4, a5, a6⟩
theorem Ext.sJ {σ σ1 : ST} {q f : Nat} {v : Int64} (h : Ext σ σ1) (hq : st_tg σ q = none) : Ext σ (st_sJ σ1 f q v) := fun b hb => by
  have hne : b ≠ q := fun e => hb (by rw [e]; exact hq)
  obtain ⟨a1, a2, a3, a4, a5, a6⟩ := h b hb
  exact ⟨a1, a2, a3, fun g => by rw [g_J_sJ, if_neg (fun y => hne y.2)]; exact a4 g, a5, a6⟩
theorem Ext.sR {σ σ1 : ST} {q f : Nat} {v : Option Nat} (h : Ext σ σ1) (hq : st_tg σ q = none) : Ext σ (st_sR σ1 f q v) := fun b hb => by
  have hne : b ≠ q := fun e => hb (by rw [e]; exact hq)
  obtain ⟨a1, a2, a3, a4, a5, a6⟩ := h b hb
  exact ⟨a1, a2, a3, a4, fun g => by rw [g_R_sR, if_neg (fun y => hne y.2)]; exact a5 g, a6⟩
/-- what the reference's calls do, the relation doesn't see -/
theorem RX.frM {G : GX} {c am : Nat} {ma : Nat → Nat} {F : FS} {σ σ' : ST} (h : RX G c F σ) (hf : FrM am ma σ σ') (hz : ∀ j, isA j = true → G 0 9 ≠ ma j) : RX G c F σ' := by
  obtain ⟨f1, f2, f3, f4, f5, f6, f7⟩ := hf
  exact h.ext (fun a _ => ⟨by rw [f1], by rw [f2], fun f hf => f6 f a hf, fun f => by rw [f4], fun f => by rw [f3], by rw [f5]⟩) (f7 _ hz).2
