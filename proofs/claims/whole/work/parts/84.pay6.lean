/-! pay: how many of the day's payments had this proof -/
def cA (F : FS) (p : Int32) : List Nat → Nat
  | [] => 0
  | i :: t => cA F p t + (if fI F 45 (i + 1) = p then 1 else 0)
def cB (F : FS) (k : Nat) (p : Int32) : Nat → Nat
  | 0 => 0
  | m + 1 => cB F k p m + (if fI F 59 (300 * k + m) = p then 1 else 0)
theorem cA_cB {F : FS} {k : Nat} {p : Int32} : ∀ l, prf F k l → cA F p l = cB F k p l.length
  | [], _ => rfl
  | i :: t, h => by
    show cA F p t + (if fI F 45 (i + 1) = p then 1 else 0) = cB F k p t.length + (if fI F 59 (300 * k + t.length) = p then 1 else 0)
    rw [cA_cB t h.2, h.1]
theorem cB_le (F : FS) (k : Nat) (p : Int32) : ∀ m, cB F k p m ≤ m
  | 0 => Nat.le_refl _
  | m + 1 => by
    have ih := cB_le F k p m
    show cB F k p m + (if fI F 59 (300 * k + m) = p then 1 else 0) ≤ m + 1
    by_cases e : fI F 59 (300 * k + m) = p
    · rw [if_pos e]; omega
    · rw [if_neg e]; omega
theorem x_kwLoop {G : GX} {F : FS} {n : Nat} {σ : ST} (hO : ORD G F n σ) {h0 : Nat} {p : Int32} {K : Int32 → ST → Prop} : ∀ (l : List Nat) (x : Option Nat) (acc : Nat), chn G σ l x → (∀ j, j ∈ l → j < n) → K (nI (acc + cA F p l)) σ → wb_Office_knownWith_7 h0 K (l.length + 1) σ p (nI acc) x
  | [], x, acc, hc, _, hK => by
    have e : x = none := hc
    subst e
    unfold wb_Office_knownWith_7
    exact ⟨fun _ => hK, fun z => absurd rfl z⟩
  | j :: t, x, acc, hc, hm, hK => by
    obtain ⟨e, hc2⟩ : x = some (G 3 j) ∧ chn G σ t (st_R σ 210 (G 3 j)) := hc
    subst e
    have hO1 := hO.1 j (hm j (List.mem_cons_self ..))
    have ih := fun acc => x_kwLoop hO (h0 := h0) (p := p) (K := K) t (st_R σ 210 (G 3 j)) acc hc2 (fun m hml => hm m (List.mem_cons_of_mem _ hml))
    have eK : cA F p (j :: t) = cA F p t + (if fI F 45 (j + 1) = p then 1 else 0) := rfl
    unfold wb_Office_knownWith_7
    refine ⟨fun z => (by cases z), fun _ => ⟨G 3 j, rfl, hO1.2.1, ?_⟩⟩
    rw [hO1.2.2.2.2.2.2.2.1]
    refine ⟨fun z => ih acc ?_, fun z x ex => ?_⟩
    · rw [eK, if_neg z] at hK
      exact hK
    · rw [ex, nI_1]
      refine ih (acc + 1) ?_
      rw [eK, if_pos z] at hK
      rw [show acc + 1 + cA F p t = acc + (cA F p t + 1) by omega]
      exact hK
def wrF (F : FS) (k i : Nat) : FS := fsI (fsI (fsI F 41 (i + 1) 1) 48 (i + 1) (-1)) 47 (i + 1) (nI k)
def kn1 (F : FS) (k i : Nat) (d : Int64) : FS := fsJ (knF (wrF F k i) k i d) 71 1 (fJ F 71 1 + sumF F (i + 1))
theorem x_writePaid {G : GX} {c : Nat} {F : FS} {σ : ST} (h : RX G c F σ) {n i k : Nat} (hn : n ≤ 300) (hF : fN F 40 = nI n) (hi : i < n) (hk : k < 8) (hp : ¬ fI F 41 (i + 1) = 1) {d : Int64} {L : Nat} (hL : (l0F F k d).toNatClampNeg = L) (hL3 : L < 300) {K : ST → Prop} (h0 : cB (kn1 F k i d) k (fI F 45 (i + 1)) (L + 1) < 3 → ∀ σ', RX G c (kn1 F k i d) σ' → FrX (G 0 9) σ σ' → K σ') (h1 : ¬ cB (kn1 F k i d) k (fI F 45 (i + 1)) (L + 1) < 3 → ∀ σ', RX G c (fsJ (kn1 F k i d) 71 7 (fJ F 71 7 + 1)) σ' → FrX (G 0 9) σ σ' → K σ') : wp_X_writePaid σ (G 6 0) (some (G 1 k)) (some (G 3 i)) d K := by
  unfold wp_X_writePaid
  obtain ⟨-, hO0, -, -⟩ := h.ods hn hF
  refine ⟨G 3 i, rfl, (hO0.1 i hi).2.1, x_becomeP h hn hF hi hp (fun σ5 r5 c5 q5 => ?_)⟩
  obtain ⟨hN5, hO5, hL5, -⟩ := r5.ods (n := n) hn hF
  refine ⟨(hO5.1 i hi).2.1, fun σ7 e7 => ?_⟩
  have r7 : RX G c (wrF F k i) σ7 := by
    obtain ⟨a1, a2, a3, a4, a5, -, a7, a8⟩ := r5
    rw [e7]
    exact ⟨a1, a2, a3, a4, a5, ⟨n, hN5, ORD.out hO5 hi (Or.inr ⟨k, hk, rfl, rfl⟩), hL5.keep rfl rfl, c5.to.keep rfl rfl rfl rfl rfl rfl⟩, a7, a8⟩
  have c7 : CHN1 G (wrF F k i) n σ7 i := by
    rw [e7]
    exact c5.keep rfl rfl rfl rfl rfl rfl
  have q7 : FrX (G 0 9) σ σ7 := q5.tr (by rw [e7]; exact FrX.sR (by decide))
  have s41 : fI (wrF F k i) 41 (i + 1) = 1 := by
    unfold wrF
    rw [i_sI, if_neg (fun z => absurd z.1 (by decide)), i_sI, if_neg (fun z => absurd z.1 (by decide)), i_sI, if_pos ⟨rfl, rfl⟩]
  refine ⟨G 1 k, rfl, (r7.1.2.2.1 k hk).2.1, x_know r7 hn hF hi hk s41 c7 (fun σ14 r14 q14 => ?_)⟩
  obtain ⟨-, hO14, -, -⟩ := r14.ods (n := n) hn hF
  have v1 : vp_in 1 (st_ln σ14 (G 0 9)) := by rw [r14.1.2.1.2.2.2.2.2.2]; exact vp_in_nI (n := 1) (N := 9) (by decide) (by decide)
  refine ⟨r14.1.1.1, G 0 9, r14.1.1.2.2.2.2.2.2, r14.1.2.1.2.2.2.2.2.1, v1, (hO14.1 i hi).2.1, x_sum r14.1 r14.2.2.2.1 (hO14.1 i hi) ⟨r14.1.2.1.2.2.2.2.2.1, v1, fun σ25 e25 => ?_⟩⟩
  have e1 : st_eJ σ14 (G 0 9) (Int32.toNatClampNeg 1) = fJ (knF (wrF F k i) k i d) 71 1 := r14.2.2.2.2.1 1 (by decide)
  rw [e1] at e25
  have r25 : RX G c (kn1 F k i d) σ25 := by
    have e26 : σ25 = st_uJ σ14 (G 0 9) 1 (fJ F 71 1 + sumF F (i + 1)) := e25
    rw [e26]
    exact r14.tot 1 _
  have q25 : FrX (G 0 9) σ σ25 := (q7.tr q14).tr (by rw [e25]; exact FrX.uJ)
  obtain ⟨-, hO25, -, hC25⟩ := r25.ods (n := n) hn hF
  have ht4 := (r25.1.2.2.1 k hk).2.1
  obtain ⟨ch, c1, c2, c3, c4, c5'⟩ := hC25 k hk
  have hcn := cntP_le (kn1 F k i d) n
  have e58 : fI (kn1 F k i d) 58 k = nI (L + 1) := by
    have := (knG_g (wrF F k i) k d (b0F (wrF F k i) k d + sumF (wrF F k i) (i + 1)) (l0F F k d).toNatClampNeg (fI (wrF F k i) 45 (i + 1))).2.2.1
    rw [hL] at this
    unfold kn1 knF
    rw [i_sJ]
    have el : l0F (wrF F k i) k d = l0F F k d := rfl
    rw [el, hL]
    exact this
  have elen : ch.length = L + 1 := (nI_eq (by omega) (by omega)).mp (c2.symm.trans e58)
  have e205 : st_I σ25 205 (G 3 i) = fI F 45 (i + 1) := (hO25.1 i hi).2.2.2.2.2.2.2.1
  refine ⟨(hO25.1 i hi).2.1, ht4, ?_⟩
  rw [e205]
  unfold wp_Office_knownWith
  refine ⟨ht4, ch.length + 1, x_kwLoop hO25 ch _ 0 c1 (fun j hj => (c4 j hj).1) ?_⟩
  rw [cA_cB ch c3, elen, Nat.zero_add]
  have hcb := cB_le (kn1 F k i d) k (fI F 45 (i + 1)) (L + 1)
  have v7 : vp_in 7 (st_ln σ25 (G 0 9)) := by rw [r25.1.2.1.2.2.2.2.2.2]; exact vp_in_nI (n := 7) (N := 9) (by decide) (by decide)
  refine ⟨fun z => h0 ((nI_ltI (b := 3) (by omega) (by decide)).mp z) σ25 r25 q25, fun z => ⟨r25.1.1.1, G 0 9, r25.1.1.2.2.2.2.2.2, r25.1.2.1.2.2.2.2.2.1, v7, v7, fun σ39 e39 => ?_⟩⟩
  have e71 : st_eJ σ25 (G 0 9) (Int32.toNatClampNeg 7) = fJ (kn1 F k i d) 71 7 := r25.2.2.2.2.1 7 (by decide)
  rw [e71] at e39
  have e40 : σ39 = st_uJ σ25 (G 0 9) 7 (fJ F 71 7 + 1) := e39
  refine h1 (fun y => z (nI_lt (b := 3) y (by decide))) σ39 (by rw [e40]; exact r25.tot 7 _) (q25.tr (by rw [e40]; exact FrX.uJ))
