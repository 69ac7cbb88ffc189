/-! pay: the payment is written -/
theorem cntP_inc {F : FS} {i : Nat} (h1 : ¬ fI F 41 (i + 1) = 1) : ∀ n, cntP (fsI F 41 (i + 1) 1) n = cntP F n + (if i < n then 1 else 0)
  | 0 => by rw [if_neg (Nat.not_lt_zero i)]; rfl
  | n + 1 => by
    have ih := cntP_inc h1 n
    show cntP (fsI F 41 (i + 1) 1) n + (if fI (fsI F 41 (i + 1) 1) 41 (n + 1) = 1 then 1 else 0) = cntP F n + (if fI F 41 (n + 1) = 1 then 1 else 0) + (if i < n + 1 then 1 else 0)
    rw [ih]
    by_cases e : i = n
    · subst e
      have g : fI (fsI F 41 (i + 1) 1) 41 (i + 1) = 1 := by rw [i_sI, if_pos ⟨rfl, rfl⟩]
      rw [g, if_pos rfl, if_neg (Nat.lt_irrefl i), if_neg h1, if_pos (Nat.lt_succ_self i)]
    · have g : fI (fsI F 41 (i + 1) 1) 41 (n + 1) = fI F 41 (n + 1) := by rw [i_sI, if_neg (fun z => e (by have := z.2; omega))]
      rw [g]
      by_cases q : i < n
      · rw [if_pos q, if_pos (show i < n + 1 by omega)]; omega
      · rw [if_neg q, if_neg (show ¬ i < n + 1 by omega)]; omega
theorem cntP_le (F : FS) : ∀ n, cntP F n ≤ n
  | 0 => Nat.le_refl _
  | n + 1 => by
    have ih := cntP_le F n
    show cntP F n + (if fI F 41 (n + 1) = 1 then 1 else 0) ≤ n + 1
    by_cases e : fI F 41 (n + 1) = 1
    · rw [if_pos e]; omega
    · rw [if_neg e]; omega
/-- as CHN, with order i paid and in no chain yet -/
def CHN1 (G : GX) (F : FS) (n : Nat) (σ : ST) (i : Nat) : Prop := ∀ k, k < 8 → ∃ ch : List Nat, chn G σ ch (st_R σ 168 (G 1 k)) ∧ fI F 58 k = nI ch.length ∧ prf F k ch ∧ (∀ j, j ∈ ch → j < n ∧ fI F 41 (j + 1) = 1 ∧ ¬ j = i) ∧ ch.length + 1 ≤ cntP F n
theorem CHN.to1 {G : GX} {F : FS} {n : Nat} {σ : ST} (h : CHN G F n σ) {i : Nat} (hi : i < n) (h1 : ¬ fI F 41 (i + 1) = 1) : CHN1 G (fsI F 41 (i + 1) 1) n σ i := fun k hk => by
  obtain ⟨ch, c1, c2, c3, c4, c5⟩ := h k hk
  have hne : ∀ j, j ∈ ch → ¬ j = i := fun j hj e => h1 (by have := (c4 j hj).2; rw [e] at this; exact this)
  refine ⟨ch, c1, c2, prf_st (F := F) (F' := fsI F 41 (i + 1) 1) rfl rfl k _ c3, fun j hj => ⟨(c4 j hj).1, ?_, hne j hj⟩, by rw [cntP_inc h1, if_pos hi]; omega⟩
  rw [i_sI, if_neg (fun q => hne j hj (by omega))]
  exact (c4 j hj).2
theorem CHN1.to {G : GX} {F : FS} {n : Nat} {σ : ST} {i : Nat} (h : CHN1 G F n σ i) : CHN G F n σ := fun k hk => by
  obtain ⟨ch, c1, c2, c3, c4, c5⟩ := h k hk
  exact ⟨ch, c1, c2, c3, fun j hj => ⟨(c4 j hj).1, (c4 j hj).2.1⟩, by omega⟩
theorem CHN1.keep {G : GX} {F F' : FS} {n : Nat} {σ σ' : ST} {i : Nat} (h : CHN1 G F n σ i) (h41 : fI F' 41 = fI F 41) (h45 : fI F' 45 = fI F 45) (h58 : fI F' 58 = fI F 58) (h59 : fI F' 59 = fI F 59) (s168 : st_R σ' 168 = st_R σ 168) (s210 : st_R σ' 210 = st_R σ 210) : CHN1 G F' n σ' i := fun k hk => by
  obtain ⟨ch, c1, c2, c3, c4, c5⟩ := h k hk
  exact ⟨ch, by rw [s168]; exact chn_congr s210 _ _ c1, by rw [h58]; exact c2, prf_congr h59 h45 k _ c3, by rw [h41]; exact c4, by rw [cntP_congr h41]; exact c5⟩
theorem x_leaveList2 {G : GX} {c : Nat} {F : FS} {σ : ST} (h : RX G c F σ) {n i : Nat} (hn : n ≤ 300) (hF : fN F 40 = nI n) (hi : i < n) {K : ST → Prop} (hK : ∀ σ', RX G c (fsI F 48 (i + 1) (-1)) σ' → FrX (G 0 9) σ σ' → st_R σ' 168 = st_R σ 168 → st_R σ' 210 = st_R σ 210 → K σ') : wp_Order_leaveList σ (G 3 i) K := by
  obtain ⟨hN, hO, hL, hC⟩ := h.ods hn hF
  have hO1 := hO.1 i hi
  unfold wp_Order_leaveList
  refine ⟨hO1.2.1, ?_⟩
  rcases hO1.2.2.2.2.2.2.2.2.2.2.1 with ⟨e1, e2⟩ | ⟨k, hk, e1, e2⟩
  · rw [e1]
    refine ⟨fun _ => hK σ ?_ FrX.rf rfl rfl, fun z => absurd rfl z⟩
    rw [fsI_self e2]
    exact h
  · rw [e1]
    refine ⟨fun z => (by cases z), fun _ => ⟨G 1 k, rfl, (h.1.2.2.1 k hk).2.1, ?_⟩⟩
    intro σ6 e6 σ10 e10
    subst e6
    subst e10
    have hm1 : ∀ j, j < 8 → ¬ (-1 : Int32) = nI j := fun j hj q => nI_m1 (by omega) q.symm
    have hcs := cntL_set F (-1) k i n
    rw [if_pos ⟨hi, e2⟩, if_neg (fun q => hm1 k hk q.2)] at hcs
    obtain ⟨h1, h2, h3, h4, h5, -, h7, h8⟩ := h
    refine hK _ ⟨h1, h2, h3, h4, h5, ⟨n, hN, ORD.lis hO hi (Or.inl ⟨rfl, rfl⟩), fun j hj => ?_, hC.keep rfl rfl rfl rfl rfl rfl⟩, h7, h8⟩ ((FrX.sI (by decide)).tr (FrX.sR (by decide))) rfl rfl
    have hcj := cntL_set F (-1) j i n
    rw [if_neg (fun q : i < n ∧ (-1 : Int32) = nI j => hm1 j hj q.2)] at hcj
    show st_I (st_sI σ 164 (G 1 k) (st_I σ 164 (G 1 k) - 1)) 164 (G 1 j) = _ ∧ _
    rw [g_I_sI]
    by_cases e : j = k
    · subst e
      rw [if_pos ⟨rfl, rfl⟩, (hL j hj).1]
      have hb := (hL j hj).2
      refine ⟨?_, by omega⟩
      have := nI_pred (cntL (fsI F 48 (i + 1) (-1)) j n)
      rw [show cntL (fsI F 48 (i + 1) (-1)) j n + 1 = cntL F j n by omega] at this
      exact this
    · have hnk : ¬ (i < n ∧ fI F 48 (i + 1) = nI j) := fun q => e ((nI_eq (by omega) (by omega)).mp (q.2.symm.trans e2))
      rw [if_neg hnk] at hcj
      rw [if_neg (fun q => e (h1.oinj hj hk q.2))]
      have := hL j hj
      rw [show cntL (fsI F 48 (i + 1) (-1)) j n = cntL F j n by omega]
      exact this
theorem x_becomeP {G : GX} {c : Nat} {F : FS} {σ : ST} (h : RX G c F σ) {n i : Nat} (hn : n ≤ 300) (hF : fN F 40 = nI n) (hi : i < n) (hp : ¬ fI F 41 (i + 1) = 1) {K : ST → Prop} (hK : ∀ σ', RX G c (fsI (fsI F 41 (i + 1) 1) 48 (i + 1) (-1)) σ' → CHN1 G (fsI (fsI F 41 (i + 1) 1) 48 (i + 1) (-1)) n σ' i → FrX (G 0 9) σ σ' → K σ') : wp_Order_become σ (G 3 i) 1 K := by
  obtain ⟨hN, hO, hL, hC⟩ := h.ods hn hF
  unfold wp_Order_become
  refine ⟨(hO.1 i hi).2.1, ?_⟩
  intro σ2 e2
  subst e2
  have hC1 : CHN1 G (fsI F 41 (i + 1) 1) n (st_sI σ 206 (G 3 i) 1) i := (hC.to1 hi hp).keep rfl rfl rfl rfl rfl rfl
  obtain ⟨h1, h2, h3, h4, h5, -, h7, h8⟩ := h
  have hR : RX G c (fsI F 41 (i + 1) 1) (st_sI σ 206 (G 3 i) 1) := ⟨h1, h2, h3, h4, h5, ⟨n, hN, hO.sta hi 1, hL.keep rfl rfl, hC1.to⟩, h7, h8⟩
  exact x_leaveList2 hR hn hF hi (fun σ' q1 q2 q3 q4 => hK σ' q1 (hC1.keep rfl rfl rfl rfl q3 q4) ((FrX.sI (by decide)).tr q2))
theorem RX.know {G : GX} {c : Nat} {F F' : FS} {σ σ' : ST} (h : RX G c F σ) {n i k : Nat} (hn : n ≤ 300) (hF : fN F 40 = nI n) (hi : i < n) (hk : k < 8) (hst : fI F 41 (i + 1) = 1) (h1c : CHN1 G F n σ i) {ch : List Nat} {x0 : Option Nat} {d b : Int64} (hch : chn G σ ch x0) (hp : prf F k ch) (hm : ∀ j, j ∈ ch → j < n ∧ fI F 41 (j + 1) = 1 ∧ ¬ j = i) (hc : ch.length + 1 ≤ cntP F n)
    (vT : st_tg σ' = st_tg σ) (vL : st_ln σ' = st_ln σ) (vI : st_I σ' = st_I σ) (vE : st_eR σ' = st_eR σ) (vEJ : st_eJ σ' = st_eJ σ) (vJ : ∀ f, ¬ f = 166 → ¬ f = 167 → st_J σ' f = st_J σ f) (vJo : ∀ a, ¬ a = G 1 k → st_J σ' 166 a = st_J σ 166 a ∧ st_J σ' 167 a = st_J σ 167 a) (v166 : st_J σ' 166 (G 1 k) = d) (v167 : st_J σ' 167 (G 1 k) = b) (vR : ∀ f, ¬ f = 168 → ¬ f = 210 → st_R σ' f = st_R σ f) (v168 : st_R σ' 168 (G 1 k) = some (G 3 i)) (v168o : ∀ a, ¬ a = G 1 k → st_R σ' 168 a = st_R σ 168 a) (v210 : st_R σ' 210 (G 3 i) = x0) (v210o : ∀ a, ¬ a = G 3 i → st_R σ' 210 a = st_R σ 210 a)
    (fNN : fN F' = fN F) (fII : ∀ j, ¬ j = 58 → ¬ j = 59 → fI F' j = fI F j) (f58 : fI F' 58 k = nI (ch.length + 1)) (f58o : ∀ j, ¬ j = k → fI F' 58 j = fI F 58 j) (f59 : fI F' 59 (300 * k + ch.length) = fI F 45 (i + 1)) (f59o : ∀ j, ¬ j = 300 * k + ch.length → fI F' 59 j = fI F 59 j) (fJJ : ∀ j, ¬ j = 56 → ¬ j = 57 → fJ F' j = fJ F j) (f56 : fJ F' 56 k = d) (f57 : fJ F' 57 k = b) (f56o : ∀ j, ¬ j = k → fJ F' 56 j = fJ F 56 j ∧ fJ F' 57 j = fJ F 57 j) : RX G c F' σ' := by
  obtain ⟨hN, hO, hL, -⟩ := h.ods hn hF
  obtain ⟨h1, h2, h3, h4, h5, -, ⟨ta, tv, h7⟩, ⟨cw, h8⟩⟩ := h
  have hcn := cntP_le F n
  refine ⟨?_, fun j hj => ?_, ?_, ?_, ?_, ⟨n, ?_, ?_, hL.keep (fII 48 (by decide) (by decide)) (by rw [vI]), fun j hj => ?_⟩, ⟨ta, tv, ?_⟩, ⟨cw, ?_⟩⟩
  · unfold SX
    rw [vT, vL, vI, vE, vR 0 (by decide) (by decide), vR 1 (by decide) (by decide), vR 2 (by decide) (by decide), vR 4 (by decide) (by decide), vR 7 (by decide) (by decide), vR 9 (by decide) (by decide)]
    exact h1
  · obtain ⟨a1, a2, a3, a4, a5, a6⟩ := h2 j hj
    rw [vJ 161 (by decide) (by decide), vJ 162 (by decide) (by decide), vI, fJJ 52 (by decide) (by decide), fJJ 53 (by decide) (by decide), fII 54 (by decide) (by decide), fII 55 (by decide) (by decide)]
    refine ⟨a1, a2, a3, a4, ?_⟩
    by_cases e : j = k
    · rw [e, v166, v167, f56, f57]; exact ⟨rfl, rfl⟩
    · have e2 : ¬ G 1 j = G 1 k := fun q => e (h1.oinj hj hk q)
      rw [(vJo _ e2).1, (vJo _ e2).2, (f56o j e).1, (f56o j e).2]; exact ⟨a5, a6⟩
  · unfold OFR
    rw [fJJ 53 (by decide) (by decide), fII 54 (by decide) (by decide), fII 55 (by decide) (by decide)]
    exact h3
  · unfold CUR
    rw [vJ 120 (by decide) (by decide), fJJ 51 (by decide) (by decide)]
    exact h4
  · unfold TOT
    rw [vEJ, fJJ 71 (by decide) (by decide)]
    exact h5
  · unfold NUM
    rw [fNN, vI, fII 50 (by decide) (by decide)]
    exact hN
  · unfold ORD OR1
    rw [vE, vT, vI, vR 201 (by decide) (by decide), vR 204 (by decide) (by decide), vR 208 (by decide) (by decide), vR 209 (by decide) (by decide), vJ 202 (by decide) (by decide), vJ 203 (by decide) (by decide), vJ 207 (by decide) (by decide), fII 41 (by decide) (by decide), fII 44 (by decide) (by decide), fII 45 (by decide) (by decide), fII 46 (by decide) (by decide), fII 47 (by decide) (by decide), fII 48 (by decide) (by decide), fII 50 (by decide) (by decide), fJJ 42 (by decide) (by decide), fJJ 43 (by decide) (by decide), fJJ 49 (by decide) (by decide)]
    exact hO
  · have mv : ∀ l : List Nat, (∀ m, m ∈ l → m < n ∧ fI F 41 (m + 1) = 1 ∧ ¬ m = i) → ∀ m, m ∈ l → G 3 m = G 3 m ∧ st_R σ' 210 (G 3 m) = st_R σ 210 (G 3 m) := fun l hl m hml => ⟨rfl, v210o _ (fun q => (hl m hml).2.2 (hO.2 m i (hl m hml).1 hi q))⟩
    have h45 := fII 45 (by decide) (by decide)
    have h41 := fII 41 (by decide) (by decide)
    by_cases e : j = k
    · subst e
      refine ⟨i :: ch, ⟨v168, by rw [v210]; exact chn_move ch x0 (mv ch hm) hch⟩, f58, ⟨by rw [h45]; exact f59, prf_low ch (fun m _ => by rw [h45]) (fun m hml => f59o _ (by omega)) hp⟩, fun m hml => ?_, by rw [cntP_congr h41]; exact hc⟩
      rw [h41]
      rcases List.mem_cons.mp hml with q | q
      · rw [q]; exact ⟨hi, hst⟩
      · exact ⟨(hm m q).1, (hm m q).2.1⟩
    · have e2 : ¬ G 1 j = G 1 k := fun q => e (h1.oinj hj hk q)
      obtain ⟨l, c1, c2, c3, c4, c5⟩ := h1c j hj
      refine ⟨l, by rw [v168o _ e2]; exact chn_move l _ (mv l c4) c1, by rw [f58o j e]; exact c2, prf_low l (fun m _ => by rw [h45]) (fun m hml => f59o _ (by omega)) c3, fun m hml => ?_, by rw [cntP_congr h41]; omega⟩
      rw [h41]
      exact ⟨(c4 m hml).1, (c4 m hml).2.1⟩
  · unfold TRS TR1
    rw [fNN, vI, vT, vE, vJ 241 (by decide) (by decide), vJ 243 (by decide) (by decide), fII 62 (by decide) (by decide), fII 64 (by decide) (by decide), fII 66 (by decide) (by decide), fJJ 63 (by decide) (by decide), fJJ 65 (by decide) (by decide)]
    exact h7
  · unfold COL CO1
    rw [fNN, vI, vT, vE, vR 80 (by decide) (by decide), vJ 81 (by decide) (by decide), fII 68 (by decide) (by decide), fII 70 (by decide) (by decide), fJJ 69 (by decide) (by decide)]
    exact h8
