/-! one order changes -/
theorem fsI_self {F : FS} {j i : Nat} {v : Int32} (h : fI F j i = v) : fsI F j i v = F := by
  obtain ⟨a, b, d⟩ := F
  have e : (fun g x => if g = j ∧ x = i then v else fI (a, b, d) g x) = b := by
    funext g x
    by_cases z : g = j ∧ x = i
    · rw [if_pos z, z.1, z.2]; exact h.symm
    · rw [if_neg z]; rfl
  show (a, (fun g x => if g = j ∧ x = i then v else fI (a, b, d) g x), d) = (a, b, d)
  rw [e]
theorem RX.ods {G : GX} {c : Nat} {F : FS} {σ : ST} (h : RX G c F σ) {n : Nat} (hn : n ≤ 300) (hF : fN F 40 = nI n) : NUM G F n σ ∧ ORD G F n σ ∧ LST G F n σ ∧ CHN G F n σ := by
  obtain ⟨m, h1, h2⟩ := h.2.2.2.2.2.1
  have e : m = n := (nI_eq (by have := h1.1; omega) (by omega)).mp (h1.2.1.symm.trans hF)
  subst e
  exact ⟨h1, h2⟩
theorem cntL_set (F : FS) (v : Int32) (k i : Nat) : ∀ n, cntL (fsI F 48 (i + 1) v) k n + (if i < n ∧ fI F 48 (i + 1) = nI k then 1 else 0) = cntL F k n + (if i < n ∧ v = nI k then 1 else 0)
  | 0 => by simp [cntL]
  | n + 1 => by
    have ih := cntL_set F v k i n
    unfold cntL
    rw [i_sI]
    by_cases e : n = i
    · subst e
      have a1 : ¬ (n < n ∧ fI F 48 (n + 1) = nI k) := fun q => absurd q.1 (Nat.lt_irrefl n)
      have a2 : ¬ (n < n ∧ v = nI k) := fun q => absurd q.1 (Nat.lt_irrefl n)
      rw [if_neg a1, if_neg a2] at ih
      rw [if_pos (⟨rfl, rfl⟩ : (48 : Nat) = 48 ∧ n + 1 = n + 1)]
      have a3 : n < n + 1 := Nat.lt_succ_self n
      simp only [a3, true_and]
      omega
    · rw [if_neg (fun q : (48 : Nat) = 48 ∧ n + 1 = i + 1 => e (by omega))]
      have a3 : (i < n + 1) = (i < n) := propext ⟨fun q => by omega, fun q => by omega⟩
      simp only [a3]
      omega
theorem cntP_set {F : FS} {v : Int32} {i : Nat} (h1 : ¬ fI F 41 (i + 1) = 1) (h2 : ¬ v = 1) : ∀ n, cntP (fsI F 41 (i + 1) v) n = cntP F n
  | 0 => rfl
  | n + 1 => by
    unfold cntP
    rw [cntP_set h1 h2 n, i_sI]
    by_cases e : n = i
    · subst e
      rw [if_pos (⟨rfl, rfl⟩ : (41 : Nat) = 41 ∧ n + 1 = n + 1), if_neg h2, if_neg h1]
    · rw [if_neg (fun q : (41 : Nat) = 41 ∧ n + 1 = i + 1 => e (by omega))]
theorem prf_st {F F' : FS} (h : fI F' 59 = fI F 59) (h2 : fI F' 45 = fI F 45) (k : Nat) : ∀ l, prf F k l → prf F' k l := prf_congr h h2 k
theorem CHN.sta {G : GX} {F : FS} {n : Nat} {σ : ST} (h : CHN G F n σ) {i : Nat} {v : Int32} (h1 : ¬ fI F 41 (i + 1) = 1) (h2 : ¬ v = 1) : CHN G (fsI F 41 (i + 1) v) n σ := fun k hk => by
  obtain ⟨ch, c1, c2, c3, c4, c5⟩ := h k hk
  refine ⟨ch, c1, c2, prf_st (F := F) (F' := fsI F 41 (i + 1) v) rfl rfl k _ c3, fun j hj => ⟨(c4 j hj).1, ?_⟩, by rw [cntP_set h1 h2]; exact c5⟩
  rw [i_sI, if_neg (fun q => h1 (by have := (c4 j hj).2; rw [q.2] at this; exact this))]
  exact (c4 j hj).2
theorem ORD.lis {G : GX} {F : FS} {n : Nat} {σ : ST} (h : ORD G F n σ) {i : Nat} (hi : i < n) {x : Option Nat} {v : Int32} (hl : lnk G x v) : ORD G (fsI F 48 (i + 1) v) n (st_sR σ 208 (G 3 i) x) := by
  refine ⟨fun j hj => ?_, h.2⟩
  obtain ⟨o1, o2, o3, o4, o5, o6, o7, o8, o9, o10, o11, o12⟩ := h.1 j hj
  refine ⟨o1, o2, o3, o4, o5, o6, o7, o8, o9, o10, ?_, o12⟩
  rw [g_R_sR, i_sI]
  by_cases e : j = i
  · rw [e, if_pos ⟨rfl, rfl⟩, if_pos ⟨rfl, rfl⟩]; exact hl
  · rw [if_neg (fun q => e (h.2 j i hj hi q.2)), if_neg (fun q => e (by omega))]; exact o11
theorem ORD.sta {G : GX} {F : FS} {n : Nat} {σ : ST} (h : ORD G F n σ) {i : Nat} (hi : i < n) (v : Int32) : ORD G (fsI F 41 (i + 1) v) n (st_sI σ 206 (G 3 i) v) := by
  refine ⟨fun j hj => ?_, h.2⟩
  obtain ⟨o1, o2, o3, o4, o5, o6, o7, o8, o9, o10, o11, o12⟩ := h.1 j hj
  refine ⟨o1, o2, o3, o4, o5, o6, o7, o8, ?_, o10, o11, o12⟩
  rw [g_I_sI, i_sI]
  by_cases e : j = i
  · rw [e, if_pos ⟨rfl, rfl⟩, if_pos ⟨rfl, rfl⟩]
  · rw [if_neg (fun q => e (h.2 j i hj hi q.2)), if_neg (fun q => e (by omega))]; exact o9
theorem ORD.out {G : GX} {F : FS} {n : Nat} {σ : ST} (h : ORD G F n σ) {i : Nat} (hi : i < n) {x : Option Nat} {v : Int32} (hl : lnk G x v) : ORD G (fsI F 47 (i + 1) v) n (st_sR σ 209 (G 3 i) x) := by
  refine ⟨fun j hj => ?_, h.2⟩
  obtain ⟨o1, o2, o3, o4, o5, o6, o7, o8, o9, o10, o11, o12⟩ := h.1 j hj
  refine ⟨o1, o2, o3, o4, o5, o6, o7, o8, o9, o10, o11, ?_⟩
  rw [g_R_sR, i_sI]
  by_cases e : j = i
  · rw [e, if_pos ⟨rfl, rfl⟩, if_pos ⟨rfl, rfl⟩]; exact hl
  · rw [if_neg (fun q => e (h.2 j i hj hi q.2)), if_neg (fun q => e (by omega))]; exact o12
theorem ORD.bar {G : GX} {F : FS} {n : Nat} {σ : ST} (h : ORD G F n σ) {i : Nat} (hi : i < n) (v : Int64) : ORD G (fsI (fsJ F 49 (i + 1) v) 50 (i + 1) 1) n (st_sJ σ 207 (G 3 i) v) := by
  refine ⟨fun j hj => ?_, h.2⟩
  obtain ⟨o1, o2, o3, o4, o5, o6, o7, o8, o9, o10, o11, o12⟩ := h.1 j hj
  refine ⟨o1, o2, o3, o4, o5, o6, o7, o8, o9, ?_, o11, o12⟩
  rw [g_J_sJ, i_sI, j_sI, j_sJ, i_sJ]
  by_cases e : j = i
  · rw [e, if_pos ⟨rfl, rfl⟩, if_pos (⟨rfl, rfl⟩ : (50 : Nat) = 50 ∧ i + 1 = i + 1), if_neg (by decide : ¬ (1 : Int32) = 0), if_pos ⟨rfl, rfl⟩]
  · have e2 : ¬ ((50 : Nat) = 50 ∧ j + 1 = i + 1) := fun q => e (by omega)
    have e3 : ¬ ((49 : Nat) = 49 ∧ j + 1 = i + 1) := fun q => e (by omega)
    rw [if_neg (fun q => e (h.2 j i hj hi q.2)), if_neg e2, if_neg e3]; exact o10
/-- an order leaves its list -/
theorem x_leaveList {G : GX} {c : Nat} {F : FS} {σ : ST} (h : RX G c F σ) {n i : Nat} (hn : n ≤ 300) (hF : fN F 40 = nI n) (hi : i < n) {K : ST → Prop} (hK : ∀ σ', RX G c (fsI F 48 (i + 1) (-1)) σ' → FrX (G 0 9) σ σ' → K σ') : wp_Order_leaveList σ (G 3 i) K := by
  obtain ⟨hN, hO, hL, hC⟩ := h.ods hn hF
  have hO1 := hO.1 i hi
  unfold wp_Order_leaveList
  refine ⟨hO1.2.1, ?_⟩
  rcases hO1.2.2.2.2.2.2.2.2.2.2.1 with ⟨e1, e2⟩ | ⟨k, hk, e1, e2⟩
  · rw [e1]
    refine ⟨fun _ => hK σ ?_ FrX.rf, fun z => absurd rfl z⟩
    rw [fsI_self e2]
    exact h
  · rw [e1]
    refine ⟨fun z => (by cases z), fun _ => ⟨G 1 k, rfl, (h.1.2.2.1 k hk).2.1, ?_⟩⟩
    intro σ6 e6 σ10 e10
    subst e6
    subst e10
    have hm1 : ∀ j, j < 8 → ¬ (-1 : Int32) = nI j := fun j hj q => by
      have := congrArg Int32.toInt q
      rw [nI_toInt (by omega)] at this
      have e9 : (-1 : Int32).toInt = -1 := by decide
      omega
    have hcs := cntL_set F (-1) k i n
    rw [if_pos ⟨hi, e2⟩, if_neg (fun q => hm1 k hk q.2)] at hcs
    obtain ⟨h1, h2, h3, h4, h5, -, h7, h8⟩ := h
    refine hK _ ⟨h1, h2, h3, h4, h5, ⟨n, hN, ORD.lis hO hi (Or.inl ⟨rfl, rfl⟩), fun j hj => ?_, hC.keep rfl rfl rfl rfl rfl rfl⟩, h7, h8⟩ ((FrX.sI (by decide)).tr (FrX.sR (by decide)))
    have hcj := cntL_set F (-1) j i n
    rw [if_neg (fun q : i < n ∧ (-1 : Int32) = nI j => hm1 j hj q.2)] at hcj
    show st_I (st_sI σ 164 (G 1 k) (st_I σ 164 (G 1 k) - 1)) 164 (G 1 j) = _ ∧ _
    rw [g_I_sI]
    by_cases e : j = k
    · subst e
      rw [if_pos ⟨rfl, rfl⟩, (hL j hj).1]
      have hb := (hL j hj).2
      refine ⟨?_, by omega⟩
      have := nI_pred (cntL (fsI F 48 (i + 1) (-1)) j n)
      rw [show cntL (fsI F 48 (i + 1) (-1)) j n + 1 = cntL F j n by omega] at this
      exact this
    · have hnk : ¬ (i < n ∧ fI F 48 (i + 1) = nI j) := fun q => e ((nI_eq (by omega) (by omega)).mp (q.2.symm.trans e2))
      rw [if_neg hnk] at hcj
      rw [if_neg (fun q => e (h1.oinj hj hk q.2))]
      have := hL j hj
      rw [show cntL (fsI F 48 (i + 1) (-1)) j n = cntL F j n by omega]
      exact this
/-- an order's state changes, not from and not to paid -/
theorem x_become {G : GX} {c : Nat} {F : FS} {σ : ST} (h : RX G c F σ) {n i : Nat} (hn : n ≤ 300) (hF : fN F 40 = nI n) (hi : i < n) {v : Int32} (hp : ¬ fI F 41 (i + 1) = 1) (hv : ¬ v = 1) {K : ST → Prop} (hK : ∀ σ', RX G c (fsI (fsI F 41 (i + 1) v) 48 (i + 1) (-1)) σ' → FrX (G 0 9) σ σ' → K σ') : wp_Order_become σ (G 3 i) v K := by
  obtain ⟨hN, hO, hL, hC⟩ := h.ods hn hF
  unfold wp_Order_become
  refine ⟨(hO.1 i hi).2.1, ?_⟩
  intro σ2 e2
  subst e2
  obtain ⟨h1, h2, h3, h4, h5, -, h7, h8⟩ := h
  have hR : RX G c (fsI F 41 (i + 1) v) (st_sI σ 206 (G 3 i) v) := ⟨h1, h2, h3, h4, h5, ⟨n, hN, hO.sta hi v, hL.keep rfl rfl, (hC.sta hp hv).keep rfl rfl rfl rfl rfl rfl⟩, h7, h8⟩
  exact x_leaveList hR hn hF hi (fun σ' q1 q2 => hK σ' q1 ((FrX.sI (by decide)).tr q2))
