/-! about, answer, set -/
def sumF (F : FS) (i : Nat) : Int64 := fJ F 42 i * fJ F 51 (fI F 44 i).toNatClampNeg / 1000
theorem x_placeOf {G : GX} {σ : ST} (hS : SX G σ) {x : Option Nat} {v : Int32} (hl : lnk G x v) {K : Int64 → ST → Prop} (hk : K v.toInt64 σ) : wp_X_placeOf σ x K := by
  unfold wp_X_placeOf
  rcases hl with ⟨rfl, rfl⟩ | ⟨k, hk8, rfl, rfl⟩
  · exact ⟨fun z => absurd rfl z, fun _ => hk⟩
  · exact ⟨fun _ => ⟨G 1 k, rfl, (hS.2.2.1 k hk8).2.1, by rw [(hS.2.2.1 k hk8).2.2]; exact hk⟩, fun z => by cases z⟩
theorem x_sum {G : GX} {F : FS} {σ : ST} (hS : SX G σ) (hC : CUR G F σ) {i : Nat} (h : OR1 G F σ i) {K : Int64 → ST → Prop} (hk : K (sumF F (i + 1)) σ) : wp_Order_sum σ (G 3 i) K := by
  obtain ⟨-, o2, -, -, o5, -, ⟨c, hc, oc, ec⟩, -⟩ := h
  unfold wp_Order_sum
  refine ⟨o2, G 2 c, oc, (hS.2.2.2.1 c hc).2, ?_⟩
  rw [o5, hC c hc]
  unfold sumF at hk
  rw [ec, nI_clamp (by omega)] at hk
  exact hk
theorem m_sumOf {G : GX} {F : FS} {σ : ST} {i : Nat} (hi : i < 300) (h : OR1 G F σ i) {K : Int64 → FS → Prop} (hk : K (sumF F (i + 1)) F) : wf_M_sumOf F (nI (i + 1)) K := by
  obtain ⟨-, -, -, -, -, -, ⟨c, hc, -, ec⟩, -⟩ := h
  have hin : vp_in (nI (i + 1)) 301 := vp_in_nI (by omega) (by decide)
  unfold wf_M_sumOf
  unfold sumF at hk
  rw [nI_clamp (by omega)]
  refine ⟨hin, hin, ?_, hk⟩
  rw [ec]
  exact vp_in_nI hc (by decide)
theorem s_about {G : GX} {c : Nat} {F : FS} {σ : ST} (h : RX G c F σ) (p : Int64) (w : Int32) : SimR G c F σ (fun K => wp_X_about σ (G 6 0) p w K) (fun K => wf_M_about F p w K) := by
  obtain ⟨n, hN, hO, -, -⟩ := h.2.2.2.2.2.1
  have hn := hN.1
  rcases num_or n p with ⟨i, hi, rfl⟩ | hp
  · have hin : vp_in (nI (i + 1)) 301 := vp_in_nI (by omega) (by decide)
    have hne : ¬ nI (i + 1) = 0 := nI_ne0 (by omega) (by omega)
    have hcl : (nI (i + 1)).toNatClampNeg = i + 1 := nI_clamp (by omega)
    have hO1 := hO.1 i hi
    obtain ⟨-, o2, -, ⟨hh, hh8, oh, eh⟩, o5, -, -, -, o9, -, oL, oP⟩ := hO.1 i hi
    have key : ∀ (ans : Int64), (∀ K' : Int64 → FS → Prop, K' ans F → wf_M_about F (lN (nfN (i + 1))) w K') → (∀ K : Int64 → ST → Prop, K ans σ → wp_X_about σ (G 6 0) (lN (nfN (i + 1))) w K) → SimR G c F σ (fun K => wp_X_about σ (G 6 0) (lN (nfN (i + 1))) w K) (fun K => wf_M_about F (lN (nfN (i + 1))) w K) := fun ans a b => sim_same h ans a b
    by_cases w0 : w = 0
    · refine key (fI F 41 (i + 1)).toInt64 (fun K' q => ?_) (fun K q => ?_)
      · unfold wf_M_about
        exact mf_in hn hN.2.1 hi ⟨fun _ => ⟨fun _ => ⟨hin, by rw [hcl]; exact q⟩, fun z => absurd w0 z⟩, fun z => absurd z hne⟩
      · unfold wp_X_about
        exact ⟨h.1.1.1, xf_in h.1 hN hO hi ⟨fun _ => ⟨fun _ => ⟨G 3 i, rfl, o2, by rw [o9]; exact q⟩, fun z => absurd w0 z⟩, fun z => by cases z⟩⟩
    by_cases w1 : w = 1
    · refine key (fJ F 42 (i + 1)) (fun K' q => ?_) (fun K q => ?_)
      · unfold wf_M_about
        exact mf_in hn hN.2.1 hi ⟨fun _ => ⟨fun z => absurd z w0, fun _ => ⟨fun _ => ⟨hin, by rw [hcl]; exact q⟩, fun z => absurd w1 z⟩⟩, fun z => absurd z hne⟩
      · unfold wp_X_about
        exact ⟨h.1.1.1, xf_in h.1 hN hO hi ⟨fun _ => ⟨fun z => absurd z w0, fun _ => ⟨fun _ => ⟨G 3 i, rfl, o2, by rw [o5]; exact q⟩, fun z => absurd w1 z⟩⟩, fun z => by cases z⟩⟩
    by_cases w2 : w = 2
    · refine key (fI F 46 (i + 1)).toInt64 (fun K' q => ?_) (fun K q => ?_)
      · unfold wf_M_about
        exact mf_in hn hN.2.1 hi ⟨fun _ => ⟨fun z => absurd z w0, fun _ => ⟨fun z => absurd z w1, fun _ => ⟨fun _ => ⟨hin, by rw [hcl]; exact q⟩, fun z => absurd w2 z⟩⟩⟩, fun z => absurd z hne⟩
      · unfold wp_X_about
        exact ⟨h.1.1.1, xf_in h.1 hN hO hi ⟨fun _ => ⟨fun z => absurd z w0, fun _ => ⟨fun z => absurd z w1, fun _ => ⟨fun _ => ⟨G 3 i, rfl, o2, G 1 hh, oh, (h.1.2.2.1 hh hh8).2.1, by rw [(h.1.2.2.1 hh hh8).2.2, ← eh]; exact q⟩, fun z => absurd w2 z⟩⟩⟩, fun z => by cases z⟩⟩
    by_cases w3 : w = 3
    · refine key (fI F 47 (i + 1)).toInt64 (fun K' q => ?_) (fun K q => ?_)
      · unfold wf_M_about
        exact mf_in hn hN.2.1 hi ⟨fun _ => ⟨fun z => absurd z w0, fun _ => ⟨fun z => absurd z w1, fun _ => ⟨fun z => absurd z w2, fun _ => ⟨fun _ => ⟨hin, by rw [hcl]; exact q⟩, fun z => absurd w3 z⟩⟩⟩⟩, fun z => absurd z hne⟩
      · unfold wp_X_about
        exact ⟨h.1.1.1, xf_in h.1 hN hO hi ⟨fun _ => ⟨fun z => absurd z w0, fun _ => ⟨fun z => absurd z w1, fun _ => ⟨fun z => absurd z w2, fun _ => ⟨fun _ => ⟨G 3 i, rfl, o2, x_placeOf h.1 oP q⟩, fun z => absurd w3 z⟩⟩⟩⟩, fun z => by cases z⟩⟩
    by_cases w4 : w = 4
    · refine key (fI F 48 (i + 1)).toInt64 (fun K' q => ?_) (fun K q => ?_)
      · unfold wf_M_about
        exact mf_in hn hN.2.1 hi ⟨fun _ => ⟨fun z => absurd z w0, fun _ => ⟨fun z => absurd z w1, fun _ => ⟨fun z => absurd z w2, fun _ => ⟨fun z => absurd z w3, fun _ => ⟨fun _ => ⟨hin, by rw [hcl]; exact q⟩, fun z => absurd w4 z⟩⟩⟩⟩⟩, fun z => absurd z hne⟩
      · unfold wp_X_about
        exact ⟨h.1.1.1, xf_in h.1 hN hO hi ⟨fun _ => ⟨fun z => absurd z w0, fun _ => ⟨fun z => absurd z w1, fun _ => ⟨fun z => absurd z w2, fun _ => ⟨fun z => absurd z w3, fun _ => ⟨fun _ => ⟨G 3 i, rfl, o2, x_placeOf h.1 oL q⟩, fun z => absurd w4 z⟩⟩⟩⟩⟩, fun z => by cases z⟩⟩
    by_cases w5 : w = 5
    · refine key (sumF F (i + 1)) (fun K' q => ?_) (fun K q => ?_)
      · unfold wf_M_about
        exact mf_in hn hN.2.1 hi ⟨fun _ => ⟨fun z => absurd z w0, fun _ => ⟨fun z => absurd z w1, fun _ => ⟨fun z => absurd z w2, fun _ => ⟨fun z => absurd z w3, fun _ => ⟨fun z => absurd z w4, fun _ => ⟨fun _ => m_sumOf (by omega) hO1 q, fun z => absurd w5 z⟩⟩⟩⟩⟩⟩, fun z => absurd z hne⟩
      · unfold wp_X_about
        exact ⟨h.1.1.1, xf_in h.1 hN hO hi ⟨fun _ => ⟨fun z => absurd z w0, fun _ => ⟨fun z => absurd z w1, fun _ => ⟨fun z => absurd z w2, fun _ => ⟨fun z => absurd z w3, fun _ => ⟨fun z => absurd z w4, fun _ => ⟨fun _ => ⟨G 3 i, rfl, o2, x_sum h.1 h.2.2.2.1 hO1 q⟩, fun z => absurd w5 z⟩⟩⟩⟩⟩⟩, fun z => by cases z⟩⟩
    · refine key (-102) (fun K' q => ?_) (fun K q => ?_)
      · unfold wf_M_about
        exact mf_in hn hN.2.1 hi ⟨fun _ => ⟨fun z => absurd z w0, fun _ => ⟨fun z => absurd z w1, fun _ => ⟨fun z => absurd z w2, fun _ => ⟨fun z => absurd z w3, fun _ => ⟨fun z => absurd z w4, fun _ => ⟨fun z => absurd z w5, fun _ => q⟩⟩⟩⟩⟩⟩, fun z => absurd z hne⟩
      · unfold wp_X_about
        exact ⟨h.1.1.1, xf_in h.1 hN hO hi ⟨fun _ => ⟨fun z => absurd z w0, fun _ => ⟨fun z => absurd z w1, fun _ => ⟨fun z => absurd z w2, fun _ => ⟨fun z => absurd z w3, fun _ => ⟨fun z => absurd z w4, fun _ => ⟨fun z => absurd z w5, fun _ => q⟩⟩⟩⟩⟩⟩, fun z => by cases z⟩⟩
  · refine sim_same h (-101) (fun K' q => ?_) (fun K q => ?_)
    · unfold wf_M_about
      exact mf_out hn hN.2.1 hp ⟨fun z => absurd rfl z, fun _ => q⟩
    · unfold wp_X_about
      exact ⟨h.1.1.1, xf_out h.1 hN hO hp ⟨fun z => absurd rfl z, fun _ => q⟩⟩
theorem nI_sub_le {a b t : Nat} (ha : a < 2 ^ 30) (hb : b < 2 ^ 30) (ht : t < 2 ^ 31) : nI a - nI b ≤ nI t ↔ a ≤ t + b := by
  rw [Int32.le_iff_toInt_le, pk_sub_toInt ha hb, nI_toInt ht]
  omega
theorem s_answer {G : GX} {c : Nat} {F : FS} {σ : ST} (hc : c ≤ 513) (h : RX G c F σ) (p : Int32) : SimR G c F σ (fun K => wp_X_answer σ (G 6 0) p K) (fun K => wf_M_answer F p K) := by
  obtain ⟨a, v, e60, e5, e61, e6, hva, hav, hac, hT, -⟩ := h.2.2.2.2.2.2.1
  by_cases hp0 : p < 0
  · refine sim_same h (-1) (fun K' q => ?_) (fun K q => ?_)
    · unfold wf_M_answer
      exact ⟨fun _ => q, fun z => absurd hp0 z⟩
    · unfold wp_X_answer
      exact ⟨fun _ => q, fun z => absurd hp0 z⟩
  · obtain ⟨t, ht, rfl⟩ := nI_of hp0
    have r128 : nI t - nI t / 128 * 128 = nI (t % 128) := pk_rem (a := t) (d := 128) ht (by decide) (by decide)
    have hle : nI a - 100 ≤ nI t ↔ a ≤ t + 100 := nI_sub_le (b := 100) (by omega) (by decide) ht
    have hlt : nI t < nI a - 100 ↔ ¬ a ≤ t + 100 := by rw [← hle]; exact Int32.not_le.symm
    by_cases hta : t < a
    · by_cases hk : a ≤ t + 100
      · obtain ⟨t1, t2, -, -, -, -, t7⟩ := hT t hta hk
        refine sim_same h (if t < v then fI F 66 (t % 128) else -1) (fun K' q => ?_) (fun K q => ?_)
        · unfold wf_M_answer
          rw [e60, e61, r128]
          refine ⟨fun z => absurd z hp0, fun _ => ⟨fun z => ?_, fun z => ⟨fun y => absurd hk (hlt.mp y), fun _ => ⟨vp_in_nI (Nat.mod_lt _ (by decide)) (by decide), ?_⟩⟩⟩⟩
          · rw [if_neg (by have := (nI_leI (a := v) (b := t) (by omega) ht).mp z; omega)] at q
            exact q
          · rw [if_pos (by
              rcases Nat.lt_or_ge t v with y | y
              · exact y
              · exact absurd ((nI_leI (a := v) (b := t) (by omega) ht).mpr y) z)] at q
            rw [nI_clamp (by omega)]
            exact q
        · unfold wp_X_answer
          rw [e5]
          refine ⟨fun z => absurd z hp0, fun _ => ⟨h.1.1.1, ⟨fun z => absurd ((nI_leI (a := a) (b := t) (by omega) ht).mp z) (by omega), fun _ => ⟨fun _ => x_place ht ⟨G 0 4, h.1.1.2.2.2.2.1, h.1.2.1.2.2.2.1.1, ?_, ?_⟩, fun z => absurd (hle.mpr hk) z⟩⟩⟩⟩
          · rw [h.1.2.1.2.2.2.1.2]
            exact vp_in_nI (Nat.mod_lt _ (by decide)) (by decide)
          · rw [nI_clamp (by omega), t1]
            refine ⟨fun _ => ⟨G 4 t, rfl, t2, ?_⟩, fun z => by cases z⟩
            rw [t7]
            exact q
      · refine sim_same h (-1) (fun K' q => ?_) (fun K q => ?_)
        · unfold wf_M_answer
          rw [e60, e61]
          exact ⟨fun z => absurd z hp0, fun _ => ⟨fun _ => q, fun _ => ⟨fun _ => q, fun z => absurd (hlt.mpr hk) z⟩⟩⟩
        · unfold wp_X_answer
          rw [e5]
          exact ⟨fun z => absurd z hp0, fun _ => ⟨h.1.1.1, ⟨fun _ => q, fun _ => ⟨fun z => absurd (hle.mp z) hk, fun _ => q⟩⟩⟩⟩
    · refine sim_same h (-1) (fun K' q => ?_) (fun K q => ?_)
      · unfold wf_M_answer
        rw [e60, e61]
        exact ⟨fun z => absurd z hp0, fun _ => ⟨fun _ => q, fun z => absurd ((nI_leI (a := v) (b := t) (by omega) ht).mpr (by omega)) z⟩⟩
      · unfold wp_X_answer
        rw [e5]
        exact ⟨fun z => absurd z hp0, fun _ => ⟨h.1.1.1, ⟨fun _ => q, fun z => absurd ((nI_leI (a := a) (b := t) (by omega) ht).mpr (by omega)) z⟩⟩⟩
