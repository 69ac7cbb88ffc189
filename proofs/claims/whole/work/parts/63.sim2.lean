/-! one field of one office changes on both sides -/
theorem oneJ {G : GX} {F : FS} {σ : ST} (hS : SX G σ) {f j k : Nat} (hk : k < 8) {v : Int64} (h : ∀ i, i < 8 → st_J σ f (G 1 i) = fJ F j i) : ∀ i, i < 8 → st_J (st_sJ σ f (G 1 k) v) f (G 1 i) = fJ (fsJ F j k v) j i := by
  intro i hi
  rw [g_J_sJ, j_sJ]
  by_cases e : i = k
  · rw [e, if_pos ⟨rfl, rfl⟩, if_pos ⟨rfl, rfl⟩]
  · rw [if_neg (fun q => e (hS.oinj hi hk q.2)), if_neg (fun q => e q.2)]
    exact h i hi
theorem oneI {G : GX} {F : FS} {σ : ST} (hS : SX G σ) {f j k : Nat} (hk : k < 8) {v : Int32} (h : ∀ i, i < 8 → st_I σ f (G 1 i) = fI F j i) : ∀ i, i < 8 → st_I (st_sI σ f (G 1 k) v) f (G 1 i) = fI (fsI F j k v) j i := by
  intro i hi
  rw [g_I_sI, i_sI]
  by_cases e : i = k
  · rw [e, if_pos ⟨rfl, rfl⟩, if_pos ⟨rfl, rfl⟩]
  · rw [if_neg (fun q => e (hS.oinj hi hk q.2)), if_neg (fun q => e q.2)]
    exact h i hi
theorem OFF.c52 {G : GX} {F : FS} {σ : ST} (hS : SX G σ) (h : OFF G F σ) {k : Nat} (hk : k < 8) (v : Int64) : OFF G (fsJ F 52 k v) (st_sJ σ 161 (G 1 k) v) := fun i hi => ⟨oneJ (f := 161) (j := 52) hS hk (fun i hi => (h i hi).1) i hi, (h i hi).2⟩
theorem OFF.c53 {G : GX} {F : FS} {σ : ST} (hS : SX G σ) (h : OFF G F σ) {k : Nat} (hk : k < 8) (v : Int64) : OFF G (fsJ F 53 k v) (st_sJ σ 162 (G 1 k) v) := fun i hi => ⟨(h i hi).1, oneJ (f := 162) (j := 53) hS hk (fun i hi => (h i hi).2.1) i hi, (h i hi).2.2⟩
theorem OFF.c54 {G : GX} {F : FS} {σ : ST} (hS : SX G σ) (h : OFF G F σ) {k : Nat} (hk : k < 8) (v : Int32) : OFF G (fsI F 54 k v) (st_sI σ 163 (G 1 k) v) := fun i hi => ⟨(h i hi).1, (h i hi).2.1, oneI (f := 163) (j := 54) hS hk (fun i hi => (h i hi).2.2.1) i hi, (h i hi).2.2.2⟩
theorem OFF.c55 {G : GX} {F : FS} {σ : ST} (hS : SX G σ) (h : OFF G F σ) {k : Nat} (hk : k < 8) (v : Int32) : OFF G (fsI F 55 k v) (st_sI σ 165 (G 1 k) v) := fun i hi => ⟨(h i hi).1, (h i hi).2.1, (h i hi).2.2.1, oneI (f := 165) (j := 55) hS hk (fun i hi => (h i hi).2.2.2.1) i hi, (h i hi).2.2.2.2⟩
theorem OFR.c53 {F : FS} (h : OFR F) {k : Nat} {v : Int64} (hv : -1 ≤ v) : OFR (fsJ F 53 k v) := fun i hi => ⟨(h i hi).1, by
  rw [j_sJ]
  by_cases e : i = k
  · rw [if_pos ⟨rfl, e⟩]; exact hv
  · rw [if_neg (fun q => e q.2)]; exact (h i hi).2.1, (h i hi).2.2⟩
theorem OFR.c54 {F : FS} (h : OFR F) {k : Nat} {v : Int32} (hv : v = 0 ∨ v = 1) : OFR (fsI F 54 k v) := fun i hi => ⟨by
  rw [i_sI]
  by_cases e : i = k
  · rw [if_pos ⟨rfl, e⟩]; exact hv
  · rw [if_neg (fun q => e q.2)]; exact (h i hi).1, (h i hi).2⟩
theorem OFR.c55 {F : FS} (h : OFR F) {k : Nat} {v : Int32} (hv : ∃ b, b < 64 ∧ v = nI b) : OFR (fsI F 55 k v) := fun i hi => ⟨(h i hi).1, (h i hi).2.1, by
  rw [i_sI]
  by_cases e : i = k
  · rw [if_pos ⟨rfl, e⟩]; exact hv
  · rw [if_neg (fun q => e q.2)]; exact (h i hi).2.2⟩
theorem TOT.c {G : GX} {F : FS} {σ : ST} (h : TOT G F σ) (k : Nat) (v : Int64) : TOT G (fsJ F 71 k v) (st_uJ σ (G 0 9) k v) := by
  intro j hj
  rw [g_eJ_uJ, j_sJ]
  by_cases e : j = k
  · rw [if_pos ⟨rfl, e⟩, if_pos ⟨rfl, e⟩]
  · rw [if_neg (fun q => e q.2), if_neg (fun q => e q.2)]
    exact h j hj
/-! what hangs on rows of the reference, kept where those rows are kept -/
theorem cntL_congr {F F' : FS} (h : fI F' 48 = fI F 48) (k : Nat) : ∀ n, cntL F' k n = cntL F k n
  | 0 => rfl
  | n + 1 => by unfold cntL; rw [cntL_congr h k n, h]
theorem cntP_congr {F F' : FS} (h : fI F' 41 = fI F 41) : ∀ n, cntP F' n = cntP F n
  | 0 => rfl
  | n + 1 => by unfold cntP; rw [cntP_congr h n, h]
theorem prf_congr {F F' : FS} (h : fI F' 59 = fI F 59) (h2 : fI F' 45 = fI F 45) (k : Nat) : ∀ l, prf F k l → prf F' k l
  | [] => fun _ => trivial
  | i :: t => fun q => ⟨by rw [h, h2]; exact q.1, prf_congr h h2 k t q.2⟩
theorem chn_congr {G : GX} {σ σ' : ST} (h : st_R σ' 210 = st_R σ 210) : ∀ l x, chn G σ l x → chn G σ' l x
  | [], _ => fun q => q
  | i :: t, _ => fun q => ⟨q.1, by rw [h]; exact chn_congr h t _ q.2⟩
def ODS (G : GX) (F : FS) (σ : ST) : Prop := ∃ n, NUM G F n σ ∧ ORD G F n σ ∧ LST G F n σ ∧ CHN G F n σ
theorem CHN.keep {G : GX} {F F' : FS} {n : Nat} {σ σ' : ST} (h : CHN G F n σ) (h41 : fI F' 41 = fI F 41) (h45 : fI F' 45 = fI F 45) (h58 : fI F' 58 = fI F 58) (h59 : fI F' 59 = fI F 59) (s168 : st_R σ' 168 = st_R σ 168) (s210 : st_R σ' 210 = st_R σ 210) : CHN G F' n σ' := fun k hk => by
  obtain ⟨ch, c1, c2, c3, c4, c5⟩ := h k hk
  exact ⟨ch, by rw [s168]; exact chn_congr s210 _ _ c1, by rw [h58]; exact c2, prf_congr h59 h45 k _ c3, fun i hi => by rw [h41]; exact c4 i hi, by rw [cntP_congr h41]; exact c5⟩
theorem LST.keep {G : GX} {F F' : FS} {n : Nat} {σ σ' : ST} (h : LST G F n σ) (h48 : fI F' 48 = fI F 48) (s164 : st_I σ' 164 = st_I σ 164) : LST G F' n σ' := fun k hk => by rw [cntL_congr h48, s164]; exact h k hk
theorem ODS.keep {G : GX} {F F' : FS} {σ σ' : ST} (h : ODS G F σ) (hN : ∀ n, NUM G F n σ → NUM G F' n σ') (hO : ∀ n, ORD G F n σ → ORD G F' n σ') (h41 : fI F' 41 = fI F 41) (h45 : fI F' 45 = fI F 45) (h48 : fI F' 48 = fI F 48) (h58 : fI F' 58 = fI F 58) (h59 : fI F' 59 = fI F 59) (s164 : st_I σ' 164 = st_I σ 164) (s168 : st_R σ' 168 = st_R σ 168) (s210 : st_R σ' 210 = st_R σ 210) : ODS G F' σ' := by
  obtain ⟨n, h1, h2, h3, h4⟩ := h
  exact ⟨n, hN n h1, hO n h2, h3.keep h48 s164, h4.keep h41 h45 h58 h59 s168 s210⟩
theorem bit_iff : ∀ b, b < 64 → ∀ s, s < 6 → ((nI b &&& ((1 : Int32) <<< (nI s &&& 31))) = 0 ↔ ¬ ((nI b >>> (nI s &&& 31)) &&& 1) = 1) := by decide +kernel
theorem bit_or : ∀ b, b < 64 → ∀ s, s < 6 → (nI b ||| ((1 : Int32) <<< (nI s &&& 31)) = nI (b ||| 2 ^ s) ∧ b ||| 2 ^ s < 64) := by decide +kernel
theorem s_fails {G : GX} {c : Nat} {F : FS} {σ : ST} (h : RX G c F σ) (p p2 : Int32) : SimR G c F σ (fun K => wp_X_fails σ (G 6 0) p p2 K) (fun K => wf_M_fails F p p2 K) := by
  rcases off_or p with ⟨k, hk, rfl⟩ | hp
  · by_cases hs1 : p2 < (1 : Int32)
    · refine sim_same h (-102) (fun K' q => ?_) (fun K q => ?_)
      · unfold wf_M_fails
        exact mo_in hk ⟨fun z => absurd z (by decide), fun _ => mi_out (Or.inl ((t64_lt (y := 1)).mpr hs1)) ⟨fun z => absurd rfl z, fun _ => q⟩⟩
      · unfold wp_X_fails
        exact ⟨h.1.1.1, xo_in h.1 hk ⟨fun z => (by cases z), fun _ => ⟨fun _ => q, fun z => absurd hs1 z⟩⟩⟩
    · by_cases hs5 : p2 ≤ (5 : Int32)
      · obtain ⟨s, hs, rfl⟩ := nI_of (fun z => hs1 (Int32.lt_trans z (by decide)))
        have hsl : s ≤ 5 := (nI_leI (a := s) (b := 5) hs (by decide)).mp hs5
        obtain ⟨b, hb, eb⟩ := (h.2.2.1 k hk).2.2
        have hfx := (h.2.1 k hk).2.2.2.1
        have hbo := bit_or b hb s (by omega)
        have hbi := bit_iff b hb s (by omega)
        have hin : vp_in (nI k) 8 := vp_in_nI hk (by decide)
        have hR : RX G (c + 1) (fsI F 55 k (nI b ||| ((1 : Int32) <<< (nI s &&& 31)))) (st_sI σ 165 (G 1 k) (nI b ||| ((1 : Int32) <<< (nI s &&& 31)))) := by
          obtain ⟨h1, h2, h3, h4, h5, h6, h7, h8⟩ := h.up
          exact ⟨h1, OFF.c55 h1 h2 hk _, h3.c55 ⟨_, hbo.2, hbo.1⟩, h4, h5, ODS.keep h6 (fun _ q => q) (fun _ q => q) rfl rfl rfl rfl rfl rfl rfl rfl, h7, h8⟩
        refine sim_to (if (nI b &&& ((1 : Int32) <<< (nI s &&& 31))) = 0 then 1 else 0) _ G _ hR (FrX.sI (by decide)) GG.rf (fun K' q => ?_) (fun K q => ?_)
        · unfold wf_M_fails
          refine mo_in hk ⟨fun z => absurd z (by decide), fun _ => mi_in ((t64_le (x := 1)).mpr (Int32.not_lt.mp hs1)) ((t64_le (y := 5)).mpr hs5) ⟨fun _ => ⟨hin, ?_⟩, fun z => absurd z (by decide)⟩⟩
          rw [nI_clamp (by omega), eb]
          refine ⟨fun z => ?_, fun z => ?_⟩
          · rw [if_pos (hbi.mpr z)] at q
            unfold wfb_M_fails_41
            rw [nI_clamp (by omega), eb]
            refine ⟨hin, hin, fun F3 e3 => ?_⟩
            subst e3
            exact ⟨fun _ => q, fun y => absurd rfl y⟩
          · rw [if_neg (fun y => hbi.mp y z)] at q
            unfold wfb_M_fails_41
            rw [nI_clamp (by omega), eb]
            refine ⟨hin, hin, fun F3 e3 => ?_⟩
            subst e3
            exact ⟨fun y => absurd y (by decide), fun _ => q⟩
        · unfold wp_X_fails
          refine ⟨h.1.1.1, xo_in h.1 hk ⟨fun z => (by cases z), fun _ => ⟨fun z => absurd z hs1, fun _ => ⟨fun _ => ⟨G 1 k, rfl, (h.1.2.2.1 k hk).2.1, ?_⟩, fun z => absurd hs5 z⟩⟩⟩⟩
          unfold wp_Office_tellToFail
          intro x ex
          subst ex
          rw [hfx, eb]
          refine ⟨(h.1.2.2.1 k hk).2.1, ⟨fun z => ?_, fun z => ?_⟩⟩
          · intro σ5 e5
            subst e5
            rw [if_neg z] at q
            exact ⟨fun _ => q, fun y => absurd rfl y⟩
          · intro σ5 e5
            subst e5
            rw [if_pos z] at q
            exact ⟨fun y => absurd y (by decide), fun _ => q⟩
      · refine sim_same h (-102) (fun K' q => ?_) (fun K q => ?_)
        · unfold wf_M_fails
          exact mo_in hk ⟨fun z => absurd z (by decide), fun _ => mi_out (Or.inr ((t64_lt (x := 5)).mpr (Int32.not_le.mp hs5))) ⟨fun z => absurd rfl z, fun _ => q⟩⟩
        · unfold wp_X_fails
          exact ⟨h.1.1.1, xo_in h.1 hk ⟨fun z => (by cases z), fun _ => ⟨fun z => absurd z hs1, fun _ => ⟨fun z => absurd z hs5, fun _ => q⟩⟩⟩⟩
  · refine sim_same h (-102) (fun K' q => ?_) (fun K q => ?_)
    · unfold wf_M_fails
      exact mo_out hp ⟨fun _ => q, fun z => absurd rfl z⟩
    · unfold wp_X_fails
      exact ⟨h.1.1.1, xo_out h.1 hp ⟨fun _ => q, fun z => absurd rfl z⟩⟩
