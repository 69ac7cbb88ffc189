/-! pay: a step that is told to fail -/
theorem fsJ_self {F : FS} {j i : Nat} {v : Int64} (h : fJ F j i = v) : fsJ F j i v = F := by
  obtain ⟨a, b, d⟩ := F
  have e : (fun g x => if g = j ∧ x = i then v else fJ (a, b, d) g x) = d := by
    funext g x
    by_cases z : g = j ∧ x = i
    · rw [if_pos z, z.1, z.2]; exact h.symm
    · rw [if_neg z]; rfl
  show (a, b, (fun g x => if g = j ∧ x = i then v else fJ (a, b, d) g x)) = (a, b, d)
  rw [e]
theorem bit_clr0 : ∀ b, b < 64 → ∀ s, s < 6 → (nI b &&& ((1 : Int32) <<< (nI s &&& 31))) = 0 → nI b &&& (((1 : Int32) <<< (nI s &&& 31)) ^^^ (-1)) = nI b := by decide +kernel
theorem bit_clr1 : ∀ b, b < 64 → ∀ s, s < 6 → ¬ (nI b &&& ((1 : Int32) <<< (nI s &&& 31))) = 0 → nI b &&& (((1 : Int32) <<< (nI s &&& 31)) ^^^ (-1)) = nI (b - 2 ^ s) ∧ nI b - ((1 : Int32) <<< (nI s &&& 31)) = nI (b - 2 ^ s) := by decide +kernel
/-- the failing of a step is told: what is left of the marks -/
abbrev told (F : FS) (k s : Nat) : Prop := ¬ (fI F 55 k &&& ((1 : Int32) <<< (nI s &&& 31))) = 0
def clrF (F : FS) (k s : Nat) : FS := fsI F 55 k (fI F 55 k - ((1 : Int32) <<< (nI s &&& 31)))
theorem m_failsNow {F : FS} (hR : OFR F) {k s : Nat} (hk : k < 8) (hs : s < 6) {K : Int32 → FS → Prop} (h1 : told F k s → K 1 (fsJ (clrF F k s) 71 6 (fJ F 71 6 + 1))) (h0 : ¬ told F k s → K 0 F) : wf_M_failsNow F (nI k) (nI s) K := by
  obtain ⟨b, hb, eb⟩ := (hR k hk).2.2
  have hbi := bit_iff b hb s hs
  have hin : vp_in (nI k) 8 := vp_in_nI hk (by decide)
  have h6 : vp_in 6 9 := vp_in_nI (n := 6) (N := 9) (by decide) (by decide)
  have hcl : (nI k).toNatClampNeg = k := nI_clamp (by omega)
  unfold wf_M_failsNow
  rw [hcl]
  refine ⟨hin, ⟨fun z => ?_, fun z => ?_⟩⟩
  · rw [eb] at z
    unfold wfb_M_failsNow_19
    rw [hcl]
    refine ⟨hin, ⟨fun _ => ?_, fun y => absurd rfl y⟩⟩
    unfold wfb_M_failsNow_38
    rw [hcl]
    refine ⟨hin, fun F1 e1 => ⟨h6, ⟨fun _ => ⟨h6, fun F3 e3 => ⟨Or.inl rfl, ?_⟩⟩, fun y => absurd rfl y⟩⟩⟩
    have e4 : fI F 55 k - 0 = fI F 55 k := by rw [Int32.sub_zero]
    rw [e4, fsI_self rfl] at e1
    rw [e1, Int64.add_zero] at e3
    have e5 : F3 = F := by rw [e3]; exact fsJ_self rfl
    rw [e5]
    exact h0 (fun y => y (by rw [eb]; exact hbi.mpr z))
  · rw [eb] at z
    unfold wfb_M_failsNow_19
    rw [hcl]
    refine ⟨hin, ⟨fun y => absurd y (by decide), fun _ => ?_⟩⟩
    unfold wfb_M_failsNow_38
    rw [hcl]
    refine ⟨hin, fun F1 e1 => ⟨h6, ⟨fun y => absurd y (by decide), fun _ => ⟨h6, fun F3 e3 => ⟨Or.inr rfl, ?_⟩⟩⟩⟩⟩
    have e6 : fJ F1 71 (Int32.toNatClampNeg 6) = fJ F 71 6 := by rw [e1, j_sI]; rfl
    rw [e6, e1] at e3
    rw [e3]
    exact h1 (fun y => hbi.mp (by rw [← eb]; exact y) z)
theorem RX.clr {G : GX} {c : Nat} {F : FS} {σ : ST} (h : RX G c F σ) {k s : Nat} (hk : k < 8) (hs : s < 6) (ht : told F k s) : RX G c (clrF F k s) (st_sI σ 165 (G 1 k) (fI F 55 k - ((1 : Int32) <<< (nI s &&& 31)))) := by
  obtain ⟨b, hb, eb⟩ := (h.2.2.1 k hk).2.2
  have hc1 := bit_clr1 b hb s hs (by rw [← eb]; exact ht)
  obtain ⟨h1, h2, h3, h4, h5, h6, h7, h8⟩ := h
  exact ⟨h1, OFF.c55 h1 h2 hk _, h3.c55 ⟨b - 2 ^ s, Nat.lt_of_le_of_lt (Nat.sub_le _ _) hb, by rw [eb]; exact hc1.2⟩, h4, h5, ODS.keep h6 (fun _ q => q) (fun _ q => q) rfl rfl rfl rfl rfl rfl rfl rfl, h7, h8⟩
theorem x_takesFailing {G : GX} {c : Nat} {F : FS} {σ : ST} (h : RX G c F σ) {k s : Nat} (hk : k < 8) (hs : s < 6) {K : Int32 → ST → Prop} (h1 : told F k s → ∀ σ', RX G c (clrF F k s) σ' → FrX (G 0 9) σ σ' → K 1 σ') (h0 : ¬ told F k s → ∀ σ', RX G c F σ' → FrX (G 0 9) σ σ' → K 0 σ') : wp_Office_takesFailing σ (G 1 k) (nI s) K := by
  obtain ⟨b, hb, eb⟩ := (h.2.2.1 k hk).2.2
  have hx := (h.2.1 k hk).2.2.2.1
  unfold wp_Office_takesFailing
  intro x ex
  rw [ex, hx]
  refine ⟨(h.1.2.2.1 k hk).2.1, ⟨fun z σ5 e5 => ?_, fun z σ8 e8 => ?_⟩⟩
  · refine h0 (fun y => y z) σ5 ?_ (by rw [e5]; exact FrX.sI (by decide))
    have e9 : fI F 55 k &&& (((1 : Int32) <<< (nI s &&& 31)) ^^^ (-1)) = fI F 55 k := by rw [eb]; exact bit_clr0 b hb s hs (by rw [← eb]; exact z)
    rw [e9] at e5
    obtain ⟨h1, h2, h3, h4, h5, h6, h7, h8⟩ := h
    have hO := OFF.c55 h1 h2 hk (fI F 55 k)
    rw [fsI_self rfl] at hO
    rw [e5]
    exact ⟨h1, hO, h3, h4, h5, ODS.keep h6 (fun _ q => q) (fun _ q => q) rfl rfl rfl rfl rfl rfl rfl rfl, h7, h8⟩
  · refine h1 z σ8 ?_ (by rw [e8]; exact FrX.sI (by decide))
    have hc1 := bit_clr1 b hb s hs (by rw [← eb]; exact z)
    have e9 : fI F 55 k &&& (((1 : Int32) <<< (nI s &&& 31)) ^^^ (-1)) = fI F 55 k - ((1 : Int32) <<< (nI s &&& 31)) := by rw [eb, hc1.1, hc1.2]
    rw [e9] at e8
    rw [e8]
    exact h.clr hk hs z
