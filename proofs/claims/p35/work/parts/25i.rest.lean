theorem ln_cases {S : SA} (hR : RB S) {d : Nat} (hd : d < 8) : qLines S (nI d) = nI (linesIn S (nI d) (S.1 1)) ∨ (qLines S (nI d) = (-1) ∧ linesIn S (nI d) (S.1 1) = 0) := by
  by_cases h : d < S.1 0
  · exact Or.inl (hd_lines hR h)
  · refine Or.inr ⟨hd_linesN hR h hd, fb_ct_zero.mpr fun k hk => ?_⟩
    have h8 := hR.1.1
    obtain ⟨d0, h1, e⟩ := hR.2.2.1.1 k hk
    rw [e, decide_eq_false_iff_not]
    exact fun z => h ((nI_eq (by omega) (by omega)).mp z ▸ h1)
theorem ln_one : ∀ d0, d0 < 8 → (if decide (nI d0 = nI 0) = true then 1 else 0) + (if decide (nI d0 = nI 1) = true then 1 else 0) + (if decide (nI d0 = nI 2) = true then 1 else 0) + (if decide (nI d0 = nI 3) = true then 1 else 0) + (if decide (nI d0 = nI 4) = true then 1 else 0) + (if decide (nI d0 = nI 5) = true then 1 else 0) + (if decide (nI d0 = nI 6) = true then 1 else 0) + (if decide (nI d0 = nI 7) = true then 1 else 0) = 1 := by decide +kernel
theorem ln_sumN {S : SA} (hR : RB S) : ∀ m, m ≤ S.1 1 → linesIn S (nI 0) m + linesIn S (nI 1) m + linesIn S (nI 2) m + linesIn S (nI 3) m + linesIn S (nI 4) m + linesIn S (nI 5) m + linesIn S (nI 6) m + linesIn S (nI 7) m = m
  | 0, _ => rfl
  | m + 1, hm => by
    have ih := ln_sumN hR m (by omega)
    obtain ⟨d0, h1, e⟩ := hR.2.2.1.1 m (by omega)
    have h8 := hR.1.1
    have h2 := ln_one d0 (by omega)
    have key : ∀ d, linesIn S (nI d) (m + 1) = linesIn S (nI d) m + (if decide (nI d0 = nI d) = true then 1 else 0) := fun d => by
      unfold linesIn
      rw [fb_ct_succ, e]
    rw [key 0, key 1, key 2, key 3, key 4, key 5, key 6, key 7]
    omega
theorem ln_sum {S : SA} (hR : RB S) : linesIn S (nI 0) (S.1 1) + linesIn S (nI 1) (S.1 1) + linesIn S (nI 2) (S.1 1) + linesIn S (nI 3) (S.1 1) + linesIn S (nI 4) (S.1 1) + linesIn S (nI 5) (S.1 1) + linesIn S (nI 6) (S.1 1) + linesIn S (nI 7) (S.1 1) = S.1 1 := ln_sumN hR (S.1 1) (Nat.le_refl _)
theorem rb0 : RB S0 := by
  refine ⟨⟨by decide, by decide, by decide, by decide, by decide, by decide, by decide, by decide, by decide, fun j hj => absurd hj (Nat.not_lt_zero j), fun a ha => ?_, fun j hj => absurd hj (Nat.not_lt_zero j), fun j hj => absurd hj (Nat.not_lt_zero j)⟩, ⟨fun a _ k h => ?_, by decide +kernel⟩, ⟨fun j hj => absurd hj (Nat.not_lt_zero j), fun j hj => absurd hj (Nat.not_lt_zero j), fun _ _ => rfl, fun j hj => absurd hj (Nat.not_lt_zero j)⟩, fun j hj => absurd hj (Nat.not_lt_zero j), fun a _ => ⟨?_, ?_⟩, ⟨fun j hj => absurd hj (Nat.not_lt_zero j), fun j hj => absurd hj (Nat.not_lt_zero j)⟩, fun _ _ => ⟨0, Nat.zero_le _, rfl⟩, Nat.zero_le _⟩
  · show mk (0 : Int64) < 2 ^ 40
    decide
  · have h2 : (0 : Nat).testBit k = true := h
    rw [Nat.zero_testBit] at h2
    cases h2
  · show mk (0 : Int64) = 0
    decide
  · show mk (0 : Int64) < 2 ^ 0
    decide
def okFd (f : UInt32) : Decidable (okF f) := by
  delta okF okD okTC
  exact inferInstance
def okFb (f : UInt32) : Bool := @decide (okF f) (okFd f)
theorem okFb_of {f : UInt32} (h : okFb f = true) : okF f := @of_decide_eq_true _ (okFd f) h
theorem okF_all0 : ∀ n, n < 21 → ∀ k, k < 21 → 1 ≤ k → k ≤ n → okFb (shareF k n) = true := by decide +kernel
theorem okF_all (n : Nat) (hn : n < 21) (k : Nat) (hk : k < 21) (h1 : 1 ≤ k) (h2 : k ≤ n) : okF (shareF k n) := okFb_of (okF_all0 n hn k hk h1 h2)
theorem sm_n {k : Nat} (h : k < 100000) : smI (nI k) := Or.inl ⟨k, h, rfl⟩
theorem sm_1 : smI (-1) := Or.inr ⟨1, by decide, by decide, by decide⟩
theorem sm_2 : smI (-2) := Or.inr ⟨2, by decide, by decide, by decide⟩
theorem sm_3 : smI (-3) := Or.inr ⟨3, by decide, by decide, by decide⟩
theorem tb_of {S : SA} (hR : RI S) : TB S := by
  have hn := hR.1.n
  have hn2 : S.1 1 < 2 ^ 31 := by omega
  have h5 := hR.1.1.2.2.2.2.2.1
  have h6 := hR.1.1.2.2.2.2.2.2.1
  have h7 := hR.1.1.2.2.2.2.2.2.2.1
  have hF := hR.1.2.2.2.2.2.2
  have hF2 := hF.2
  have hD := hR.1.2.2.1
  refine ⟨sm_n (by omega), sm_n (Nat.lt_of_le_of_lt (fb_ct_le _ _) (by omega)), sm_n (Nat.lt_of_le_of_lt (fb_ct_le _ _) (by omega)), ⟨S.1 9, by omega, rfl⟩, ?_, fun k hk => ⟨?_, ?_, ?_, ?_, ?_⟩, fun k hk => ?_, hR.1.nar⟩
  · have e : qShare S = shareF (fb_ct (fun k => decide (S.2.1 17 k = nI 97)) (S.1 6)) (S.1 6) := by
      have h2 : ¬ S.1 6 = 0 := by have := hR.2.1; omega
      rw [qShare, cdShare, if_neg h2]; rfl
    rw [e]
    have hle := fb_ct_le (fun k => decide (S.2.1 17 k = nI 97)) (S.1 6)
    exact okF_all _ (by omega) _ (by omega) (fb_ct_pos.mpr ⟨0, hR.2.1, decide_eq_true hR.2.2⟩) hle
  · rw [(hc_end hR.1 hk).1]
    exact sm_n (Nat.lt_of_le_of_lt (fb_ct_le _ _) (by omega))
  · obtain ⟨g, hg, e⟩ := (hc_end hR.1 hk).2.1
    rw [e]
    have := fb_ct_le (hb S k) (S.1 1)
    exact sm_n (by omega)
  · obtain ⟨w, hw, e⟩ := hF.1 k hk
    rw [qOwed, cd1_y (by decide) hk, wq0, ix_nI (by omega), e]
    exact sm_n (by omega)
  · rcases ln_cases hR.1 (d := k) (by omega) with e | ⟨e, _⟩
    · rw [e]
      exact sm_n (Nat.lt_of_le_of_lt (fb_ct_le _ _) (by omega))
    · rw [e]; exact sm_1
  · by_cases h : k < S.1 6
    · rw [qState, cd1_y (by omega) h, wq0, ix_nI (by omega)]
      rcases hR.1.2.2.2.2.2.1.1 k h with e | e | e <;> rw [e] <;> exact sm_n (by decide)
    · rw [qState, cd1_x (by omega) (by omega) h]; exact sm_1
  · by_cases h : k < S.1 1
    · obtain ⟨d, hd, e1, e2, e3⟩ := hd_line hR.1 h
      refine ⟨?_, ?_, ?_, ?_, ?_⟩
      · rw [hd_hid hR.1 h]
        split <;> exact sm_n (by decide)
      · rw [hd_holders hR.1 h]
        exact sm_n (Nat.lt_of_le_of_lt (fb_ct_le _ _) (by decide))
      · rw [e1]; exact sm_n (by omega)
      · rw [e2]
        exact sm_n (Nat.lt_of_le_of_lt (fb_ct_le _ _) (by omega))
      · rcases hc_cases hR.1 (a := 0) (by decide) h with ⟨_, _, e, _⟩ | ⟨_, _, e, _⟩ | ⟨_, _, e, _⟩ | ⟨_, _, e, _⟩ | ⟨_, _, e, _⟩ | ⟨_, _, e, _⟩ | ⟨_, _, e, _⟩ | ⟨_, _, e, _⟩ <;> rw [e] <;> first | exact sm_3 | exact sm_n (by decide)
    · refine ⟨?_, ?_, ?_, ?_, ?_⟩
      · rw [qHid, cd1_x hn2 (by omega) h]; exact sm_1
      · rw [qHolders, cd1_x hn2 (by omega) h]; exact sm_1
      · rw [qDoc, cd1_x hn2 (by omega) h]; exact sm_1
      · rw [qIdx, cd1_x hn2 (by omega) h]; exact sm_1
      · rw [qWhy, cdN_x hn2 (by decide) (by omega) h]; exact sm_2
