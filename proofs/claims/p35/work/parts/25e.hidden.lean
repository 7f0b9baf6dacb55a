theorem hd_line {S : SA} {k : Nat} (hR : RB S) (hk : k < S.1 1) : ∃ d, d < 8 ∧ qDoc S (nI k) = nI d ∧ qIdx S (nI k) = nI (linesIn S (nI d) k) ∧ S.2.1 2 k = nI d := by
  have hn := hR.n
  obtain ⟨d, hd, e⟩ := hR.2.2.1.1 k hk
  have h2 := hR.2.2.1.2.1 k hk
  rw [e] at h2
  refine ⟨d, Nat.lt_of_lt_of_le hd hR.1.1, ?_, ?_, e⟩
  · rw [qDoc, cd1_y (by omega) hk, wq0, ix_nI (by omega)]; exact e
  · rw [qIdx, cd1_y (by omega) hk, wq0, ix_nI (by omega)]; exact h2
theorem hd_hid {S : SA} {k : Nat} (hR : RB S) (hk : k < S.1 1) : qHid S (nI k) = nI (if hidA S k = true then 1 else 0) := (q_hid hR hk).trans bI_01
theorem hd_holds {S : SA} {a k : Nat} (hR : RB S) (ha : a < 5) (hk : k < S.1 1) : qHolds S (nI a) (nI k) = nI (if hb S a k = true then 1 else 0) := (q_holds hR ha hk).trans bI_01
theorem hd_holders {S : SA} {k : Nat} (hR : RB S) (hk : k < S.1 1) : qHolders S (nI k) = nI (fb_ct (fun z => hb S z k) 5) := by
  have hn := hR.n
  rw [qHolders, cd1_y (by omega) hk, wq0, ix_nI (by omega)]
theorem hd_step {S : SA} {cn : Nat → Int32} {d k : Nat} (h : ∀ j, j < 8 → cn j = nI (linesIn S (nI j) k)) (hd : d < 8) (he : S.2.1 2 k = nI d) : ∀ j, j < 8 → upd cn d (nI (linesIn S (nI d) k + 1)) j = nI (linesIn S (nI j) (k + 1)) := by
  intro j hj
  have e : linesIn S (nI j) (k + 1) = linesIn S (nI j) k + (if decide (S.2.1 2 k = nI j) = true then 1 else 0) := fb_ct_succ _ _
  rw [e, he]
  by_cases hjd : j = d
  · rw [hjd, pk_us, if_pos (by simp)]
  · rw [pk_un hjd, h j hj, if_neg (by
      rw [decide_eq_true_eq]
      exact fun z => hjd ((nI_eq (by omega) (by omega)).mp z).symm)]
    rfl
theorem hd_lines {S : SA} {d : Nat} (hR : RB S) (hd : d < S.1 0) : qLines S (nI d) = nI (linesIn S (nI d) (S.1 1)) := by
  have h8 := hR.1.1
  rw [qLines, cd1_y (by omega) hd, wq0, ix_nI (by omega)]
  exact hR.2.2.1.2.2.1 d (by omega)
theorem hd_linesN {S : SA} {d : Nat} (hR : RB S) (hd : ¬ d < S.1 0) (h8 : d < 8) : qLines S (nI d) = (-1) := by
  have h9 := hR.1.1
  rw [qLines, cd1_x (by omega) (by omega) hd]; rfl
theorem hd_out {S : SA} (hR : RB S) : qHid S (nI (S.1 1)) = (-1) := by
  have hn := hR.n
  rw [qHid, cd1_x (by omega) (by omega) (Nat.lt_irrefl _)]; rfl
