theorem hd_line {S : SA} {k : Nat} (hR : RB S) (hk : k < S.1 1) : ∃ d, d < 8 ∧ qDoc S (nI k) = nI d ∧ qIdx S (nI k) = nI (linesIn S (nI d) k) ∧ S.2.1 2 k = nI d := by
  sorry
theorem hd_hid {S : SA} {k : Nat} (hR : RB S) (hk : k < S.1 1) : qHid S (nI k) = nI (if hidA S k = true then 1 else 0) := by
  sorry
theorem hd_holds {S : SA} {a k : Nat} (hR : RB S) (ha : a < 5) (hk : k < S.1 1) : qHolds S (nI a) (nI k) = nI (if hb S a k = true then 1 else 0) := by
  sorry
theorem hd_holders {S : SA} {k : Nat} (hR : RB S) (hk : k < S.1 1) : qHolders S (nI k) = nI (fb_ct (fun z => hb S z k) 5) := by
  sorry
theorem hd_step {S : SA} {cn : Nat → Int32} {d k : Nat} (h : ∀ j, j < 8 → cn j = nI (linesIn S (nI j) k)) (hd : d < 8) (he : S.2.1 2 k = nI d) : ∀ j, j < 8 → upd cn d (nI (linesIn S (nI d) k + 1)) j = nI (linesIn S (nI j) (k + 1)) := by
  sorry
theorem hd_lines {S : SA} {d : Nat} (hR : RB S) (hd : d < S.1 0) : qLines S (nI d) = nI (linesIn S (nI d) (S.1 1)) := by
  sorry
theorem hd_linesN {S : SA} {d : Nat} (hR : RB S) (hd : ¬ d < S.1 0) (h8 : d < 8) : qLines S (nI d) = (-1) := by
  sorry
theorem hd_out {S : SA} (hR : RB S) : qHid S (nI (S.1 1)) = (-1) := by
  sorry
