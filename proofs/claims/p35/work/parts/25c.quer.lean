/-! what the queries answer, out of what is kept -/
theorem wq0 {v : Int32} : wq 0 v = v := rfl
theorem inR_no {n j : Nat} (hn : n < 2 ^ 31) (hj : j < 2 ^ 31) (h : ¬ j < n) : inR (nI j) n = false := by
  cases e : inR (nI j) n with
  | false => rfl
  | true =>
    obtain ⟨k, hk, e2⟩ := inR_of hn e
    exact absurd ((nI_eq hj (Nat.lt_trans hk hn)).mp e2 ▸ hk) h
theorem cd1_y {n j : Nat} (hn : n < 2 ^ 31) (h : j < n) : cd1 n (nI j) = 0 := by rw [cd1, if_pos (inR_nI hn h)]
theorem cd1_x {n j : Nat} (hn : n < 2 ^ 31) (hj : j < 2 ^ 31) (h : ¬ j < n) : cd1 n (nI j) = 1 := by rw [cd1, if_neg (by rw [inR_no hn hj h]; decide)]
theorem cdH_y {n a k : Nat} (hn : n < 2 ^ 31) (ha : a < 5) (hk : k < n) : cdHolds n (nI a) (nI k) = 0 := by
  rw [cdHolds, inR_nI (by decide) ha, inR_nI hn hk]; rfl
theorem cdH_x {n a k : Nat} (hn : n < 2 ^ 31) (ha : a < 5) (hk2 : k < 2 ^ 31) (hk : ¬ k < n) : cdHolds n (nI a) (nI k) = 2 := by
  rw [cdHolds, inR_nI (by decide) ha, inR_no hn hk2 hk]; rfl
theorem cdN_x {n a k : Nat} {h : Nat → Nat → Bool} (hn : n < 2 ^ 31) (ha : a < 5) (hk2 : k < 2 ^ 31) (hk : ¬ k < n) : cdNH n h (nI a) (nI k) = 2 := by
  rw [cdNH, inR_nI (by decide) ha, inR_no hn hk2 hk]; rfl
theorem cdN_y {n a k : Nat} {h : Nat → Nat → Bool} (hn : n < 2 ^ 31) (ha : a < 5) (hk : k < n) : cdNH n h (nI a) (nI k) = if h a k = true then 3 else 0 := by
  rw [cdNH, inR_nI (by decide) ha, inR_nI hn hk, ix_nI (by omega), ix_nI (by omega)]; rfl
theorem bI_01 {b : Bool} : bI b = nI (if b = true then 1 else 0) := by cases b <;> rfl
theorem r_m1 : ∀ q, q < 40 → ¬ nI q = -1 := by decide +kernel
theorem RB.n {S : SA} (h : RB S) : S.1 1 ≤ 40 := h.1.2.1
theorem q_hid {S : SA} {k : Nat} (hR : RB S) (hk : k < S.1 1) : qHid S (nI k) = bI (hidA S k) := by
  have hn := hR.n
  rw [qHid, cd1_y (by omega) hk, wq0, ix_nI (by omega)]
theorem q_holds {S : SA} {a k : Nat} (hR : RB S) (ha : a < 5) (hk : k < S.1 1) : qHolds S (nI a) (nI k) = bI (hb S a k) := by
  have hn := hR.n
  rw [qHolds, cdH_y (by omega) ha hk, wq0, ix_nI (by omega), ix_nI (by omega)]
theorem r_mask {S : SA} {a k : Nat} (hR : RB S) (ha : a < 5) (hk : S.1 1 ≤ k) : hb S a k = false := by
  have h1 := (hR.2.2.2.2.1 a ha).2
  exact Nat.testBit_lt_two_pow (Nat.lt_of_lt_of_le h1 (Nat.pow_le_pow_right (by decide) hk))
theorem r_ctn {p : Nat → Bool} {n : Nat} (h : ∀ k, n ≤ k → p k = false) : ∀ m, fb_ct p (n + m) = fb_ct p n
  | 0 => rfl
  | m + 1 => by
    rw [← Nat.add_assoc, fb_ct_succ, r_ctn h m, h (n + m) (by omega)]; rfl
theorem r_ct40 {S : SA} {a : Nat} (hR : RB S) (ha : a < 5) : fb_ct (hb S a) 40 = fb_ct (hb S a) (S.1 1) := by
  have hn := hR.n
  have h := r_ctn (p := hb S a) (n := S.1 1) (fun k hk => r_mask hR ha hk) (40 - S.1 1)
  rw [show S.1 1 + (40 - S.1 1) = 40 by omega] at h
  exact h
/-- who stops a line -/
theorem prot_cases {S : SA} {a k : Nat} : (hidA S k = true ∧ protI S a k = nI k) ∨ (hidA S k = false ∧ protI S a k = -1) ∨ (hidA S k = false ∧ ∃ q, q < S.1 1 ∧ ¬ q = k ∧ hidA S q = true ∧ protI S a k = nI q) := by
  unfold protI
  cases hh : hidA S k with
  | true => exact Or.inl ⟨rfl, if_pos rfl⟩
  | false =>
    rw [if_neg (by decide)]
    refine Or.inr ?_
    cases e : fstB (fun k_1 => (dif (cloA S (mk (S.2.2 0 a) ||| 2 ^ k)) (mk (S.2.2 0 a))).testBit k_1 && hidA S k_1) (S.1 1) with
    | none => exact Or.inl ⟨rfl, fst_n e⟩
    | some q =>
      obtain ⟨h1, h2⟩ := fst_lt e
      have h3 : hidA S q = true := (Bool.and_eq_true _ _ ▸ h2 : _ ∧ _).2
      refine Or.inr ⟨rfl, q, h1, fun z => ?_, h3, ?_⟩
      · rw [z, hh] at h3; cases h3
      · simp only [fstI, e]
