theorem cloA_eq {S : SA} {M : SM} (hR : Rel S M) (x : Nat) : cloA S x = cloM M x := by
  unfold cloA cloM cloP
  rw [hR.2.2.1.1.2.2.2.2.1]
  exact clo_cong fun j hj => ⟨(hR.2.2.2.2.1 j hj).2.1, (hR.2.2.2.2.1 j hj).2.2⟩
theorem fstB_cong {p q : Nat → Bool} : ∀ {n : Nat}, (∀ k, k < n → p k = q k) → fstB p n = fstB q n
  | 0, _ => rfl
  | n + 1, h => by
    have h1 := fstB_cong (n := n) (fun k hk => h k (Nat.lt_succ_of_lt hk))
    unfold fstB
    rw [h1, h n (Nat.lt_succ_self n)]
theorem fstI_cong {p q : Nat → Bool} {n : Nat} (h : ∀ k, k < n → p k = q k) : fstI p n = fstI q n := by
  unfold fstI
  rw [fstB_cong h]
theorem dif_bit {a b k : Nat} : (dif a b).testBit k = (a.testBit k && !b.testBit k) := by
  unfold dif
  rw [Nat.testBit_xor, Nat.testBit_and]
  cases a.testBit k <;> cases b.testBit k <;> rfl
theorem prot_eq {S : SA} {M : SM} (hR : Rel S M) {a k : Nat} (hk : k < S.1 1) : protI S a k = cauI M (mk (S.2.2 0 a)) k := by
  unfold protI cauI
  rw [hid_eq hR hk]
  split
  · rfl
  · unfold betI
    rw [hR.2.2.1.1.2.1]
    refine fstI_cong fun q hq => ?_
    rw [dif_bit, cloA_eq hR]
    unfold bpM
    rw [hid_eq hR hq]
theorem bet_cases {S : SA} {M : SM} (hR : Rel S M) {x k : Nat} : betI M x k = -1 ∨ ∃ q, q < S.1 1 ∧ hidA S q = true ∧ betI M x k = nI q := by
  unfold betI fstI
  split
  · rename_i q hq
    have h := fst_lt hq
    rw [hR.2.2.1.1.2.1] at h
    refine Or.inr ⟨q, h.1, ?_, rfl⟩
    have h2 := h.2
    unfold bpM at h2
    rw [hid_eq hR h.1] at h2
    cases hh : hidA S q
    · rw [hh] at h2; simp at h2
    · rfl
  · exact Or.inl rfl
theorem nI_m1 {q : Nat} (h : q < 40) : ¬ nI q = -1 := by
  intro h1
  have h2 : (nI q).toInt = ((-1 : Int32)).toInt := by rw [h1]
  rw [nI_toInt (by omega)] at h2
  have h3 : ((-1 : Int32)).toInt = -1 := by decide
  omega
theorem nI_ge40 {q : Nat} (h : q < 40) : (0 : Int32) ≤ nI q := by
  rw [← nI_0, nI_leI (by decide) (by omega)]
  exact Nat.zero_le q
theorem m1_ge : ¬ (0 : Int32) ≤ -1 := by decide
theorem why_eq {S : SA} {M : SM} (hR : Rel S M) {a k : Nat} (hk : k < S.1 1) : whyC S a k = firM M (mk (S.2.2 0 a)) k := by
  have i1 : S.1 1 ≤ 40 := hR.1.2.1
  unfold whyC firM
  rw [prot_eq hR hk, hidR_eq hR, hidS_eq hR hk]
  unfold cauI
  rw [hid_eq hR hk]
  cases hh : hidA S k
  · have h3 : hRA S k = false ∧ hSA S k = false := by simpa [hidA] using hh
    rw [h3.1, h3.2]
    simp only [Bool.false_eq_true, if_false]
    rcases bet_cases hR (x := mk (S.2.2 0 a)) (k := k) with h4 | ⟨q, hq, hhq, h4⟩
    · rw [h4, if_pos rfl, if_neg m1_ge]
    · rw [h4, if_neg (nI_m1 (by omega)), if_pos (nI_ge40 (by omega)), if_neg]
      intro h5
      have h6 := nI_i (by omega) (by omega) h5
      rw [h6, hh] at hhq
      cases hhq
  · rw [if_pos rfl, if_neg (nI_m1 (by omega)), if_pos rfl]
    cases hr : hRA S k
    · have h3 : hSA S k = true := by simpa [hidA, hr] using hh
      simp [h3]
    · simp
theorem fir_45 {S : SA} {M : SM} (hR : Rel S M) {a k : Nat} (hk : k < S.1 1) : firM M (mk (S.2.2 0 a)) k = nI 45 ↔ protI S a k = -1 := by
  have i1 : S.1 1 ≤ 40 := hR.1.2.1
  rw [← why_eq hR hk]
  unfold whyC
  constructor
  · intro h
    by_cases h1 : protI S a k = -1
    · exact h1
    · rw [if_neg h1] at h
      exfalso
      repeat' split at h
      all_goals exact absurd h (by decide)
  · intro h
    rw [if_pos h]
theorem cdRoot_le {S : SA} {a x : Int32} : cdRoot S a x ≤ 9 := by
  unfold cdRoot
  have h := cdNH_le (nl := S.1 1) (h := hb S) (a := a) (x := x)
  split
  · split <;> omega
  · exact h
theorem prot_ix2 {S : SA} (hI : IA S) {a k : Nat} (hk : k < S.1 1) (h : ¬ protI S a k = -1) : ix (protI S a k) < S.1 1 := prot_ix hI.2.1 hk h
theorem fir_106 {S : SA} {M : SM} (hR : Rel S M) {a k : Nat} (hk : k < S.1 1) (hp : ¬ protI S a k = -1) : firM M (mk (S.2.2 0 a)) k = nI 106 ↔ ¬ protI S a k = nI k := by
  rw [← why_eq hR hk]
  unfold whyC
  rw [if_neg hp]
  constructor
  · intro h h1
    rw [if_pos h1] at h
    split at h <;> exact absurd h (by decide)
  · intro h
    rw [if_neg h]
theorem caus_eq {S : SA} {M : SM} (hR : Rel S M) {a k : Nat} (hk : k < S.1 1) : causesI S a k = causesM M (mk (S.2.2 0 a)) k := by
  unfold causesI causesM
  by_cases hp : protI S a k = -1
  · rw [if_pos hp, if_pos ((fir_45 hR hk).mpr hp)]
  · have hix := prot_ix2 hR.1 hk hp
    rw [if_neg hp, if_neg (fun h => hp ((fir_45 hR hk).mp h)), ← prot_eq hR hk, hidR_eq hR, hidS_eq hR hix, ← nI_add, ← nI_add]
    have h6 := fir_106 hR hk hp
    by_cases hq : protI S a k = nI k
    · rw [if_pos hq, if_neg (fun h => h6.mp h hq)]
      cases hRA S (ix (protI S a k)) <;> cases hSA S (ix (protI S a k)) <;> decide
    · rw [if_neg hq, if_pos (h6.mpr hq)]
      cases hRA S (ix (protI S a k)) <;> cases hSA S (ix (protI S a k)) <;> decide
theorem op_why : Op_why := by
  intro S M fo u1 u2 a x r1 r2 hR h1 h2
  obtain ⟨hI, hJ, ⟨⟨d1, d2, d3, d4, d5, d6, d7, d8, d9⟩, ⟨e0, e1, e2, e3, e4, e5, e6, e7, e8, e17⟩, ⟨f12, f13, f20, f14, f15⟩⟩, hT, hJn, hH, hQ⟩ := id hR
  obtain ⟨i0, i1, i2, i3, i4, i5, i6, i7, i8, iJ, iH, iG, iQ⟩ := id hI
  have h2' : ∃ q : Nat, q = cdNH (M.1 2) (fun j k => ((fun a => mk (S.2.2 0 a)) j).testBit k) a x ∧ ((q = 0 ∧ ∃ j k, (a = nI j ∧ j < 5 ∧ x = nI k ∧ k < M.1 2) ∧ r2 = firM M (mk (S.2.2 0 j)) k) ∨ (¬ q = 0 ∧ mN (mI M 19 u2) 0 (cdNH (M.1 2) (fun j k => ((fun a => mk (S.2.2 0 a)) j).testBit k) a x) = mN (mI M 19 u2) 0 q)) := by
    refine ⟨_, rfl, ?_⟩
    by_cases h : cdNH (M.1 2) (fun j k => ((fun a => mk (S.2.2 0 a)) j).testBit k) a x = 0
    · exact Or.inl ⟨h, h2 h⟩
    · exact Or.inr ⟨h, rfl⟩
  have hR1 : Rel S (mI M 19 u2) := hR
  have hcd : cdNH (M.1 2) (fun j k => ((fun a => mk (S.2.2 0 a)) j).testBit k) a x = cdNH (S.1 1) (hb S) a x := by rw [d2]; rfl
  refine op_of (M := mI M 19 u2) hR1 hcd cdNH_le (fun ⟨_, h, _⟩ => h.1) h1 h2' ?_
  rintro ⟨v, ⟨hc, rfl⟩, rfl⟩ ⟨j, k, ⟨rfl, hj, rfl, hk⟩, rfl⟩
  refine ⟨hcd.trans hc, ?_, hR1.th _⟩
  rw [up0, ix_nI (by omega), ix_nI (by omega), why_eq hR (by omega)]

theorem op_causes : Op_causes := by
  intro S M fo u1 u2 a x r1 r2 hR h1 h2
  obtain ⟨hI, hJ, ⟨⟨d1, d2, d3, d4, d5, d6, d7, d8, d9⟩, ⟨e0, e1, e2, e3, e4, e5, e6, e7, e8, e17⟩, ⟨f12, f13, f20, f14, f15⟩⟩, hT, hJn, hH, hQ⟩ := id hR
  obtain ⟨i0, i1, i2, i3, i4, i5, i6, i7, i8, iJ, iH, iG, iQ⟩ := id hI
  have h2' : ∃ q : Nat, q = cdNH (M.1 2) (fun j k => ((fun a => mk (S.2.2 0 a)) j).testBit k) a x ∧ ((q = 0 ∧ ∃ j k, (a = nI j ∧ j < 5 ∧ x = nI k ∧ k < M.1 2) ∧ r2 = causesM M (mk (S.2.2 0 j)) k) ∨ (¬ q = 0 ∧ mN (mI M 19 u2) 0 (cdNH (M.1 2) (fun j k => ((fun a => mk (S.2.2 0 a)) j).testBit k) a x) = mN (mI M 19 u2) 0 q)) := by
    refine ⟨_, rfl, ?_⟩
    by_cases h : cdNH (M.1 2) (fun j k => ((fun a => mk (S.2.2 0 a)) j).testBit k) a x = 0
    · exact Or.inl ⟨h, h2 h⟩
    · exact Or.inr ⟨h, rfl⟩
  have hR1 : Rel S (mI M 19 u2) := hR
  have hcd : cdNH (M.1 2) (fun j k => ((fun a => mk (S.2.2 0 a)) j).testBit k) a x = cdNH (S.1 1) (hb S) a x := by rw [d2]; rfl
  refine op_of (M := mI M 19 u2) hR1 hcd cdNH_le (fun ⟨_, h, _⟩ => h.1) h1 h2' ?_
  rintro ⟨v, ⟨hc, rfl⟩, rfl⟩ ⟨j, k, ⟨rfl, hj, rfl, hk⟩, rfl⟩
  refine ⟨hcd.trans hc, ?_, hR1.th _⟩
  rw [up0, ix_nI (by omega), ix_nI (by omega), caus_eq hR (by omega)]

theorem op_root : Op_root := by
  intro S M fo u1 u2 a x r1 r2 hR h1 h2
  obtain ⟨hI, hJ, ⟨⟨d1, d2, d3, d4, d5, d6, d7, d8, d9⟩, ⟨e0, e1, e2, e3, e4, e5, e6, e7, e8, e17⟩, ⟨f12, f13, f20, f14, f15⟩⟩, hT, hJn, hH, hQ⟩ := id hR
  obtain ⟨i0, i1, i2, i3, i4, i5, i6, i7, i8, iJ, iH, iG, iQ⟩ := id hI
  have h2' : ∃ q : Nat, q = rtM M (fun a => mk (S.2.2 0 a)) a x ∧ ((q = 0 ∧ ∃ j k, (a = nI j ∧ j < 5 ∧ x = nI k ∧ k < M.1 2) ∧ r2 = rootM M (mk (S.2.2 0 j)) k) ∨ (¬ q = 0 ∧ mN (mI M 19 u2) 0 (rtM M (fun a => mk (S.2.2 0 a)) a x) = mN (mI M 19 u2) 0 q)) := by
    refine ⟨_, rfl, ?_⟩
    by_cases h : rtM M (fun a => mk (S.2.2 0 a)) a x = 0
    · exact Or.inl ⟨h, h2 h⟩
    · exact Or.inr ⟨h, rfl⟩
  have hR1 : Rel S (mI M 19 u2) := hR
  have hcd : rtM M (fun a => mk (S.2.2 0 a)) a x = cdRoot S a x := by
    unfold rtM cdRoot
    have h0 : cdNH (M.1 2) (fun j k => ((fun a => mk (S.2.2 0 a)) j).testBit k) a x = cdNH (S.1 1) (hb S) a x := by rw [d2]; rfl
    rw [h0]
    split
    · rename_i hz
      obtain ⟨j, k, hj, hk, rfl, rfl, -⟩ := cdNH_nn (by omega) hz
      rw [ix_nI (by omega), ix_nI (by omega)]
      have h5 := fir_45 hR (a := j) hk
      by_cases h6 : protI S j k = -1
      · rw [if_pos h6, if_pos (h5.mpr h6)]
      · rw [if_neg h6, if_neg (fun h7 => h6 (h5.mp h7))]
    · rfl
  refine op_of (M := mI M 19 u2) hR1 hcd cdRoot_le (fun ⟨_, h, _⟩ => h.1) h1 h2' ?_
  rintro ⟨v, ⟨hc, rfl⟩, rfl⟩ ⟨j, k, ⟨rfl, hj, rfl, hk⟩, rfl⟩
  refine ⟨hcd.trans hc, ?_, hR1.th _⟩
  have hk2 : k < S.1 1 := by omega
  have hp : ¬ protI S j k = -1 := by
    intro h
    unfold cdRoot at hc
    rw [ix_nI (by omega), ix_nI (by omega), if_pos h] at hc
    split at hc
    · cases hc
    · rename_i h9; exact h9 hc
  have hix := prot_ix2 hI hk2 hp
  rw [up0, ix_nI (by omega), ix_nI (by omega)]
  rw [prot_eq hR hk2] at hix
  unfold rootC rootM
  rw [prot_eq hR hk2, hidS_eq hR hix]
