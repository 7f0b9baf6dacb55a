theorem hc_cases {S : SA} {a k : Nat} (hR : RB S) (ha : a < 5) (hk : k < S.1 1) : (qHolds S (nI a) (nI k) = nI 1 ∧ qByLog S (nI a) (nI k) = nI 1 ∧ qWhy S (nI a) (nI k) = (-3) ∧ qRoot S (nI a) (nI k) = (-3) ∧ qCauses S (nI a) (nI k) = (-3) ∧ hb S a k = true) ∨ (qHolds S (nI a) (nI k) = nI 0 ∧ qByLog S (nI a) (nI k) = nI 0 ∧ qWhy S (nI a) (nI k) = nI 45 ∧ qRoot S (nI a) (nI k) = (-4) ∧ qCauses S (nI a) (nI k) = nI 0 ∧ qHid S (nI k) = nI 0 ∧ hb S a k = false) ∨ (qHolds S (nI a) (nI k) = nI 0 ∧ qByLog S (nI a) (nI k) = nI 0 ∧ qWhy S (nI a) (nI k) = nI 106 ∧ qRoot S (nI a) (nI k) = nI 114 ∧ qCauses S (nI a) (nI k) = nI 2 ∧ qHid S (nI k) = nI 0 ∧ hb S a k = false) ∨ (qHolds S (nI a) (nI k) = nI 0 ∧ qByLog S (nI a) (nI k) = nI 0 ∧ qWhy S (nI a) (nI k) = nI 106 ∧ qRoot S (nI a) (nI k) = nI 115 ∧ qCauses S (nI a) (nI k) = nI 2 ∧ qHid S (nI k) = nI 0 ∧ hb S a k = false) ∨ (qHolds S (nI a) (nI k) = nI 0 ∧ qByLog S (nI a) (nI k) = nI 0 ∧ qWhy S (nI a) (nI k) = nI 106 ∧ qRoot S (nI a) (nI k) = nI 115 ∧ qCauses S (nI a) (nI k) = nI 3 ∧ qHid S (nI k) = nI 0 ∧ hb S a k = false) ∨ (qHolds S (nI a) (nI k) = nI 0 ∧ qByLog S (nI a) (nI k) = nI 0 ∧ qWhy S (nI a) (nI k) = nI 114 ∧ qRoot S (nI a) (nI k) = nI 114 ∧ qCauses S (nI a) (nI k) = nI 1 ∧ qHid S (nI k) = nI 1 ∧ hb S a k = false) ∨ (qHolds S (nI a) (nI k) = nI 0 ∧ qByLog S (nI a) (nI k) = nI 0 ∧ qWhy S (nI a) (nI k) = nI 114 ∧ qRoot S (nI a) (nI k) = nI 115 ∧ qCauses S (nI a) (nI k) = nI 2 ∧ qHid S (nI k) = nI 1 ∧ hb S a k = false) ∨ (qHolds S (nI a) (nI k) = nI 0 ∧ qByLog S (nI a) (nI k) = nI 0 ∧ qWhy S (nI a) (nI k) = nI 115 ∧ qRoot S (nI a) (nI k) = nI 115 ∧ qCauses S (nI a) (nI k) = nI 1 ∧ qHid S (nI k) = nI 1 ∧ hb S a k = false) := by
  have hn := hR.n
  have hn2 : S.1 1 < 2 ^ 31 := by omega
  have eh := q_holds hR ha hk
  have eg : qByLog S (nI a) (nI k) = bI (hb S a k) := by
    rw [qByLog, cdH_y hn2 ha hk, wq0, ix_nI (by omega)]
    have h1 := (hR.2.2.2.2.1 a ha).1
    unfold lgA at h1
    rw [← h1]
    rfl
  cases hv : hb S a k with
  | true =>
    rw [hv] at eh eg
    have e3 : cdNH (S.1 1) (hb S) (nI a) (nI k) = 3 := by rw [cdN_y hn2 ha hk, hv]; rfl
    refine Or.inl ⟨eh, eg, ?_, ?_, ?_, rfl⟩
    · rw [qWhy, e3]; rfl
    · rw [qRoot, cdRoot, e3]; rfl
    · rw [qCauses, e3]; rfl
  | false =>
    rw [hv] at eh eg
    have e0 : cdNH (S.1 1) (hb S) (nI a) (nI k) = 0 := by rw [cdN_y hn2 ha hk, hv]; rfl
    have ew : qWhy S (nI a) (nI k) = whyC S a k := by rw [qWhy, e0, wq0, ix_nI (by omega), ix_nI (by omega)]
    have ec : qCauses S (nI a) (nI k) = causesI S a k := by rw [qCauses, e0, wq0, ix_nI (by omega), ix_nI (by omega)]
    have er : qRoot S (nI a) (nI k) = if protI S a k = -1 then (-4) else rootC S a k := by
      rw [qRoot, cdRoot, e0, if_pos rfl, ix_nI (by omega), ix_nI (by omega)]
      split <;> rfl
    have ei := q_hid hR hk
    rcases prot_cases (S := S) (a := a) (k := k) with ⟨hh, hP⟩ | ⟨hh, hP⟩ | ⟨hh, q, hq, hqk, hhq, hP⟩
    · have hm : ¬ nI k = -1 := r_m1 k (by omega)
      rw [whyC, hP, if_neg hm, if_pos rfl] at ew
      rw [hP, if_neg hm, rootC, hP, ix_nI (by omega)] at er
      rw [causesI, hP, if_neg hm, if_pos rfl, ix_nI (by omega)] at ec
      rw [hh] at ei
      cases h1 : hRA S k <;> cases h2 : hSA S k <;> rw [h1] at ew ec <;> rw [h2] at er ec
      · rw [hidA, h1, h2] at hh; cases hh
      · exact Or.inr (Or.inr (Or.inr (Or.inr (Or.inr (Or.inr (Or.inr ⟨eh, eg, ew, er, ec, ei, rfl⟩))))))
      · exact Or.inr (Or.inr (Or.inr (Or.inr (Or.inr (Or.inl ⟨eh, eg, ew, er, ec, ei, rfl⟩)))))
      · exact Or.inr (Or.inr (Or.inr (Or.inr (Or.inr (Or.inr (Or.inl ⟨eh, eg, ew, er, ec, ei, rfl⟩))))))
    · rw [whyC, hP, if_pos rfl] at ew
      rw [hP, if_pos rfl] at er
      rw [causesI, hP, if_pos rfl] at ec
      rw [hh] at ei
      exact Or.inr (Or.inl ⟨eh, eg, ew, er, ec, ei, rfl⟩)
    · have hm : ¬ nI q = -1 := r_m1 q (by omega)
      have hk2 : ¬ nI q = nI k := fun z => hqk ((nI_eq (by omega) (by omega)).mp z)
      rw [whyC, hP, if_neg hm, if_neg hk2] at ew
      rw [hP, if_neg hm, rootC, hP, ix_nI (by omega)] at er
      rw [causesI, hP, if_neg hm, if_neg hk2, ix_nI (by omega)] at ec
      rw [hh] at ei
      cases h1 : hRA S q <;> cases h2 : hSA S q <;> rw [h1] at ec <;> rw [h2] at er ec
      · rw [hidA, h1, h2] at hhq; cases hhq
      · exact Or.inr (Or.inr (Or.inr (Or.inl ⟨eh, eg, ew, er, ec, ei, rfl⟩)))
      · exact Or.inr (Or.inr (Or.inl ⟨eh, eg, ew, er, ec, ei, rfl⟩))
      · exact Or.inr (Or.inr (Or.inr (Or.inr (Or.inl ⟨eh, eg, ew, er, ec, ei, rfl⟩))))
theorem hc_end {S : SA} {a : Nat} (hR : RB S) (ha : a < 5) : qHeld S (nI a) = nI (fb_ct (hb S a) (S.1 1)) ∧ (∃ g, g ≤ fb_ct (hb S a) (S.1 1) ∧ qGiven S (nI a) = nI g) ∧ qHolds S (nI a) (nI (S.1 1)) = (-2) ∧ qHolds S (nI 5) (nI 0) = (-1) ∧ qWhy S (nI a) (nI (S.1 1)) = (-2) := by
  have hn := hR.n
  have hn2 : S.1 1 < 2 ^ 31 := by omega
  refine ⟨?_, ⟨fb_ct (fun k => (lgA S a).testBit k) 40, ?_, ?_⟩, ?_, by rw [qHolds, cdHolds, if_pos (by decide +kernel)]; rfl, ?_⟩
  · rw [qHeld, cd1_y (by decide) ha, wq0, ix_nI (by omega)]
    exact congrArg nI (r_ct40 hR ha)
  · rw [← r_ct40 hR ha]
    exact fb_ct_sub (fun k _ h => hR.2.1.1 a ha k h)
  · rw [qGiven, cd1_y (by decide) ha, wq0]
    rfl
  · rw [qHolds, cdH_x hn2 ha (by omega) (Nat.lt_irrefl _)]; rfl
  · rw [qWhy, cdN_x hn2 ha (by omega) (Nat.lt_irrefl _)]; rfl
