theorem hidR_eq {S : SA} {M : SM} (hR : Rel S M) (k : Nat) : hRM M k = hRA S k := by
  obtain ⟨hI, hJ, ⟨⟨d1, d2, d3, d4, d5, d6, d7, d8, d9⟩, ⟨e0, e1, e2, e3, e4, e5, e6, e7, e8, e17⟩, ⟨f12, f13, f20, f14, f15⟩⟩, hT, hJn, hH, hQ⟩ := id hR
  rw [hRM, hRA, d3, e2, e3, e4, d8, e1]
theorem hidS_eq {S : SA} {M : SM} (hR : Rel S M) {k : Nat} (hk : k < S.1 1) : hSM M k = hSA S k := by
  obtain ⟨hI, hJ, ⟨⟨d1, d2, d3, d4, d5, d6, d7, d8, d9⟩, ⟨e0, e1, e2, e3, e4, e5, e6, e7, e8, e17⟩, ⟨f12, f13, f20, f14, f15⟩⟩, hT, hJn, hH, hQ⟩ := id hR
  have h7 : S.1 7 < 2 ^ 31 := by
    have := hI.2.2.2.2.2.2.2.1
    omega
  rw [hSM, hSA, d4, e5, e6, e7, e8, d8, e0, hT.1 k hk]
  unfold hidSL hidS
  exact anyB_c fun z _ => by rw [frc_lfd h7]
theorem hid_eq {S : SA} {M : SM} (hR : Rel S M) {k : Nat} (hk : k < S.1 1) : hidM M k = hidA S k := by rw [hidM, hidA, hidR_eq hR, hidS_eq hR hk]
theorem hct_eq {S : SA} {M : SM} (hR : Rel S M) : fb_ct (hidM M) (M.1 2) = fb_ct (hidA S) (S.1 1) := by
  rw [hR.2.2.1.1.2.1]
  exact fb_ct_cong fun k hk => hid_eq hR hk
theorem Rel.li {S : SA} {M : SM} (hR : Rel S M) {j : Nat} (hj : j < S.1 3) : Rel (sI S 11 (upd (S.2.1 11) j (-1))) (mI M 17 (upd (M.2 17) j (nI 1))) := by
  obtain ⟨hI, hJ, ⟨⟨d1, d2, d3, d4, d5, d6, d7, d8, d9⟩, ⟨e0, e1, e2, e3, e4, e5, e6, e7, e8, e17⟩, ⟨f12, f13, f20, f14, f15⟩⟩, hT, hJn, hH, hQ⟩ := id hR
  exact ⟨hI, hJ, ⟨⟨d1, d2, d3, d4, d5, d6, d7, d8, d9⟩, ⟨e0, e1, e2, e3, e4, e5, e6, e7, (show upd (S.2.1 11) j (-1) = lfd (upd (M.2 17) j (nI 1)) (M.2 8) by rw [e8, lfd_up]), fun k hk => (show upd (M.2 17) j (nI 1) k = 0 by
    have hk3 : S.1 3 ≤ k := hk
    rw [upd, if_neg (by omega)]; exact e17 k hk3)⟩, ⟨f12, f13, f20, f14, f15⟩⟩, hT, hJn, hH, hQ⟩
theorem op_hidden : Op_hidden := by
  intro S M r1 r2 hR h1 h2
  rw [h1, h2, hct_eq hR]
theorem op_isHidden : Op_isHidden := by
  intro S M fo u1 u2 x r1 r2 hR h1 h2
  obtain ⟨hI, hJ, ⟨⟨d1, d2, d3, d4, d5, d6, d7, d8, d9⟩, ⟨e0, e1, e2, e3, e4, e5, e6, e7, e8, e17⟩, ⟨f12, f13, f20, f14, f15⟩⟩, hT, hJn, hH, hQ⟩ := id hR
  obtain ⟨i0, i1, i2, i3, i4, i5, i6, i7, i8, iJ, iH, iG, iQ⟩ := id hI
  refine op_of hR (by rw [d2]) cd1_le (fun ⟨_, h, _⟩ => h.1) h1 h2 ?_
  rintro ⟨v, ⟨-, rfl⟩, rfl⟩ ⟨j, rfl, hj, rfl, rfl⟩
  refine ⟨rfl, ?_, hR.th _⟩
  rw [up0, ix_nI (by omega), hid_eq hR (by omega)]

theorem op_lift : Op_lift := by
  intro S M fo u1 u2 k r1 r2 hR h1 h2
  obtain ⟨hI, hJ, ⟨⟨d1, d2, d3, d4, d5, d6, d7, d8, d9⟩, ⟨e0, e1, e2, e3, e4, e5, e6, e7, e8, e17⟩, ⟨f12, f13, f20, f14, f15⟩⟩, hT, hJn, hH, hQ⟩ := id hR
  obtain ⟨i0, i1, i2, i3, i4, i5, i6, i7, i8, iJ, iH, iG, iQ⟩ := id hI
  refine op_of hR (by rw [d4, e8, d8, lift_cd (by omega)]) cdLiftA_le (fun ⟨_, _, h, _⟩ => h.1) h1 h2 ?_
  rintro ⟨w, g, ⟨-, hx, hg, rfl⟩, rfl⟩ ⟨j, rfl, hj, rfl, rfl⟩
  have hgj : j = g := nI_i (by omega) (by omega) hx
  subst hgj
  have hR2 := hR.li hg
  refine ⟨rfl, ?_, hR2.th _⟩
  have h3 := hct_eq hR
  have h4 := hct_eq hR2
  rw [up0, h3]
  rw [show fb_ct (hidM (mI M 17 (upd (M.2 17) j (nI 1)))) (M.1 2) = fb_ct (hidA (sI S 11 (upd (S.2.1 11) j (-1)))) (S.1 1) from h4]

theorem op_lines : Op_lines := by
  intro S M fo u1 u2 d r1 r2 hR h1 h2
  obtain ⟨hI, hJ, ⟨⟨d1, d2, d3, d4, d5, d6, d7, d8, d9⟩, ⟨e0, e1, e2, e3, e4, e5, e6, e7, e8, e17⟩, ⟨f12, f13, f20, f14, f15⟩⟩, hT, hJn, hH, hQ⟩ := id hR
  obtain ⟨i0, i1, i2, i3, i4, i5, i6, i7, i8, iJ, iH, iG, iQ⟩ := id hI
  refine op_of hR (by rw [d1]) cd1_le (fun ⟨_, h, _⟩ => h.1) h1 h2 ?_
  rintro ⟨v, ⟨-, rfl⟩, rfl⟩ ⟨j, rfl, hj, rfl, rfl⟩
  refine ⟨rfl, ?_, hR.th _⟩
  rw [up0, ix_nI (by omega), e0, d2, hT.2.1 j (by omega)]

theorem op_given : Op_given := by
  intro S M fo u1 u2 a r1 r2 hR h1 h2
  obtain ⟨hI, hJ, ⟨⟨d1, d2, d3, d4, d5, d6, d7, d8, d9⟩, ⟨e0, e1, e2, e3, e4, e5, e6, e7, e8, e17⟩, ⟨f12, f13, f20, f14, f15⟩⟩, hT, hJn, hH, hQ⟩ := id hR
  obtain ⟨i0, i1, i2, i3, i4, i5, i6, i7, i8, iJ, iH, iG, iQ⟩ := id hI
  refine op_of hR rfl cd1_le (fun ⟨_, h, _⟩ => h.1) h1 h2 ?_
  rintro ⟨v, ⟨-, rfl⟩, rfl⟩ ⟨j, rfl, hj, rfl, rfl⟩
  refine ⟨rfl, ?_, hR.th _⟩
  rw [up0, (hH j hj).2.2.1]
  rfl

theorem op_held : Op_held := by
  intro S M fo u1 u2 a r1 r2 hR h1 h2
  obtain ⟨hI, hJ, ⟨⟨d1, d2, d3, d4, d5, d6, d7, d8, d9⟩, ⟨e0, e1, e2, e3, e4, e5, e6, e7, e8, e17⟩, ⟨f12, f13, f20, f14, f15⟩⟩, hT, hJn, hH, hQ⟩ := id hR
  obtain ⟨i0, i1, i2, i3, i4, i5, i6, i7, i8, iJ, iH, iG, iQ⟩ := id hI
  refine op_of hR rfl cd1_le (fun ⟨_, h, _⟩ => h.1) h1 h2 ?_
  rintro ⟨v, ⟨-, rfl⟩, rfl⟩ ⟨j, rfl, hj, rfl, rfl⟩
  refine ⟨rfl, ?_, hR.th _⟩
  have hb2 := (hH j hj).2.1
  have h4 : fb_ct (fun k => (mk (S.2.2 0 j)).testBit k) 40 = fb_ct (fun k => (mk (S.2.2 0 j)).testBit k) (S.1 1) := by
    have h5 := fb_ct_split (fun k => (mk (S.2.2 0 j)).testBit k) (S.1 1) (40 - S.1 1)
    rw [show S.1 1 + (40 - S.1 1) = 40 by omega] at h5
    rw [h5, fb_ct_zero.mpr (fun k _ => Nat.testBit_lt_two_pow (Nat.lt_of_lt_of_le hb2 (Nat.pow_le_pow_right (by decide) (Nat.le_add_right _ k))))]
    rfl
  rw [up0, ix_nI (by omega), d2]
  exact congrArg (fun z => (nI z).toInt64) h4

theorem op_holders : Op_holders := by
  intro S M fo u1 u2 x r1 r2 hR h1 h2
  obtain ⟨hI, hJ, ⟨⟨d1, d2, d3, d4, d5, d6, d7, d8, d9⟩, ⟨e0, e1, e2, e3, e4, e5, e6, e7, e8, e17⟩, ⟨f12, f13, f20, f14, f15⟩⟩, hT, hJn, hH, hQ⟩ := id hR
  obtain ⟨i0, i1, i2, i3, i4, i5, i6, i7, i8, iJ, iH, iG, iQ⟩ := id hI
  refine op_of hR (by rw [d2]) cd1_le (fun ⟨_, h, _⟩ => h.1) h1 h2 ?_
  rintro ⟨v, ⟨-, rfl⟩, rfl⟩ ⟨j, rfl, hj, rfl, rfl⟩
  refine ⟨rfl, ?_, hR.th _⟩
  rw [up0, ix_nI (by omega)]
  rfl

theorem op_holds : Op_holds := by
  intro S M fo u1 u2 a x r1 r2 hR h1 h2
  obtain ⟨hI, hJ, ⟨⟨d1, d2, d3, d4, d5, d6, d7, d8, d9⟩, ⟨e0, e1, e2, e3, e4, e5, e6, e7, e8, e17⟩, ⟨f12, f13, f20, f14, f15⟩⟩, hT, hJn, hH, hQ⟩ := id hR
  obtain ⟨i0, i1, i2, i3, i4, i5, i6, i7, i8, iJ, iH, iG, iQ⟩ := id hI
  have h2' : ∃ q : Nat, q = cdHolds (M.1 2) a x ∧ ((q = 0 ∧ ∃ j k, (a = nI j ∧ j < 5 ∧ x = nI k ∧ k < M.1 2) ∧ u2 = mN M 0 q ∧ r2 = bI (((fun a => mk (S.2.2 0 a)) j).testBit k)) ∨ (¬ q = 0 ∧ u2 = mN M 0 q)) := by
    obtain ⟨q, hq, h⟩ := h2
    exact ⟨q, hq, h.imp id (fun h => ⟨h.1, h.2.1⟩)⟩
  refine op_of hR (by rw [d2]) cdHolds_le (fun ⟨_, h, _⟩ => h.1) h1 h2' ?_
  rintro ⟨v, ⟨-, rfl⟩, rfl⟩ ⟨j, k, ⟨rfl, hj, rfl, hk⟩, rfl, rfl⟩
  refine ⟨rfl, ?_, hR.th _⟩
  rw [up0, ix_nI (by omega), ix_nI (by omega)]
  rfl

theorem op_holdsByLog : Op_holdsByLog := by
  intro S M fo u1 u2 a x r1 r2 hR h1 h2
  obtain ⟨hI, hJ, ⟨⟨d1, d2, d3, d4, d5, d6, d7, d8, d9⟩, ⟨e0, e1, e2, e3, e4, e5, e6, e7, e8, e17⟩, ⟨f12, f13, f20, f14, f15⟩⟩, hT, hJn, hH, hQ⟩ := id hR
  obtain ⟨i0, i1, i2, i3, i4, i5, i6, i7, i8, iJ, iH, iG, iQ⟩ := id hI
  have h2' : ∃ q : Nat, q = cdHolds (M.1 2) a x ∧ ((q = 0 ∧ ∃ j k, (a = nI j ∧ j < 5 ∧ x = nI k ∧ k < M.1 2) ∧ u2 = mN M 0 q ∧ r2 = bI (((fun a => mk (S.2.2 0 a)) j).testBit k)) ∨ (¬ q = 0 ∧ u2 = mN M 0 q)) := by
    obtain ⟨q, hq, h⟩ := h2
    exact ⟨q, hq, h.imp id (fun h => ⟨h.1, h.2.1⟩)⟩
  refine op_of hR (by rw [d2]) cdHolds_le (fun ⟨_, h, _⟩ => h.1) h1 h2' ?_
  rintro ⟨v, ⟨-, rfl⟩, rfl⟩ ⟨j, k, ⟨rfl, hj, rfl, hk⟩, rfl, rfl⟩
  refine ⟨rfl, ?_, hR.th _⟩
  rw [up0, ix_nI (by omega), show lgM (S.2.1 13) (S.2.1 14) (nI j) (S.1 5) = lgA S j from rfl, (hH j hj).2.2.2]

theorem op_withdraw : Op_withdraw := by
  intro S M fo u1 u2 k r1 r2 hR h1 h2
  obtain ⟨hI, hJ, ⟨⟨d1, d2, d3, d4, d5, d6, d7, d8, d9⟩, ⟨e0, e1, e2, e3, e4, e5, e6, e7, e8, e17⟩, ⟨f12, f13, f20, f14, f15⟩⟩, hT, hJn, hH, hQ⟩ := id hR
  obtain ⟨i0, i1, i2, i3, i4, i5, i6, i7, i8, iJ, iH, iG, iQ⟩ := id hI
  refine op_of hR (by rw [d6, f20]) cdAns_le (fun ⟨_, _, h, _⟩ => h.1) h1 h2 ?_
  rintro ⟨w, g, ⟨-, hx, hg, rfl⟩, rfl⟩ ⟨j, rfl, hj, rfl, rfl⟩
  have hgj : j = g := nI_i (by omega) (by omega) hx
  subst hgj
  refine ⟨rfl, by rw [up0, f20, d6], hI, hJ, ⟨⟨d1, d2, d3, d4, d5, d6, d7, d8, d9⟩, ⟨e0, e1, e2, e3, e4, e5, e6, e7, e8, e17⟩, ⟨f12, f13, (show upd (M.2 20) j (nI 120) = upd (S.2.1 17) j (nI 120) by rw [f20]), f14, f15⟩⟩, hT, hJn, hH, fun z hz => ?_, hQ.2⟩
  show upd (S.2.1 17) j (nI 120) z = nI 119 ∨ upd (S.2.1 17) j (nI 120) z = nI 97 ∨ upd (S.2.1 17) j (nI 120) z = nI 120
  unfold upd
  split
  · exact Or.inr (Or.inr rfl)
  · exact hQ.1 z hz
