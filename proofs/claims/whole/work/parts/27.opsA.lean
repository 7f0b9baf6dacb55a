theorem Rel.th {S : SA} {M : SM} (h : Rel S M) (q : Nat) : Rel S (mN M 0 q) := h
theorem nI_z {q : Nat} (hq : q ≤ 9) (h : nI q = 0) : q = 0 := (nI_eq (by omega) (by decide)).mp (h.trans nI_0.symm)
theorem nI_i {a b : Nat} (ha : a < 2 ^ 31) (hb : b < 2 ^ 31) (h : nI a = nI b) : a = b := (nI_eq (by omega) (by omega)).mp h
theorem op_of {β : Type} {S : SA} {M u2 : SM} {fo : β} {u1 : SA × β} {r1 : Int32} {CD CD' : Nat} {A V : Prop} {B : Nat → Prop} (hR : Rel S M) (hcd : CD' = CD) (hle : CD ≤ 9) (hA : A → CD = 0) (h1 : (r1 = nI 0 ∧ A) ∨ ∃ q : Nat, ¬ q = 0 ∧ r1 = nI q ∧ CD = q ∧ u1 = (S, fo)) (h2 : ∃ q : Nat, q = CD' ∧ ((q = 0 ∧ B q) ∨ (¬ q = 0 ∧ u2 = mN M 0 q))) (hok : A → B 0 → u2.1 0 = 0 ∧ V ∧ Rel u1.1 u2) : r1 = nI (u2.1 0) ∧ (r1 = 0 → V) ∧ Rel u1.1 u2 := by
  subst hcd
  obtain ⟨q2, e2, h2⟩ := h2
  rcases h1 with ⟨rfl, hA1⟩ | ⟨q1, hne, rfl, e1, rfl⟩
  · have hz := hA hA1
    rcases h2 with ⟨rfl, hB⟩ | ⟨hn, -⟩
    · obtain ⟨g1, g2, g3⟩ := hok hA1 hB
      exact ⟨by rw [g1], fun _ => g2, g3⟩
    · exact absurd (e2.trans hz) hn
  · rcases h2 with ⟨rfl, hB⟩ | ⟨hn, rfl⟩
    · exact absurd (e1.symm.trans e2.symm) hne
    · have e3 : q2 = q1 := e2.trans e1
      subst e3
      exact ⟨rfl, fun h => absurd (nI_z (by omega) h) hne, hR.th _⟩
theorem up0 {α : Type} {A : α} {fo : Nat → Int64} {v : Int64} : ((A, vp_updL fo 0 v) : α × (Nat → Int64)).2 0 = v := by simp [vp_updL]
theorem cd1_le {n : Nat} {x : Int32} : cd1 n x ≤ 9 := by
  unfold cd1
  repeat' split
  all_goals omega
theorem cdAddDoc_le {nd : Nat} : cdAddDoc nd ≤ 9 := by
  unfold cdAddDoc
  repeat' split
  all_goals omega
theorem cdAddLine_le {nd nl : Nat} {d v : Int32} : cdAddLine nd nl d v ≤ 9 := by
  unfold cdAddLine
  repeat' split
  all_goals omega
theorem cdRescan_le {nl : Nat} {x v : Int32} : cdRescan nl x v ≤ 9 := by
  unfold cdRescan
  repeat' split
  all_goals omega
theorem cdAddRule_le {nr dy : Nat} {f g t : Int32} : cdAddRule nr dy f g t ≤ 9 := by
  unfold cdAddRule
  repeat' split
  all_goals omega
theorem cdAddSpan_le {nd ns dy : Nat} {d f g t : Int32} : cdAddSpan nd ns dy d f g t ≤ 9 := by
  unfold cdAddSpan
  repeat' split
  all_goals omega
theorem cdLift_le {ns : Nat} {lf sl : Nat → Int32} {dy : Nat} {k : Int32} : cdLift ns lf sl dy k ≤ 9 := by
  unfold cdLift
  repeat' split
  all_goals omega
theorem cdLiftA_le {ns : Nat} {sl : Nat → Int32} {dy : Nat} {k : Int32} : cdLiftA ns sl dy k ≤ 9 := by
  unfold cdLiftA
  repeat' split
  all_goals omega
theorem cdAddJoin_le {nl nj : Nat} {a b t : Int32} : cdAddJoin nl nj a b t ≤ 9 := by
  unfold cdAddJoin
  repeat' split
  all_goals omega
theorem cdHolds_le {nl : Nat} {a x : Int32} : cdHolds nl a x ≤ 9 := by
  unfold cdHolds
  repeat' split
  all_goals omega
theorem cdNH_le {nl : Nat} {h : Nat → Nat → Bool} {a x : Int32} : cdNH nl h a x ≤ 9 := by
  unfold cdNH
  repeat' split
  all_goals omega
theorem cdReq_le {nd nq : Nat} {ow : Nat → Int32} {wt : Bool} {a d : Int32} : cdReq nd nq ow wt a d ≤ 9 := by
  unfold cdReq
  repeat' split
  all_goals omega
theorem cdAns_le {nq : Nat} {q : Nat → Int32} {k : Int32} : cdAns nq q k ≤ 9 := by
  unfold cdAns
  repeat' split
  all_goals omega
theorem cdPrice_le {z : Int32} : cdPrice z ≤ 9 := by
  unfold cdPrice
  repeat' split
  all_goals omega
theorem cdPay_le {ow : Nat → Int32} {a z : Int32} : cdPay ow a z ≤ 9 := by
  unfold cdPay
  repeat' split
  all_goals omega
theorem cdPass_le {dy : Nat} {z : Int32} : cdPass dy z ≤ 9 := by
  unfold cdPass
  repeat' split
  all_goals omega
theorem cdShare_le {n : Nat} : cdShare n ≤ 9 := by
  unfold cdShare
  repeat' split
  all_goals omega
theorem op_documentOf : Op_documentOf := by
  intro S M fo u1 u2 x r1 r2 hR h1 h2
  obtain ⟨hI, hJ, ⟨⟨d1, d2, d3, d4, d5, d6, d7, d8, d9⟩, ⟨e0, e1, e2, e3, e4, e5, e6, e7, e8, e17⟩, ⟨f12, f13, f20, f14, f15⟩⟩, hT, hJn, hH, hQ⟩ := id hR
  obtain ⟨i0, i1, i2, i3, i4, i5, i6, i7, i8, iJ, iH, iG, iQ⟩ := id hI
  refine op_of hR (by rw [d2]) cd1_le (fun ⟨_, h, _⟩ => h.1) h1 h2 ?_
  rintro ⟨v, ⟨-, rfl⟩, rfl⟩ ⟨j, rfl, hj, rfl, rfl⟩
  refine ⟨rfl, ?_, hR.th _⟩
  rw [up0, ix_nI (by omega), e0]

theorem op_state : Op_state := by
  intro S M fo u1 u2 k r1 r2 hR h1 h2
  obtain ⟨hI, hJ, ⟨⟨d1, d2, d3, d4, d5, d6, d7, d8, d9⟩, ⟨e0, e1, e2, e3, e4, e5, e6, e7, e8, e17⟩, ⟨f12, f13, f20, f14, f15⟩⟩, hT, hJn, hH, hQ⟩ := id hR
  obtain ⟨i0, i1, i2, i3, i4, i5, i6, i7, i8, iJ, iH, iG, iQ⟩ := id hI
  refine op_of hR (by rw [d6]) cd1_le (fun ⟨_, h, _⟩ => h.1) h1 h2 ?_
  rintro ⟨v, ⟨-, rfl⟩, rfl⟩ ⟨j, rfl, hj, rfl, rfl⟩
  refine ⟨rfl, ?_, hR.th _⟩
  rw [up0, ix_nI (by omega), f20]

theorem op_owed : Op_owed := by
  intro S M fo u1 u2 a r1 r2 hR h1 h2
  obtain ⟨hI, hJ, ⟨⟨d1, d2, d3, d4, d5, d6, d7, d8, d9⟩, ⟨e0, e1, e2, e3, e4, e5, e6, e7, e8, e17⟩, ⟨f12, f13, f20, f14, f15⟩⟩, hT, hJn, hH, hQ⟩ := id hR
  obtain ⟨i0, i1, i2, i3, i4, i5, i6, i7, i8, iJ, iH, iG, iQ⟩ := id hI
  refine op_of hR rfl cd1_le (fun ⟨_, h, _⟩ => h.1) h1 h2 ?_
  rintro ⟨v, ⟨-, rfl⟩, rfl⟩ ⟨j, rfl, hj, rfl, rfl⟩
  refine ⟨rfl, ?_, hR.th _⟩
  rw [up0, ix_nI (by omega), f15]

theorem op_indexOf : Op_indexOf := by
  intro S M fo u1 u2 x r1 r2 hR h1 h2
  obtain ⟨hI, hJ, ⟨⟨d1, d2, d3, d4, d5, d6, d7, d8, d9⟩, ⟨e0, e1, e2, e3, e4, e5, e6, e7, e8, e17⟩, ⟨f12, f13, f20, f14, f15⟩⟩, hT, hJn, hH, hQ⟩ := id hR
  obtain ⟨i0, i1, i2, i3, i4, i5, i6, i7, i8, iJ, iH, iG, iQ⟩ := id hI
  refine op_of hR (by rw [d2]) cd1_le (fun ⟨_, h, _⟩ => h.1) h1 h2 ?_
  rintro ⟨v, ⟨-, rfl⟩, rfl⟩ ⟨j, rfl, hj, rfl, rfl⟩
  refine ⟨rfl, ?_, hR.th _⟩
  rw [up0, ix_nI (by omega), e0, hT.1 j (by omega)]

theorem op_day : Op_day := by
  intro S M r1 r2 hR h1 h2
  rw [h1, h2, hR.2.2.1.1.2.2.2.2.2.2.2.1]

theorem op_fees : Op_fees := by
  intro S M r1 r2 hR h1 h2
  rw [h1, h2, hR.2.2.1.1.2.2.2.2.2.2.2.2]

theorem op_late : Op_late := by
  intro S M r1 r2 hR h1 h2
  obtain ⟨hI, hJ, ⟨⟨d1, d2, d3, d4, d5, d6, d7, d8, d9⟩, ⟨e0, e1, e2, e3, e4, e5, e6, e7, e8, e17⟩, ⟨f12, f13, f20, f14, f15⟩⟩, hT, hJn, hH, hQ⟩ := id hR
  obtain ⟨i0, i1, i2, i3, i4, i5, i6, i7, i8, iJ, iH, iG, iQ⟩ := id hI
  rw [h1, h2, d6, f20, f14, d8]

theorem op_addDocument : Op_addDocument := by
  intro S M fo u1 u2 r1 r2 hR h1 h2
  obtain ⟨hI, hJ, ⟨⟨d1, d2, d3, d4, d5, d6, d7, d8, d9⟩, ⟨e0, e1, e2, e3, e4, e5, e6, e7, e8, e17⟩, ⟨f12, f13, f20, f14, f15⟩⟩, hT, hJn, hH, hQ⟩ := id hR
  obtain ⟨i0, i1, i2, i3, i4, i5, i6, i7, i8, iJ, iH, iG, iQ⟩ := id hI
  refine op_of hR (by rw [d1]) cdAddDoc_le (fun ⟨_, h, _⟩ => h.1) h1 h2 ?_
  rintro ⟨v, ⟨hc, rfl⟩, rfl⟩ ⟨rfl, rfl⟩
  have hd : ¬ S.1 0 = 8 := by
    intro h
    rw [cdAddDoc, if_pos h] at hc
    cases hc
  refine ⟨rfl, by rw [up0, d1], ⟨(show S.1 0 + 1 ≤ 8 by omega), i1, i2, i3, i4, i5, i6, i7, i8, iJ, iH, iG, iQ⟩, hJ, ⟨⟨(show M.1 1 + 1 = S.1 0 + 1 by rw [d1]), d2, d3, d4, d5, d6, d7, d8, d9⟩, ⟨e0, e1, e2, e3, e4, e5, e6, e7, e8, e17⟩, ⟨f12, f13, f20, f14, f15⟩⟩, ⟨hT.1, hT.2.1, fun k hk => ?_⟩, hJn, hH, hQ⟩
  obtain ⟨j, hj, hjk⟩ := hT.2.2 k hk
  exact ⟨j, (show j < S.1 0 + 1 by omega), hjk⟩

theorem op_rescan : Op_rescan := by
  intro S M fo u1 u2 x v r1 r2 hR h1 h2
  obtain ⟨hI, hJ, ⟨⟨d1, d2, d3, d4, d5, d6, d7, d8, d9⟩, ⟨e0, e1, e2, e3, e4, e5, e6, e7, e8, e17⟩, ⟨f12, f13, f20, f14, f15⟩⟩, hT, hJn, hH, hQ⟩ := id hR
  obtain ⟨i0, i1, i2, i3, i4, i5, i6, i7, i8, iJ, iH, iG, iQ⟩ := id hI
  refine op_of hR (by rw [d2]) cdRescan_le (fun ⟨_, _, h, _⟩ => h.1) h1 h2 ?_
  rintro ⟨w, g, ⟨-, hx, hg, rfl⟩, rfl⟩ ⟨j, rfl, hj, rfl, rfl⟩
  have hgj : j = g := nI_i (by omega) (by omega) hx
  subst hgj
  exact ⟨rfl, by rw [up0, e1], hI, hJ, ⟨⟨d1, d2, d3, d4, d5, d6, d7, d8, d9⟩, ⟨e0, (show upd (M.2 1) j v = upd (S.2.1 4) j v by rw [e1]), e2, e3, e4, e5, e6, e7, e8, e17⟩, ⟨f12, f13, f20, f14, f15⟩⟩, hT, hJn, hH, hQ⟩

theorem op_addRule : Op_addRule := by
  intro S M fo u1 u2 f g t r1 r2 hR h1 h2
  obtain ⟨hI, hJ, ⟨⟨d1, d2, d3, d4, d5, d6, d7, d8, d9⟩, ⟨e0, e1, e2, e3, e4, e5, e6, e7, e8, e17⟩, ⟨f12, f13, f20, f14, f15⟩⟩, hT, hJn, hH, hQ⟩ := id hR
  obtain ⟨i0, i1, i2, i3, i4, i5, i6, i7, i8, iJ, iH, iG, iQ⟩ := id hI
  refine op_of hR (by rw [d3, d8]) cdAddRule_le (fun ⟨_, h, _⟩ => h.1) h1 h2 ?_
  rintro ⟨v, ⟨hc, rfl⟩, rfl⟩ ⟨rfl, rfl⟩
  have hd : ¬ S.1 2 = 8 := by
    intro h
    rw [cdAddRule, if_pos h] at hc
    split at hc <;> cases hc
  exact ⟨rfl, by rw [up0, d3], ⟨i0, i1, (show S.1 2 + 1 ≤ 8 by omega), i3, i4, i5, i6, i7, i8, iJ, iH, iG, iQ⟩, hJ, ⟨⟨d1, d2, (show M.1 3 + 1 = S.1 2 + 1 by rw [d3]), d4, d5, d6, d7, d8, d9⟩, ⟨e0, e1, (show upd (M.2 2) (M.1 3) f = upd (S.2.1 5) (S.1 2) f by rw [e2, d3]), (show upd (M.2 3) (M.1 3) g = upd (S.2.1 6) (S.1 2) g by rw [e3, d3]), (show upd (M.2 4) (M.1 3) t = upd (S.2.1 7) (S.1 2) t by rw [e4, d3]), e5, e6, e7, e8, e17⟩, ⟨f12, f13, f20, f14, f15⟩⟩, hT, hJn, hH, hQ⟩

theorem op_addSpan : Op_addSpan := by
  intro S M fo u1 u2 d f g t r1 r2 hR h1 h2
  obtain ⟨hI, hJ, ⟨⟨d1, d2, d3, d4, d5, d6, d7, d8, d9⟩, ⟨e0, e1, e2, e3, e4, e5, e6, e7, e8, e17⟩, ⟨f12, f13, f20, f14, f15⟩⟩, hT, hJn, hH, hQ⟩ := id hR
  obtain ⟨i0, i1, i2, i3, i4, i5, i6, i7, i8, iJ, iH, iG, iQ⟩ := id hI
  refine op_of hR (by rw [d1, d4, d8]) cdAddSpan_le (fun ⟨_, h, _⟩ => h.1) h1 h2 ?_
  rintro ⟨v, ⟨hc, rfl⟩, rfl⟩ ⟨rfl, rfl⟩
  have hd : ¬ S.1 3 = 12 := by
    intro h
    rw [cdAddSpan, if_pos h] at hc
    repeat' split at hc
    all_goals cases hc
  exact ⟨rfl, by rw [up0, d4], ⟨i0, i1, i2, (show S.1 3 + 1 ≤ 12 by omega), i4, i5, i6, i7, i8, iJ, iH, iG, iQ⟩, hJ, ⟨⟨d1, d2, d3, (show M.1 4 + 1 = S.1 3 + 1 by rw [d4]), d5, d6, d7, d8, d9⟩, ⟨e0, e1, e2, e3, e4, (show upd (M.2 5) (M.1 4) d = upd (S.2.1 8) (S.1 3) d by rw [e5, d4]), (show upd (M.2 6) (M.1 4) f = upd (S.2.1 9) (S.1 3) f by rw [e6, d4]), (show upd (M.2 7) (M.1 4) g = upd (S.2.1 10) (S.1 3) g by rw [e7, d4]), (show upd (S.2.1 11) (S.1 3) t = lfd (M.2 17) (upd (M.2 8) (M.1 4) t) by rw [e8, d4, lfd_ad (e17 _ (Nat.le_refl _))]), fun k hk => (show M.2 17 k = 0 from e17 k (Nat.le_of_succ_le (show S.1 3 + 1 ≤ k from hk)))⟩, ⟨f12, f13, f20, f14, f15⟩⟩, hT, hJn, hH, hQ⟩

theorem op_setPrice : Op_setPrice := by
  intro S M fo u1 u2 z r1 r2 hR h1 h2
  obtain ⟨hI, hJ, ⟨⟨d1, d2, d3, d4, d5, d6, d7, d8, d9⟩, ⟨e0, e1, e2, e3, e4, e5, e6, e7, e8, e17⟩, ⟨f12, f13, f20, f14, f15⟩⟩, hT, hJn, hH, hQ⟩ := id hR
  obtain ⟨i0, i1, i2, i3, i4, i5, i6, i7, i8, iJ, iH, iG, iQ⟩ := id hI
  refine op_of hR rfl cdPrice_le (fun ⟨_, _, h, _⟩ => h.1) h1 h2 ?_
  rintro ⟨v, g, ⟨-, hx, hg, rfl⟩, rfl⟩ ⟨j, rfl, hj, rfl, rfl⟩
  have hgj : j = g := nI_i (by omega) (by omega) hx
  subst hgj
  exact ⟨rfl, by rw [up0, d7], ⟨i0, i1, i2, i3, i4, i5, i6, i7, hg, iJ, iH, iG, iQ⟩, hJ, ⟨⟨d1, d2, d3, d4, d5, d6, rfl, d8, d9⟩, ⟨e0, e1, e2, e3, e4, e5, e6, e7, e8, e17⟩, ⟨f12, f13, f20, f14, f15⟩⟩, hT, hJn, hH, hQ⟩

theorem op_pay : Op_pay := by
  intro S M fo u1 u2 a z r1 r2 hR h1 h2
  obtain ⟨hI, hJ, ⟨⟨d1, d2, d3, d4, d5, d6, d7, d8, d9⟩, ⟨e0, e1, e2, e3, e4, e5, e6, e7, e8, e17⟩, ⟨f12, f13, f20, f14, f15⟩⟩, hT, hJn, hH, hQ⟩ := id hR
  obtain ⟨i0, i1, i2, i3, i4, i5, i6, i7, i8, iJ, iH, iG, iQ⟩ := id hI
  refine op_of hR (by rw [f15]) cdPay_le (fun ⟨_, _, h, _⟩ => h.1) h1 h2 ?_
  rintro ⟨v, g, ⟨-, hx, hg, rfl⟩, rfl⟩ ⟨j, rfl, hj, rfl, rfl⟩
  have hgj : j = g := nI_i (by omega) (by omega) hx
  subst hgj
  exact ⟨rfl, by rw [up0, f15], hI, hJ, ⟨⟨d1, d2, d3, d4, d5, d6, d7, d8, d9⟩, ⟨e0, e1, e2, e3, e4, e5, e6, e7, e8, e17⟩, ⟨f12, f13, f20, f14, (show upd (M.2 15) j (M.2 15 j - z) = upd (S.2.1 0) j (S.2.1 0 j - z) by rw [f15])⟩⟩, hT, hJn, hH, hQ⟩

theorem op_pass : Op_pass := by
  intro S M fo u1 u2 z r1 r2 hR h1 h2
  obtain ⟨hI, hJ, ⟨⟨d1, d2, d3, d4, d5, d6, d7, d8, d9⟩, ⟨e0, e1, e2, e3, e4, e5, e6, e7, e8, e17⟩, ⟨f12, f13, f20, f14, f15⟩⟩, hT, hJn, hH, hQ⟩ := id hR
  obtain ⟨i0, i1, i2, i3, i4, i5, i6, i7, i8, iJ, iH, iG, iQ⟩ := id hI
  refine op_of hR (by rw [d8]) cdPass_le (fun ⟨_, _, h, _⟩ => h.1) h1 h2 ?_
  rintro ⟨v, g, ⟨-, hx, ⟨g1, g2, g3⟩, rfl⟩, rfl⟩ ⟨j, rfl, ⟨j1, j2, j3⟩, rfl, rfl⟩
  have hgj : j = g := nI_i (by omega) (by omega) hx
  subst hgj
  exact ⟨rfl, by rw [up0, d6, f20, f14, d8], ⟨i0, i1, i2, i3, i4, i5, i6, g3, i8, iJ, iH, iG, iQ⟩, hJ, ⟨⟨d1, d2, d3, d4, d5, d6, d7, (show M.1 8 + j = S.1 7 + j by rw [d8]), d9⟩, ⟨e0, e1, e2, e3, e4, e5, e6, e7, e8, e17⟩, ⟨f12, f13, f20, f14, f15⟩⟩, hT, hJn, hH, hQ⟩
