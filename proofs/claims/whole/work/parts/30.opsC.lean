theorem req_inv {nd nq : Nat} {ow : Nat → Int32} {wt : Bool} {a d : Int32} (h : cdReq nd nq ow wt a d = 0) : inR a 5 = true ∧ ¬ nq = 20 := by
  unfold cdReq at h
  split at h
  · cases h
  · rename_i h1
    split at h
    · cases h
    · split at h
      · cases h
      · split at h
        · cases h
        · rename_i h4
          exact ⟨by simpa using h1, fun h5 => h4 (by simp [h5])⟩
theorem idxN_cong {f f' : Nat → Int32} {k : Nat} (h : ∀ z, z ≤ k → f' z = f z) : idxN f' k = idxN f k := by
  unfold idxN
  exact fb_ct_cong fun z hz => by rw [h z (by omega), h k (Nat.le_refl _)]
theorem upd_at {f : Nat → Int32} {i : Nat} {v : Int32} : upd f i v i = v := by simp [upd]
theorem upd_ne {f : Nat → Int32} {i k : Nat} {v : Int32} (h : ¬ k = i) : upd f i v k = f k := by simp [upd, h]
theorem share_c0 : ∀ k, k < 21 → ∀ n, n < 21 → 0 < n → Op.cmpValue (FP.dcmp (FP.f2d (FP.fdiv (FP.i2f (nI k)) (FP.i2f (nI n)))) (FP.f2d (FP.fdiv (FP.i2f (nI k)) (FP.i2f (nI n))))) .l = nI 0 := by decide +kernel
theorem op_request : Op_request := by
  intro S M fo u1 u2 a d r1 r2 hR h1 h2
  obtain ⟨hI, hJ, ⟨⟨d1, d2, d3, d4, d5, d6, d7, d8, d9⟩, ⟨e0, e1, e2, e3, e4, e5, e6, e7, e8, e17⟩, ⟨f12, f13, f20, f14, f15⟩⟩, hT, hJn, hH, hQ⟩ := id hR
  obtain ⟨i0, i1, i2, i3, i4, i5, i6, i7, i8, iJ, iH, iG, iQ⟩ := id hI
  refine op_of hR (by rw [d1, d6, f15, f20, f12, f13]) cdReq_le (fun ⟨_, h, _⟩ => h.1) h1 h2 ?_
  rintro ⟨v, ⟨hc, rfl⟩, rfl⟩ ⟨rfl, rfl⟩
  obtain ⟨ha, hq20⟩ := req_inv hc
  clear h1 h2
  obtain ⟨ja, hja, rfl⟩ := inR_of (by omega) ha
  have hq5 : ∀ k, k < S.1 6 + 1 → ix (upd (S.2.1 15) (S.1 6) (nI ja) k) < 5 := by
    intro k hk
    by_cases h : k = S.1 6
    · rw [h, upd_at, ix_nI (by omega)]; exact hja
    · rw [upd_ne h]; exact hQ.2 k (by omega)
  refine ⟨rfl, by rw [up0, d6], ⟨i0, i1, i2, i3, i4, i5, (show S.1 6 + 1 ≤ 20 by omega), i7, i8, iJ, iH, iG, hq5⟩, hJ, ⟨⟨d1, d2, d3, d4, d5, (show M.1 6 + 1 = S.1 6 + 1 by rw [d6]), d7, d8, d9⟩, ⟨e0, e1, e2, e3, e4, e5, e6, e7, e8, e17⟩, ⟨(show upd (M.2 12) (M.1 6) (nI ja) = upd (S.2.1 15) (S.1 6) (nI ja) by rw [f12, d6]), (show upd (M.2 13) (M.1 6) d = upd (S.2.1 16) (S.1 6) d by rw [f13, d6]), (show upd (M.2 20) (M.1 6) (nI 119) = upd (S.2.1 17) (S.1 6) (nI 119) by rw [f20, d6]), (show upd (M.2 14) (M.1 6) (nI (M.1 8)) = upd (S.2.1 18) (S.1 6) (nI (S.1 7)) by rw [f14, d6, d8]), f15⟩⟩, hT, hJn, hH, fun z hz => ?_, hq5⟩
  show upd (S.2.1 17) (S.1 6) (nI 119) z = nI 119 ∨ upd (S.2.1 17) (S.1 6) (nI 119) z = nI 97 ∨ upd (S.2.1 17) (S.1 6) (nI 119) z = nI 120
  have hz2 : z < S.1 6 + 1 := hz
  by_cases h : z = S.1 6
  · rw [h, upd_at]; exact Or.inl rfl
  · rw [upd_ne h]; exact hQ.1 z (by omega)

theorem op_addLine : Op_addLine := by
  intro S M fo u1 u2 d v r1 r2 hR h1 h2
  obtain ⟨hI, hJ, ⟨⟨d1, d2, d3, d4, d5, d6, d7, d8, d9⟩, ⟨e0, e1, e2, e3, e4, e5, e6, e7, e8, e17⟩, ⟨f12, f13, f20, f14, f15⟩⟩, hT, hJn, hH, hQ⟩ := id hR
  obtain ⟨i0, i1, i2, i3, i4, i5, i6, i7, i8, iJ, iH, iG, iQ⟩ := id hI
  refine op_of hR (by rw [d1, d2]) cdAddLine_le (fun ⟨_, _, h, _⟩ => h.1) h1 h2 ?_
  rintro ⟨w, g, ⟨hc, rfl, hg, rfl⟩, rfl⟩ ⟨rfl, rfl⟩
  have hd : ¬ S.1 1 = 40 := by
    intro h
    rw [cdAddLine, if_pos h] at hc
    repeat' split at hc
    all_goals cases hc
  have hg8 : g < 8 := by omega
  refine ⟨rfl, by rw [up0, d2], ⟨i0, (show S.1 1 + 1 ≤ 40 by omega), i2, i3, i4, i5, i6, i7, i8, iJ, iH, iG, iQ⟩, hJ, ⟨⟨d1, (show M.1 2 + 1 = S.1 1 + 1 by rw [d2]), d3, d4, d5, d6, d7, d8, d9⟩, ⟨(show upd (M.2 0) (M.1 2) (nI g) = upd (S.2.1 2) (S.1 1) (nI g) by rw [e0, d2]), (show upd (M.2 1) (M.1 2) v = upd (S.2.1 4) (S.1 1) v by rw [e1, d2]), e2, e3, e4, e5, e6, e7, e8, e17⟩, ⟨f12, f13, f20, f14, f15⟩⟩, ⟨?_, ?_, ?_⟩, ?_, ?_, hQ⟩
  · intro k hk
    have hk2 : k < S.1 1 + 1 := hk
    show upd (S.2.1 3) (S.1 1) (S.2.1 1 g) k = nI (idxN (upd (S.2.1 2) (S.1 1) (nI g)) k)
    by_cases h : k = S.1 1
    · subst h
      rw [upd_at, hT.2.1 g hg8]
      congr 1
      unfold idxN
      exact fb_ct_cong fun z hz => by rw [upd_at, upd_ne (by omega)]
    · rw [upd_ne h, hT.1 k (by omega), idxN_cong (f := S.2.1 2) (fun z hz => upd_ne (by omega))]
  · intro q hq
    show upd (S.2.1 1) g (S.2.1 1 g + nI 1) q = nI (fb_ct (fun k => decide (upd (S.2.1 2) (S.1 1) (nI g) k = nI q)) (S.1 1 + 1))
    rw [fb_ct_succ, fb_ct_cong (q := fun k => decide (S.2.1 2 k = nI q)) (fun z hz => by rw [upd_ne (by omega)]), upd_at]
    by_cases h : q = g
    · subst h
      rw [upd_at, hT.2.1 q hq, nI_add]
      simp
    · have h3 : ¬ nI g = nI q := fun h4 => h (nI_i (by omega) (by omega) h4).symm
      rw [upd_ne h, hT.2.1 q hq]
      simp [h3]
  · intro k hk
    have hk2 : k < S.1 1 + 1 := hk
    show ∃ j, j < S.1 0 ∧ upd (S.2.1 2) (S.1 1) (nI g) k = nI j
    by_cases h : k = S.1 1
    · exact ⟨g, hg, by rw [h, upd_at]⟩
    · rw [upd_ne h]; exact hT.2.2 k (by omega)
  · intro j hj
    obtain ⟨⟨b1, b2, b3⟩, b4⟩ := hJn j hj
    exact ⟨⟨(show _ < S.1 1 + 1 from Nat.lt_succ_of_lt b1), (show _ < S.1 1 + 1 from Nat.lt_succ_of_lt b2), (show _ < S.1 1 + 1 from Nat.lt_succ_of_lt b3)⟩, b4⟩
  · intro z hz
    obtain ⟨b1, b2, b3, b4⟩ := hH z hz
    exact ⟨b1, Nat.lt_of_lt_of_le b2 (Nat.pow_le_pow_right (by decide) (Nat.le_succ _)), b3, b4⟩

theorem op_answeredShare : Op_answeredShare := by
  intro S M fo u1 u2 r1 r2 hR h1 h2
  obtain ⟨hI, hJ, ⟨⟨d1, d2, d3, d4, d5, d6, d7, d8, d9⟩, ⟨e0, e1, e2, e3, e4, e5, e6, e7, e8, e17⟩, ⟨f12, f13, f20, f14, f15⟩⟩, hT, hJn, hH, hQ⟩ := id hR
  obtain ⟨i0, i1, i2, i3, i4, i5, i6, i7, i8, iJ, iH, iG, iQ⟩ := id hI
  refine op_of hR (by rw [d6]) cdShare_le (fun ⟨_, h, _⟩ => h.1) h1 h2 ?_
  rintro ⟨v, ⟨hc, rfl⟩, rfl⟩ ⟨rfl, rfl⟩
  have hn : ¬ S.1 6 = 0 := by
    intro h
    rw [cdShare, if_pos h] at hc
    cases hc
  have hct := fb_ct_le (fun k => decide (S.2.1 17 k = nI 97)) (S.1 6)
  refine ⟨rfl, ?_, hR.th _⟩
  rw [f20, d6]
  refine ⟨share_d0 _ (by omega) _ (by omega) (by omega), ?_⟩
  have h0 : (S, vf_upd fo 0 (FP.f2d (shareF (fb_ct (fun k => decide (S.2.1 17 k = nI 97)) (S.1 6)) (S.1 6)))).2 0 = FP.f2d (shareF (fb_ct (fun k => decide (S.2.1 17 k = nI 97)) (S.1 6)) (S.1 6)) := by simp [vf_upd]
  rw [h0]
  exact share_c0 _ (by omega) _ (by omega) (by omega)
