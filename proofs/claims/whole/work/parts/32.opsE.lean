theorem gr_facts {T : SA} (hI : IA T) : ∀ i, i ≤ 5 → (grS T i).1 = T.1 ∧ (grS T i).2.1 = T.2.1 ∧ (grS T i).2.2 1 = T.2.2 1 ∧ (grS T i).2.2 2 = T.2.2 2 ∧ (∀ a, a < i → mk ((grS T i).2.2 0 a) = cloA T (mk (T.2.2 0 a))) ∧ (∀ a, i ≤ a → (grS T i).2.2 0 a = T.2.2 0 a)
  | 0, _ => ⟨rfl, rfl, rfl, rfl, fun a h => absurd h (Nat.not_lt_zero a), fun _ _ => rfl⟩
  | i + 1, h => by
    obtain ⟨h1, h2, h3, h4, h5, h6⟩ := gr_facts hI i (by omega)
    have hcl : ∀ y, cloA (grS T i) y = cloA T y := fun y => by unfold cloA; rw [h1, h3, h4]
    have hc : cloA T (mk (T.2.2 0 i)) < 2 ^ 40 := clo_lt (hI.2.2.2.2.2.2.2.2.2.2.1 i (by omega)) (fun j hj => (hI.2.2.2.2.2.2.2.2.2.1 j hj).2)
    refine ⟨h1, h2, h3, h4, fun a ha => ?_, fun a ha => ?_⟩
    · show mk (vp_updL ((grS T i).2.2 0) i (lN (cloA (grS T i) (mk ((grS T i).2.2 0 i)))) a) = _
      rw [hcl, h6 i (Nat.le_refl _)]
      by_cases h7 : a = i
      · subst h7; rw [vp_updL, if_pos rfl, mk_lN (Nat.lt_trans hc (by decide))]
      · rw [vp_updL, if_neg h7]; exact h5 a (by omega)
    · show vp_updL ((grS T i).2.2 0) i _ a = _
      rw [vp_updL, if_neg (by omega)]; exact h6 a (by omega)
theorem relJ_jn {S : SA} {M : SM} (hR : Rel S M) {a b t : Nat} (ha : a < S.1 1) (hb : b < S.1 1) (ht : t < S.1 1) : ∀ j, j < S.1 4 + 1 → (ix (upd (M.2 9) (M.1 5) (nI a) j) < S.1 1 ∧ ix (upd (M.2 10) (M.1 5) (nI b) j) < S.1 1 ∧ ix (upd (M.2 11) (M.1 5) (nI t) j) < S.1 1) ∧ mk ((jnS S a b t).2.2 1 j) = 2 ^ ix (upd (M.2 9) (M.1 5) (nI a) j) ||| 2 ^ ix (upd (M.2 10) (M.1 5) (nI b) j) ∧ mk ((jnS S a b t).2.2 2 j) = 2 ^ ix (upd (M.2 11) (M.1 5) (nI t) j) := by
  intro j hj
  have i1 : S.1 1 ≤ 40 := hR.1.2.1
  have d5 : M.1 5 = S.1 4 := hR.2.2.1.1.2.2.2.2.1
  show _ ∧ mk (vp_updL (S.2.2 1) (S.1 4) (lN (2 ^ a ||| 2 ^ b)) j) = _ ∧ mk (vp_updL (S.2.2 2) (S.1 4) (lN (2 ^ t)) j) = _
  rw [d5]
  by_cases h : j = S.1 4
  · subst h
    have h1 : 2 ^ a ||| 2 ^ b < 2 ^ 40 := Nat.or_lt_two_pow (bit40 (by omega)) (bit40 (by omega))
    have h2 : 2 ^ t < 2 ^ 40 := bit40 (by omega)
    simp only [vp_updL, upd, if_true]
    rw [ix_nI (by omega), ix_nI (by omega), ix_nI (by omega), mk_lN (Nat.lt_trans h1 (by decide)), mk_lN (Nat.lt_trans h2 (by decide))]
    exact ⟨⟨ha, hb, ht⟩, rfl, rfl⟩
  · simp only [vp_updL, upd, if_neg h]
    exact hR.2.2.2.2.1 j (by omega)
theorem cloT_eq {S : SA} {M : SM} (hR : Rel S M) {a b t : Nat} (ha : a < S.1 1) (hb : b < S.1 1) (ht : t < S.1 1) (x : Nat) : cloA (jnS S a b t) x = cloM (jnM M a b t) x := by
  unfold cloA cloM cloP
  have d5 : M.1 5 = S.1 4 := hR.2.2.1.1.2.2.2.2.1
  rw [show (jnM M a b t).1 5 = M.1 5 + 1 from rfl, d5, show (jnS S a b t).1 4 = S.1 4 + 1 from rfl]
  exact clo_cong fun j hj => (relJ_jn hR ha hb ht j hj).2
theorem cloM_lt {M : SM} {x n : Nat} (hx : x < 2 ^ n) (h : ∀ j, j < M.1 5 → ix (M.2 11 j) < n) : cloM M x < 2 ^ n := by
  have h1 : subM (cloM M x) (2 ^ n - 1) := by
    refine clo_sub (fun j hj _ _ => ?_) (fun k hk => ?_)
    · rw [Nat.testBit_two_pow_sub_one]
      exact decide_eq_true (h j hj)
    · rw [Nat.testBit_two_pow_sub_one]
      refine decide_eq_true (Nat.not_le.mp fun h2 => ?_)
      rw [Nat.testBit_lt_two_pow (Nat.lt_of_lt_of_le hx (Nat.pow_le_pow_right (by decide) h2))] at hk
      cases hk
  refine Nat.lt_pow_two_of_testBit _ fun k hk => ?_
  cases hb : (cloM M x).testBit k
  · rfl
  · have h2 := h1 k hb
    rw [Nat.testBit_two_pow_sub_one] at h2
    have h3 := of_decide_eq_true h2
    omega
theorem clo_jn {S : SA} {M : SM} (hR : Rel S M) {a b t : Nat} (ha : a < S.1 1) (hb : b < S.1 1) (ht : t < S.1 1) (x : Nat) : cloA (jnS S a b t) (cloA S x) = cloA (jnS S a b t) x := by
  have d5 : M.1 5 = S.1 4 := hR.2.2.1.1.2.2.2.2.1
  rw [cloT_eq hR ha hb ht, cloT_eq hR ha hb ht, cloA_eq hR]
  have h : cloM M x = cloP (jp (jnM M a b t)) (jq (jnM M a b t)) (jt (jnM M a b t)) (M.1 5) x := by
    unfold cloM cloP
    refine clo_cong fun j hj => ?_
    have hne : ¬ j = M.1 5 := by omega
    constructor
    · show 2 ^ ix (M.2 9 j) ||| 2 ^ ix (M.2 10 j) = 2 ^ ix (upd (M.2 9) (M.1 5) (nI a) j) ||| 2 ^ ix (upd (M.2 10) (M.1 5) (nI b) j)
      rw [upd_ne hne, upd_ne hne]
    · show 2 ^ ix (M.2 11 j) = 2 ^ ix (upd (M.2 11) (M.1 5) (nI t) j)
      rw [upd_ne hne]
  rw [h]
  exact clo_more (Nat.le_succ _)
theorem op_addJoin : Op_addJoin := by
  intro S M fo u1 u2 a b t r1 r2 hR h1 h2
  obtain ⟨hI, hJ, ⟨⟨d1, d2, d3, d4, d5, d6, d7, d8, d9⟩, ⟨e0, e1, e2, e3, e4, e5, e6, e7, e8, e17⟩, ⟨f12, f13, f20, f14, f15⟩⟩, hT, hJn, hH, hQ⟩ := id hR
  have i1 : S.1 1 ≤ 40 := hI.2.1
  have i4 : S.1 4 ≤ 10 := hI.2.2.2.2.1
  refine op_of hR (by rw [d2, d5]) cdAddJoin_le (fun ⟨_, _, h, _⟩ => h.1) h1 h2 ?_
  clear h1 h2
  rintro ⟨w, ⟨ga, gb, gt⟩, ⟨hc, ⟨ea, eb, et⟩, ⟨ga1, gb1, gt1⟩, rfl⟩, rfl⟩ ⟨ja, jb, jt2, h, ⟨rfl, rfl, rfl⟩, ⟨ja1, jb1, jt1⟩, hrow, rfl, rfl⟩
  have ga1 : ga < S.1 1 := ga1
  have gb1 : gb < S.1 1 := gb1
  have gt1 : gt < S.1 1 := gt1
  have q1 : ja = ga := nI_i (by omega) (by omega) ea
  have q2 : jb = gb := nI_i (by omega) (by omega) eb
  have q3 : jt2 = gt := nI_i (by omega) (by omega) et
  subst q1; subst q2; subst q3
  have ga2 : ja < S.1 1 := ga1
  have gb2 : jb < S.1 1 := gb1
  have gt2 : jt2 < S.1 1 := gt1
  have hn10 : ¬ S.1 4 = 10 := by
    intro h9
    rw [cdAddJoin, if_pos h9] at hc
    repeat' split at hc
    all_goals cases hc
  have hIT : IA (jnS S ja jb jt2) := IA_jn hI (by omega) (by omega) (by omega) (by omega)
  obtain ⟨g1, g2, g3, g4, g5, -⟩ := gr_facts hIT 5 (Nat.le_refl _)
  have hcl : ∀ y, cloA (grS (jnS S ja jb jt2) 5) y = cloA (jnS S ja jb jt2) y := fun y => by unfold cloA; rw [g1, g3, g4]
  have hlg : ∀ z, lgA (grS (jnS S ja jb jt2) 5) z = lgA S z := fun z => by unfold lgA; rw [g1, g2]; rfl
  refine ⟨rfl, by rw [up0, d5], IA_gr hIT 5 (Nat.le_refl _), ⟨?_, ?_⟩, ⟨⟨?_, ?_, ?_, ?_, ?_, ?_, ?_, ?_, ?_⟩, ⟨?_, ?_, ?_, ?_, ?_, ?_, ?_, ?_, ?_, ?_⟩, ⟨?_, ?_, ?_, ?_, ?_⟩⟩, ?_, ?_, ?_, ?_⟩
  · intro z hz k hk
    rw [hlg] at hk
    unfold hb
    rw [g5 z hz, cloT_eq hR ga2 gb2 gt2]
    exact clo_up _ _ _ _ _ k (hJ.1 z hz k hk)
  · rw [g1]
    show S.1 5 = _
    rw [hJ.2]
    simp only [hlg]
  all_goals try (first | (rw [g1]; first | exact d1 | exact d2 | exact d3 | exact d4 | exact d6 | exact d7 | exact d8 | exact d9 | exact e17 | exact congrArg (· + 1) d5) | (rw [g2]; first | exact e0 | exact e1 | exact e2 | exact e3 | exact e4 | exact e5 | exact e6 | exact e7 | exact e8 | exact e17 | exact f12 | exact f13 | exact f20 | exact f14 | exact f15))
  · unfold RelT
    rw [g1, g2]
    exact hT
  · intro j hj
    rw [g1] at hj
    rw [g1, g3, g4]
    exact relJ_jn hR ga2 gb2 gt2 j hj
  · intro z hz
    rw [g5 z hz, hcl, hlg, g1]
    obtain ⟨b1, b2, b3, b4⟩ := hH z hz
    refine ⟨?_, ?_, b3, ?_⟩
    · rw [show cloA (jnS S ja jb jt2) (mk ((jnS S ja jb jt2).2.2 0 z)) = cloM (jnM M ja jb jt2) (mk (S.2.2 0 z)) from cloT_eq hR ga2 gb2 gt2 _]
      exact hrow z hz
    · rw [show cloA (jnS S ja jb jt2) (mk ((jnS S ja jb jt2).2.2 0 z)) = cloM (jnM M ja jb jt2) (mk (S.2.2 0 z)) from cloT_eq hR ga2 gb2 gt2 _]
      refine cloM_lt b2 fun j hj => ?_
      exact (relJ_jn hR ga2 gb2 gt2 j (by rw [← d5]; exact hj)).1.2.2
    · show cloA (jnS S ja jb jt2) (lgA S z) = cloA (jnS S ja jb jt2) (mk (S.2.2 0 z))
      rw [← b4, clo_jn hR ga2 gb2 gt2]
  · unfold RelQ
    rw [g1, g2]
    exact hQ
