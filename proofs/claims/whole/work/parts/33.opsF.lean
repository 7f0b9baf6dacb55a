/-! the answer: gift by gift, class and model go the same way -/
def rowF (T : SA) : Nat → Int32 := fun z => bI ((mk (T.2.2 0 (z / 40))).testBit (z % 40))
theorem rowF_b (T : SA) (z : Nat) : rowB (rowF T) (40 * z) 40 (mk (T.2.2 0 z)) := by
  intro q hq
  unfold rowF
  rw [show (40 * z + q) / 40 = z by omega, show (40 * z + q) % 40 = q by omega]
def gNN (M : SM) (A B C : Nat → Int32) (D : Nat) : SM := mN (mI (mI (mI M 15 A) 16 B) 18 C) 9 D
theorem cloA_add {S : SA} {M : SM} (hR : Rel S M) (x k : Nat) : cloA S (cloA S x ||| 2 ^ k) = cloA S (x ||| 2 ^ k) := by
  rw [cloA_eq hR, cloA_eq hR, cloA_eq hR]
  exact clo_add
theorem upd_upd {f : Nat → Int32} {a : Nat} {x y : Int32} : upd (upd f a x) a y = upd f a y := by
  funext z
  by_cases hc : z = a
  · rw [hc, upd_at, upd_at]
  · rw [upd_ne hc, upd_ne hc, upd_ne hc]
theorem upd_id {f : Nat → Int32} {a : Nat} {x : Int32} (h : x = f a) : upd f a x = f := by
  funext z
  by_cases hc : z = a
  · rw [hc, upd_at, h]
  · rw [upd_ne hc]
theorem row_gi {T : SA} (hI : IA T) {a k : Nat} (ha : a < 5) (hk : k < 40) (z : Nat) : mk ((giS T a k).2.2 0 z) = if z = a then cloA T (mk (T.2.2 0 a) ||| 2 ^ k) else mk (T.2.2 0 z) := by
  show mk (vp_updL (T.2.2 0) a (lN (cloA T (mk (T.2.2 0 a) ||| 2 ^ k))) z) = _
  by_cases hc : z = a
  · have h1 : cloA T (mk (T.2.2 0 a) ||| 2 ^ k) < 2 ^ 40 := clo_lt (Nat.or_lt_two_pow (hI.2.2.2.2.2.2.2.2.2.2.1 a ha) (bit40 hk)) (fun j hj => (hI.2.2.2.2.2.2.2.2.2.1 j hj).2)
    rw [if_pos hc, vp_updL, if_pos hc, mk_lN (Nat.lt_trans h1 (by decide))]
  · rw [if_neg hc, vp_updL, if_neg hc]
theorem rel_gi {T : SA} {M : SM} {A B C : Nat → Int32} {D : Nat} (hR : Rel T (gNN M A B C D)) {a k : Nat} (ha : a < 5) (hk : k < T.1 1) (hf : freeB T a k = true) : Rel (giS T a k) (gNN M (upd A a (A a + nI (M.1 7))) (upd B a (B a + nI 1)) (rowF (giS T a k)) (D + M.1 7)) := by
  obtain ⟨hI, hJ, ⟨⟨d1, d2, d3, d4, d5, d6, d7, d8, d9⟩, ⟨e0, e1, e2, e3, e4, e5, e6, e7, e8, e17⟩, ⟨f12, f13, f20, f14, f15⟩⟩, hT, hJn, hH, hQ⟩ := id hR
  have k40 : k < 40 := by
    have := hI.2.1
    omega
  have d7' : M.1 7 = T.1 8 := d7
  have d9' : D = T.1 9 := d9
  have f15' : A = T.2.1 0 := f15
  have hfl := lg_free hJ ha hf
  refine ⟨IA_gi hI ha k40 (gv_cap hJ hI ha k40 hf), JA_gi hI hJ ha k40 hf, ⟨⟨d1, d2, d3, d4, d5, d6, d7, d8, ?_⟩, ⟨e0, e1, e2, e3, e4, e5, e6, e7, e8, e17⟩, ⟨f12, f13, f20, f14, ?_⟩⟩, hT, hJn, fun z hz => ⟨rowF_b _ z, ?_, ?_, ?_⟩, hQ⟩
  · show D + M.1 7 = T.1 9 + T.1 8
    rw [d7', d9']
  · show upd A a (A a + nI (M.1 7)) = upd (T.2.1 0) a (T.2.1 0 a + nI (T.1 8))
    rw [d7', f15']
  · rw [row_gi hI ha k40]
    show _ < 2 ^ T.1 1
    by_cases hc : z = a
    · rw [if_pos hc, cloA_eq hR]
      refine cloM_lt (Nat.or_lt_two_pow (hH a ha).2.1 (Nat.pow_lt_pow_right (by decide) hk)) fun j hj => ?_
      exact (hJn j (by rw [← d5]; exact hj)).1.2.2
    · rw [if_neg hc]
      exact (hH z hz).2.1
  · show upd B a (B a + nI 1) z = _
    have h0 : B z = nI (fb_ct (fun k => (lgA T z).testBit k) 40) := (hH z hz).2.2.1
    by_cases hc : z = a
    · rw [hc, upd_at, ← hc, h0, nI_add, hc, ← ct_set k40 hfl]
      congr 2
      funext j
      rw [lg_gi k40 ha ha, if_pos rfl]
    · rw [upd_ne hc, h0]
      congr 2
      funext j
      rw [lg_gi k40 ha hz, if_neg hc]
  · rw [row_gi hI ha k40, lg_gi k40 ha hz]
    show cloA T _ = _
    have h0 : cloA T (lgA T z) = mk (T.2.2 0 z) := (hH z hz).2.2.2
    by_cases hc : z = a
    · rw [if_pos hc, if_pos hc, ← cloA_add hR, h0, hc]
    · rw [if_neg hc, if_neg hc, h0]
theorem gv_rel {T : SA} {M : SM} {a : Nat} {d : Int32} (ha : a < 5) (hR : Rel T M) : ∀ i, i ≤ T.1 1 → Rel (gvS T a d i) (gNN M (upd (M.2 15) a (M.2 15 a + nI (M.1 7 * amc M d (mk (T.2.2 0 a)) i))) (upd (M.2 16) a (M.2 16 a + nI (amc M d (mk (T.2.2 0 a)) i))) (rowF (gvS T a d i)) (M.1 9 + M.1 7 * amc M d (mk (T.2.2 0 a)) i)) ∧ mk ((gvS T a d i).2.2 0 a) = amk M d (mk (T.2.2 0 a)) i ∧ gvC T a d i = amc M d (mk (T.2.2 0 a)) i ∧ ∀ z, ¬ z = a → (gvS T a d i).2.2 0 z = T.2.2 0 z
  | 0, _ => by
    obtain ⟨hI, hJ, ⟨⟨d1, d2, d3, d4, d5, d6, d7, d8, d9⟩, ⟨e0, e1, e2, e3, e4, e5, e6, e7, e8, e17⟩, ⟨f12, f13, f20, f14, f15⟩⟩, hT, hJn, hH, hQ⟩ := id hR
    refine ⟨⟨hI, hJ, ⟨⟨d1, d2, d3, d4, d5, d6, d7, d8, d9⟩, ⟨e0, e1, e2, e3, e4, e5, e6, e7, e8, e17⟩, ⟨f12, f13, f20, f14, ?_⟩⟩, hT, hJn, fun z hz => ⟨rowF_b _ z, (hH z hz).2.1, ?_, (hH z hz).2.2.2⟩, hQ⟩, rfl, rfl, fun _ _ => rfl⟩
    · show upd (M.2 15) a (M.2 15 a + nI (M.1 7 * 0)) = T.2.1 0
      rw [upd_id (by rw [Nat.mul_zero, nI_0, Int32.add_zero])]
      exact f15
    · show upd (M.2 16) a (M.2 16 a + nI 0) z = _
      rw [upd_id (by rw [nI_0, Int32.add_zero])]
      exact (hH z hz).2.2.1
  | i + 1, hi => by
    obtain ⟨h1, h2, h3, h4⟩ := gv_rel (d := d) ha hR i (by omega)
    have e0 : M.2 0 = (gvS T a d i).2.1 2 := h1.2.2.1.2.1.1
    have d2 : M.1 2 = (gvS T a d i).1 1 := h1.2.2.1.1.2.1
    have d2' : M.1 2 = T.1 1 := hR.2.2.1.1.2.1
    have hk : i < (gvS T a d i).1 1 := by omega
    have k40 : i < 40 := by
      have := hR.1.2.1
      omega
    have hfi : firM M (amk M d (mk (T.2.2 0 a)) i) i = nI 45 ↔ protI (gvS T a d i) a i = -1 := by
      have h5 := fir_45 h1 (a := a) hk
      rw [h2] at h5
      exact h5
    have hB : gvB (gvS T a d i) a d i = amB M d (amk M d (mk (T.2.2 0 a)) i) i := by
      unfold gvB amB freeB
      rw [← e0, h2, Bool.and_assoc, decide_eq_decide.mpr hfi]
    by_cases hc : gvB (gvS T a d i) a d i = true
    · have hf : freeB (gvS T a d i) a i = true := by
        unfold gvB at hc
        rw [Bool.and_eq_true] at hc
        exact hc.2
      obtain ⟨a1, a2⟩ := gv_t hc
      obtain ⟨b1, b2⟩ := am_t (hB ▸ hc)
      have h6 := rel_gi h1 ha hk hf
      rw [upd_upd, upd_upd, upd_at, upd_at, Int32.add_assoc, Int32.add_assoc, nI_add, nI_add, Nat.add_assoc, ← Nat.mul_succ] at h6
      rw [a1, a2, b1, b2]
      refine ⟨h6, ?_, by rw [h3], fun z hz => ?_⟩
      · rw [row_gi h1.1 ha k40, if_pos rfl, cloA_eq h1, h2]
        rfl
      · show vp_updL ((gvS T a d i).2.2 0) a _ z = _
        rw [vp_updL, if_neg hz]
        exact h4 z hz
    · have hc' : gvB (gvS T a d i) a d i = false := by simpa using hc
      obtain ⟨a1, a2⟩ := gv_f hc'
      obtain ⟨b1, b2⟩ := am_f (hB ▸ hc')
      rw [a1, a2, b1, b2]
      exact ⟨h1, h2, h3, h4⟩
theorem am_20 {M : SM} {E : Nat → Int32} {d : Int32} {x : Nat} : ∀ i, amk (mI M 20 E) d x i = amk M d x i ∧ amc (mI M 20 E) d x i = amc M d x i
  | 0 => ⟨rfl, rfl⟩
  | i + 1 => by
    obtain ⟨h1, h2⟩ := am_20 (M := M) (E := E) (d := d) (x := x) i
    have h3 : amB (mI M 20 E) d (amk M d x i) i = amB M d (amk M d x i) i := rfl
    constructor
    · rw [amk, amk, h1, h3]; rfl
    · rw [amc, amc, h1, h2, h3]
theorem op_answer : Op_answer := by
  intro S M fo u1 u2 k r1 r2 hR h1 h2
  obtain ⟨hI, hJ, ⟨⟨d1, d2, d3, d4, d5, d6, d7, d8, d9⟩, ⟨e0, e1, e2, e3, e4, e5, e6, e7, e8, e17⟩, ⟨f12, f13, f20, f14, f15⟩⟩, hT, hJn, hH, hQ⟩ := id hR
  obtain ⟨i0, i1, i2, i3, i4, i5, i6, i7, i8, iJ, iH, iG, iQ⟩ := id hI
  refine op_of hR (by rw [d6, f20]) cdAns_le (fun ⟨_, _, h, _⟩ => h.1) h1 h2 ?_
  clear h1 h2
  rintro ⟨w, g, ⟨-, hx, hg, rfl⟩, rfl⟩ ⟨j, h, v, ⟨rfl, hj⟩, hrow, hfr, hu, hr⟩
  have hgj : j = g := nI_i (by omega) (by omega) hx
  subst hgj
  have ha : ix (S.2.1 15 j) < 5 := hQ.2 j hg
  have hR' : Rel (sI S 17 (upd (S.2.1 17) j (nI 97))) (mI M 20 (upd (M.2 20) j (nI 97))) := by
    refine ⟨hI, hJ, ⟨⟨d1, d2, d3, d4, d5, d6, d7, d8, d9⟩, ⟨e0, e1, e2, e3, e4, e5, e6, e7, e8, e17⟩, ⟨f12, f13, (show upd (M.2 20) j (nI 97) = upd (S.2.1 17) j (nI 97) by rw [f20]), f14, f15⟩⟩, hT, hJn, hH, fun z hz => ?_, hQ.2⟩
    show upd (S.2.1 17) j (nI 97) z = nI 119 ∨ upd (S.2.1 17) j (nI 97) z = nI 97 ∨ upd (S.2.1 17) j (nI 97) z = nI 120
    unfold upd
    split
    · exact Or.inr (Or.inl rfl)
    · exact hQ.1 z hz
  rw [f12, f13, d2] at hrow hu hr
  rw [f12] at hfr
  generalize ix (S.2.1 15 j) = a at *
  generalize S.2.1 16 j = d at *
  obtain ⟨g1, g2, g3, g4⟩ := gv_rel (d := d) ha hR' (S.1 1) (Nat.le_refl _)
  rw [show mk ((sI S 17 (upd (S.2.1 17) j (nI 97))).2.2 0 a) = mk (S.2.2 0 a) from rfl, (am_20 _).2] at g1 g3
  rw [show mk ((sI S 17 (upd (S.2.1 17) j (nI 97))).2.2 0 a) = mk (S.2.2 0 a) from rfl, (am_20 _).1] at g2
  have hrow : rowB h (40 * a) 40 (amk M d (mk (S.2.2 0 a)) (S.1 1)) := hrow
  have hr : r2 = nI (amc M d (mk (S.2.2 0 a)) (S.1 1)) := hr
  obtain ⟨hI2, hJ2, ⟨⟨p1, p2, p3, p4, p5, p6, p7, p8, p9⟩, ⟨q0, q1, q2, q3, q4, q5, q6, q7, q8, q17⟩, ⟨s12, s13, s20, s14, s15⟩⟩, hT2, hJn2, hH2, hQ2⟩ := g1
  rw [hu]
  refine ⟨rfl, by rw [up0, g3, hr], hI2, hJ2, ⟨⟨p1, p2, p3, p4, p5, p6, p7, p8, p9⟩, ⟨q0, q1, q2, q3, q4, q5, q6, q7, q8, q17⟩, ⟨s12, s13, s20, s14, s15⟩⟩, hT2, hJn2, fun z hz => ⟨?_, (hH2 z hz).2.1, (hH2 z hz).2.2.1, (hH2 z hz).2.2.2⟩, hQ2⟩
  show rowB h (40 * z) 40 _
  by_cases hc : z = a
  · rw [hc]
    show rowB h (40 * a) 40 (mk ((gvS (sI S 17 (upd (S.2.1 17) j (nI 97))) a d (S.1 1)).2.2 0 a))
    rw [g2]
    exact hrow
  · show rowB h (40 * z) 40 (mk ((gvS (sI S 17 (upd (S.2.1 17) j (nI 97))) a d (S.1 1)).2.2 0 z))
    rw [g4 z hc]
    intro q hq
    rw [hfr _ (fun q2 h2 => by omega)]
    exact (hH z hz).1 q hq
