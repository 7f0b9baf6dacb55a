theorem updL_at {f : Nat → Int64} {i : Nat} {v : Int64} : vp_updL f i v i = v := by simp [vp_updL]
theorem updL_ne {f : Nat → Int64} {i j : Nat} {v : Int64} (h : ¬ j = i) : vp_updL f i v j = f j := by simp [vp_updL, h]
theorem wneg_lt (q : Nat) : ¬ 0 ≤ wneg q := by
  unfold wneg
  split <;> decide
theorem ab_no {i q : Nat} {S u : SA} {r : Int32} (h : RB S) (hr : r = wneg q) (hu : u = S) : AB i S u r :=
  ⟨by rw [hu]; exact h, fun _ => hu, by rw [hu, hr, if_neg (wneg_lt q)]; rfl, fun a b => by rw [hu]; exact ⟨a, b⟩⟩
theorem ab_yes {i : Nat} {S u : SA} {r : Int32} (h : RB u) (hr : 0 ≤ r) (hl : u.1 1 = S.1 1 + i) (h6 : 1 ≤ S.1 6 → S.2.1 17 0 = nI 97 → 1 ≤ u.1 6 ∧ u.2.1 17 0 = nI 97) : AB i S u r :=
  ⟨h, fun z => absurd hr (Int32.not_le.mpr z), by rw [hl, if_pos hr], h6⟩
theorem vOK_pos {v : Int32} (h : vOK v = true) : 0 ≤ v := by
  rw [vOK, inB, Bool.and_eq_true, Bool.not_eq_true', decide_eq_false_iff_not] at h
  exact Int32.not_lt.mp h.1
theorem anyB_mono {p q : Nat → Bool} : ∀ {n : Nat}, (∀ k, k < n → p k = true → q k = true) → anyB p n = true → anyB q n = true
  | 0, _, h => h
  | n + 1, h, h2 => by
    rw [anyB, Bool.or_eq_true] at h2 ⊢
    rcases h2 with h2 | h2
    · exact Or.inl (anyB_mono (fun k hk => h k (Nat.lt_succ_of_lt hk)) h2)
    · exact Or.inr (h n (Nat.lt_succ_self n) h2)
theorem m1_lt {d : Nat} (h : d < 2 ^ 31) : (-1 : Int32) < nI d := by
  rw [Int32.lt_iff_toInt_lt, nI_toInt h]
  have h3 : ((-1 : Int32)).toInt = -1 := by decide
  omega
/-! closures -/
theorem rj_fun {S : SA} (h : RJ S) (hn : S.1 1 ≤ 40) : ∃ p q t : Nat → Nat, ∀ j, j < S.1 4 → p j < S.1 1 ∧ q j < S.1 1 ∧ t j < S.1 1 ∧ mk (S.2.2 1 j) = 2 ^ p j ||| 2 ^ q j ∧ mk (S.2.2 2 j) = 2 ^ t j := by
  have h2 : ∀ j, ∃ x : Nat × Nat × Nat, j < S.1 4 → x.1 < S.1 1 ∧ x.2.1 < S.1 1 ∧ x.2.2 < S.1 1 ∧ mk (S.2.2 1 j) = 2 ^ x.1 ||| 2 ^ x.2.1 ∧ mk (S.2.2 2 j) = 2 ^ x.2.2 := fun j => by
    by_cases hj : j < S.1 4
    · obtain ⟨p, q, t, h1, h2, h3, e1, e2⟩ := h j hj
      refine ⟨(p, q, t), fun _ => ⟨h1, h2, h3, ?_, ?_⟩⟩
      · rw [e1, mk_lN (Nat.lt_trans (Nat.or_lt_two_pow (bit40 (by omega)) (bit40 (by omega))) (by decide))]
      · rw [e2, mk_lN (Nat.lt_trans (bit40 (by omega)) (by decide))]
    · exact ⟨(0, 0, 0), fun z => absurd z hj⟩
  obtain ⟨f, hf⟩ := Classical.axiomOfChoice h2
  exact ⟨fun j => (f j).1, fun j => (f j).2.1, fun j => (f j).2.2, hf⟩
theorem cl_eq {S : SA} {p q t : Nat → Nat} {n : Nat} (h : ∀ j, j < n → mk (S.2.2 1 j) = 2 ^ p j ||| 2 ^ q j ∧ mk (S.2.2 2 j) = 2 ^ t j) (hn : n = S.1 4) (x : Nat) : cloA S x = cloP p q t n x := by
  subst hn
  unfold cloA cloP
  exact clo_cong h
theorem cl_add {S : SA} (h : RJ S) (hn : S.1 1 ≤ 40) (x k : Nat) : cloA S (cloA S x ||| 2 ^ k) = cloA S (x ||| 2 ^ k) := by
  obtain ⟨p, q, t, hf⟩ := rj_fun h hn
  have e := cl_eq (fun j hj => (hf j hj).2.2.2) rfl
  rw [e, e, e, clo_add]
theorem cl_ltn {S : SA} (h : RJ S) (hn : S.1 1 ≤ 40) {x : Nat} (hx : x < 2 ^ S.1 1) : cloA S x < 2 ^ S.1 1 := by
  obtain ⟨p, q, t, hf⟩ := rj_fun h hn
  rw [cl_eq (fun j hj => (hf j hj).2.2.2) rfl]
  have h1 : subM (cloP p q t (S.1 4) x) (2 ^ S.1 1 - 1) := by
    refine clo_sub (fun j hj _ _ => ?_) (fun k hk => ?_)
    · rw [Nat.testBit_two_pow_sub_one]
      exact decide_eq_true (hf j hj).2.2.1
    · rw [Nat.testBit_two_pow_sub_one]
      refine decide_eq_true (Nat.not_le.mp fun h2 => ?_)
      rw [Nat.testBit_lt_two_pow (Nat.lt_of_lt_of_le hx (Nat.pow_le_pow_right (by decide) h2))] at hk
      cases hk
  refine Nat.lt_pow_two_of_testBit _ fun k hk => ?_
  cases hb : (cloP p q t (S.1 4) x).testBit k
  · rfl
  · have h2 := h1 k hb
    rw [Nat.testBit_two_pow_sub_one] at h2
    have h3 := of_decide_eq_true h2
    omega
theorem rj_jn {S : SA} (h : RJ S) {a b t : Nat} (ha : a < S.1 1) (hb : b < S.1 1) (ht : t < S.1 1) : RJ (jnS S a b t) := by
  intro j hj
  have hj2 : j < S.1 4 + 1 := hj
  show ∃ p q z, p < S.1 1 ∧ q < S.1 1 ∧ z < S.1 1 ∧ vp_updL (S.2.2 1) (S.1 4) (lN (2 ^ a ||| 2 ^ b)) j = lN (2 ^ p ||| 2 ^ q) ∧ vp_updL (S.2.2 2) (S.1 4) (lN (2 ^ t)) j = lN (2 ^ z)
  by_cases e : j = S.1 4
  · subst e
    exact ⟨a, b, t, ha, hb, ht, updL_at, updL_at⟩
  · obtain ⟨p, q, z, h1, h2, h3, e1, e2⟩ := h j (by omega)
    exact ⟨p, q, z, h1, h2, h3, by rw [updL_ne e]; exact e1, by rw [updL_ne e]; exact e2⟩
theorem cl_more {S : SA} (h : RJ S) (hn : S.1 1 ≤ 40) {a b t : Nat} (ha : a < S.1 1) (hb : b < S.1 1) (ht : t < S.1 1) (x : Nat) : cloA (jnS S a b t) (cloA S x) = cloA (jnS S a b t) x := by
  obtain ⟨p, q, z, hf⟩ := rj_fun (rj_jn h ha hb ht) hn
  have e1 := cl_eq (S := jnS S a b t) (n := S.1 4 + 1) (fun j hj => (hf j hj).2.2.2) rfl
  have e2 := cl_eq (S := S) (n := S.1 4) (p := p) (q := q) (t := z) (fun j hj => by
    have h1 := (hf j (Nat.lt_succ_of_lt hj)).2.2.2
    have h2 : mk (vp_updL (S.2.2 1) (S.1 4) (lN (2 ^ a ||| 2 ^ b)) j) = 2 ^ p j ||| 2 ^ q j ∧ mk (vp_updL (S.2.2 2) (S.1 4) (lN (2 ^ t)) j) = 2 ^ z j := h1
    rw [updL_ne (by omega), updL_ne (by omega)] at h2
    exact h2) rfl
  rw [e1, e1, e2, clo_more (Nat.le_succ _)]
theorem gr_facts {T : SA} (hI : IA T) : ∀ i, i ≤ 5 → (grS T i).1 = T.1 ∧ (grS T i).2.1 = T.2.1 ∧ (grS T i).2.2 1 = T.2.2 1 ∧ (grS T i).2.2 2 = T.2.2 2 ∧ (∀ a, a < i → mk ((grS T i).2.2 0 a) = cloA T (mk (T.2.2 0 a))) ∧ (∀ a, i ≤ a → (grS T i).2.2 0 a = T.2.2 0 a)
  | 0, _ => ⟨rfl, rfl, rfl, rfl, fun a h => absurd h (Nat.not_lt_zero a), fun _ _ => rfl⟩
  | i + 1, h => by
    obtain ⟨h1, h2, h3, h4, h5, h6⟩ := gr_facts hI i (by omega)
    have hcl : ∀ y, cloA (grS T i) y = cloA T y := fun y => by unfold cloA; rw [h1, h3, h4]
    have hc : cloA T (mk (T.2.2 0 i)) < 2 ^ 40 := clo_lt (hI.2.2.2.2.2.2.2.2.2.2.1 i (by omega)) (fun j hj => (hI.2.2.2.2.2.2.2.2.2.1 j hj).2)
    refine ⟨h1, h2, h3, h4, fun a ha => ?_, fun a ha => ?_⟩
    · show mk (vp_updL ((grS T i).2.2 0) i (lN (cloA (grS T i) (mk ((grS T i).2.2 0 i)))) a) = _
      rw [hcl, h6 i (Nat.le_refl _)]
      by_cases h7 : a = i
      · subst h7; rw [vp_updL, if_pos rfl, mk_lN (Nat.lt_trans hc (by decide))]
      · rw [vp_updL, if_neg h7]; exact h5 a (by omega)
    · show vp_updL ((grS T i).2.2 0) i _ a = _
      rw [vp_updL, if_neg (by omega)]; exact h6 a (by omega)
theorem rb_join {S : SA} (h : RB S) {a b t : Nat} (h4 : S.1 4 < 10) (ha : a < S.1 1) (hb : b < S.1 1) (ht : t < S.1 1) : RB (grS (jnS S a b t) 5) := by
  obtain ⟨hI, hJ, hD, hjn, hH, hQ, hF⟩ := id h
  have hn := h.n
  have hIT : IA (jnS S a b t) := IA_jn hI h4 (by omega) (by omega) (by omega)
  have hIu := IA_gr hIT 5 (Nat.le_refl _)
  have hjT := rj_jn hjn ha hb ht
  obtain ⟨f1, f2, f3, f4, f5, -⟩ := gr_facts hIT 5 (Nat.le_refl _)
  generalize grS (jnS S a b t) 5 = u at hIu f1 f2 f3 f4 f5 ⊢
  obtain ⟨x, y, z⟩ := u
  dsimp only at f1 f2 f3 f4 f5
  subst f1; subst f2
  have hcl : ∀ w, cloA ((jnS S a b t).1, (jnS S a b t).2.1, z) w = cloA (jnS S a b t) w := fun w => by
    unfold cloA
    dsimp only
    rw [f3, f4]
  refine ⟨hIu, ⟨fun a' ha' k hk => ?_, hJ.2⟩, hD, ?_, ?_, hQ, hF⟩
  · show (mk (z 0 a')).testBit k = true
    rw [f5 a' ha']
    exact cloA_up0 (hJ.1 a' ha' k hk)
  · intro j hj
    obtain ⟨p, q, w, h1, h2, h3, e1, e2⟩ := hjT j hj
    exact ⟨p, q, w, h1, h2, h3, (congrFun f3 j).trans e1, (congrFun f4 j).trans e2⟩
  · intro a' ha'
    have e : mk (z 0 a') = cloA (jnS S a b t) (mk (S.2.2 0 a')) := f5 a' ha'
    refine ⟨?_, ?_⟩
    · show mk (z 0 a') = _
      rw [e, hcl, (hH a' ha').1, cl_more hjn hn ha hb ht]
      rfl
    · show mk (z 0 a') < 2 ^ S.1 1
      rw [e]
      exact cl_ltn (S := jnS S a b t) hjT hn (hH a' ha').2
theorem row_gi {T : SA} (hI : IA T) {a k : Nat} (ha : a < 5) (hk : k < 40) (z : Nat) : mk ((giS T a k).2.2 0 z) = if z = a then cloA T (mk (T.2.2 0 a) ||| 2 ^ k) else mk (T.2.2 0 z) := by
  show mk (vp_updL (T.2.2 0) a (lN (cloA T (mk (T.2.2 0 a) ||| 2 ^ k))) z) = _
  by_cases hc : z = a
  · have h1 : cloA T (mk (T.2.2 0 a) ||| 2 ^ k) < 2 ^ 40 := clo_lt (Nat.or_lt_two_pow (hI.2.2.2.2.2.2.2.2.2.2.1 a ha) (bit40 hk)) (fun j hj => (hI.2.2.2.2.2.2.2.2.2.1 j hj).2)
    rw [if_pos hc, vp_updL, if_pos hc, mk_lN (Nat.lt_trans h1 (by decide))]
  · rw [if_neg hc, vp_updL, if_neg hc]
theorem rb_gi {T : SA} (h : RB T) {a k : Nat} (ha : a < 5) (hk : k < T.1 1) (hf : freeB T a k = true) : RB (giS T a k) := by
  obtain ⟨hI, hJ, hD, hjn, hH, hQ, hF⟩ := id h
  have hn := h.n
  have hk40 : k < 40 := by omega
  have hcap := gv_cap hJ hI ha hk40 hf
  refine ⟨IA_gi hI ha hk40 hcap, JA_gi hI hJ ha hk40 hf, hD, hjn, ?_, hQ, ?_, ?_⟩
  · intro z hz
    have e1 : ∀ x, cloA (giS T a k) x = cloA T x := fun _ => rfl
    rw [row_gi hI ha hk40, lg_gi hk40 ha hz, e1]
    by_cases hc : z = a
    · rw [if_pos hc, if_pos hc, hc, (hH a ha).1, cl_add hjn hn]
      refine ⟨rfl, cl_ltn hjn hn (Nat.or_lt_two_pow ?_ (Nat.pow_lt_pow_right (by decide) hk))⟩
      refine Nat.lt_pow_two_of_testBit _ fun i hi => ?_
      cases hbt : (lgA T a).testBit i with
      | false => rfl
      | true =>
        have h1 : hb T a i = true := hJ.1 a ha i hbt
        rw [r_mask h ha hi] at h1
        cases h1
    · rw [if_neg hc, if_neg hc]
      exact hH z hz
  · intro z hz
    show ∃ w, w ≤ T.1 9 + T.1 8 ∧ upd (T.2.1 0) a (T.2.1 0 a + nI (T.1 8)) z = nI w
    by_cases hc : z = a
    · subst hc
      obtain ⟨w, h1, h2⟩ := hF.1 z hz
      exact ⟨w + T.1 8, by omega, by rw [pk_us, h2]; exact nI_add _ _⟩
    · obtain ⟨w, h1, h2⟩ := hF.1 z hz
      exact ⟨w, by omega, by rw [pk_un hc]; exact h2⟩
  · show T.1 9 + T.1 8 ≤ 99 * (T.1 5 + 1)
    have h1 := hF.2
    have h2 := hI.2.2.2.2.2.2.2.2.1
    omega
theorem rb_gv {T : SA} (h : RB T) {a : Nat} {d : Int32} (ha : a < 5) : ∀ i, i ≤ T.1 1 → RB (gvS T a d i) ∧ (gvS T a d i).1 1 = T.1 1 ∧ (gvS T a d i).1 6 = T.1 6 ∧ (gvS T a d i).2.1 17 = T.2.1 17 ∧ gvC T a d i ≤ i
  | 0, _ => ⟨h, rfl, rfl, rfl, Nat.le_refl _⟩
  | i + 1, hi => by
    obtain ⟨h1, h2, h3, h4, h5⟩ := rb_gv h (d := d) ha i (by omega)
    by_cases hc : gvB (gvS T a d i) a d i = true
    · rw [(gv_t hc).1, (gv_t hc).2]
      have hf : freeB (gvS T a d i) a i = true := by
        unfold gvB at hc
        rw [Bool.and_eq_true] at hc
        exact hc.2
      exact ⟨rb_gi h1 ha (by omega) hf, h2, h3, h4, by omega⟩
    · have hc2 : gvB (gvS T a d i) a d i = false := by simpa using hc
      rw [(gv_f hc2).1, (gv_f hc2).2]
      exact ⟨h1, h2, h3, h4, by omega⟩
theorem rb_st {S : SA} (h : RB S) {g c : Nat} (hc : c = 97 ∨ c = 120) : RB (sI S 17 (upd (S.2.1 17) g (nI c))) := by
  obtain ⟨hI, hJ, hD, hjn, hH, hQ, hF⟩ := id h
  refine ⟨hI, hJ, hD, hjn, hH, ⟨fun k hk => ?_, hQ.2⟩, hF⟩
  show upd (S.2.1 17) g (nI c) k = nI 119 ∨ upd (S.2.1 17) g (nI c) k = nI 97 ∨ upd (S.2.1 17) g (nI c) k = nI 120
  by_cases e : k = g
  · rw [e, pk_us]
    rcases hc with rfl | rfl
    · exact Or.inr (Or.inl rfl)
    · exact Or.inr (Or.inr rfl)
  · rw [pk_un e]
    exact hQ.1 k hk
theorem ab_addDocument {S u : SA} {r : Int32} (h : RB S) (hp : ((cdAddDoc (S.1 0) = 0 ∧ r = nI (S.1 0)) ∧ u = (sN S 0 (S.1 0 + 1))) ∨ ∃ q : Nat, ¬ q = 0 ∧ r = wneg q ∧ cdAddDoc (S.1 0) = q ∧ u = S) : AB 0 S u r := by
  rcases hp with ⟨⟨hc, rfl⟩, rfl⟩ | ⟨q, _, hr, _, hu⟩
  · skip
    obtain ⟨hI, hJ, ⟨d1, d2, d3, d4⟩, hjn, hH, hQ, hF⟩ := id h
    obtain ⟨i0, i1, i2, i3, i4, i5, i6, i7, i8, iJ, iH, iG, iQ⟩ := id hI
    unfold cdAddDoc at hc
    split at hc
    · exact absurd hc (by decide)
    rename_i a1
    refine ab_yes ⟨⟨show S.1 0 + 1 ≤ 8 by omega, i1, i2, i3, i4, i5, i6, i7, i8, iJ, iH, iG, iQ⟩, hJ, ⟨fun l hl => ?_, d2, d3, d4⟩, hjn, hH, hQ, hF⟩ (nI_pos' (by omega)) rfl (fun a b => ⟨a, b⟩)
    obtain ⟨d, hd, e⟩ := d1 l hl
    exact ⟨d, Nat.lt_succ_of_lt hd, e⟩
  · exact ab_no h hr hu
theorem ab_addLine {S u : SA} {r : Int32} {d v : Int32} (h : RB S) (hp : (∃ g : Nat, (cdAddLine (S.1 0) (S.1 1) d v = 0 ∧ d = nI g ∧ g < S.1 0 ∧ r = nI (S.1 1)) ∧ u = (sN (sI (sI (sI (sI S 1 (upd (S.2.1 1) g ((S.2.1 1) g + nI 1))) 2 (upd (S.2.1 2) (S.1 1) (nI g))) 3 (upd (S.2.1 3) (S.1 1) ((S.2.1 1) g))) 4 (upd (S.2.1 4) (S.1 1) v)) 1 (S.1 1 + 1))) ∨ ∃ q : Nat, ¬ q = 0 ∧ r = wneg q ∧ cdAddLine (S.1 0) (S.1 1) d v = q ∧ u = S) : AB 1 S u r := by
  rcases hp with ⟨g, ⟨hc, hd, hg, rfl⟩, rfl⟩ | ⟨q, _, hr, _, hu⟩
  · skip
    obtain ⟨hI, hJ, ⟨d1, d2, d3, d4⟩, hjn, hH, hQ, hF⟩ := id h
    obtain ⟨i0, i1, i2, i3, i4, i5, i6, i7, i8, iJ, iH, iG, iQ⟩ := id hI
    unfold cdAddLine at hc
    split at hc
    · exact absurd hc (by decide)
    split at hc
    · exact absurd hc (by decide)
    split at hc
    · exact absurd hc (by decide)
    rename_i a1 a2 a3
    have hv : vOK v = true := by simpa using a2
    refine ab_yes ⟨⟨i0, show S.1 1 + 1 ≤ 40 by omega, i2, i3, i4, i5, i6, i7, i8, iJ, iH, iG, iQ⟩, hJ, ⟨?_, ?_, ?_, ?_⟩, ?_, ?_, hQ, hF⟩ (nI_pos' (by omega)) rfl (fun a b => ⟨a, b⟩)
    · intro l hl
      have hl2 : l < S.1 1 + 1 := hl
      show ∃ d, d < S.1 0 ∧ upd (S.2.1 2) (S.1 1) (nI g) l = nI d
      by_cases e : l = S.1 1
      · rw [e, pk_us]; exact ⟨g, hg, rfl⟩
      · rw [pk_un e]; exact d1 l (by omega)
    · intro l hl
      have hl2 : l < S.1 1 + 1 := hl
      show upd (S.2.1 3) (S.1 1) (S.2.1 1 g) l = nI (fb_ct (fun j => decide (upd (S.2.1 2) (S.1 1) (nI g) j = upd (S.2.1 2) (S.1 1) (nI g) l)) l)
      have hcg : ∀ x, fb_ct (fun j => decide (upd (S.2.1 2) (S.1 1) (nI g) j = x)) l = linesIn S x l := fun x => fb_ct_cong (fun j hj => by rw [pk_un (by omega)])
      rw [hcg]
      by_cases e : l = S.1 1
      · subst e
        rw [pk_us, pk_us]
        exact d3 g (by omega)
      · rw [pk_un e, pk_un e]
        exact d2 l (by omega)
    · intro d hd8
      show upd (S.2.1 1) g (S.2.1 1 g + nI 1) d = nI (fb_ct (fun j => decide (upd (S.2.1 2) (S.1 1) (nI g) j = nI d)) (S.1 1 + 1))
      have hcg : fb_ct (fun j => decide (upd (S.2.1 2) (S.1 1) (nI g) j = nI d)) (S.1 1) = linesIn S (nI d) (S.1 1) := fb_ct_cong (fun j hj => by rw [pk_un (by omega)])
      rw [fb_ct_succ, hcg]
      have h2 : upd (S.2.1 2) (S.1 1) (nI g) (S.1 1) = nI g := pk_us
      rw [h2]
      by_cases e : d = g
      · subst e
        rw [pk_us, d3 d hd8, if_pos (by simp)]
        exact nI_add _ 1
      · rw [pk_un e, d3 d hd8, if_neg (by
          rw [decide_eq_true_eq]
          exact fun z => e ((nI_eq (by omega) (by omega)).mp z).symm)]
        rfl
    · intro l hl
      have hl2 : l < S.1 1 + 1 := hl
      show vOK (upd (S.2.1 4) (S.1 1) v l) = true
      by_cases e : l = S.1 1
      · rw [e, pk_us]; exact hv
      · rw [pk_un e]; exact d4 l (by omega)
    · intro j hj
      obtain ⟨p, q, t, h1, h2, h3, e1, e2⟩ := hjn j hj
      exact ⟨p, q, t, Nat.lt_succ_of_lt h1, Nat.lt_succ_of_lt h2, Nat.lt_succ_of_lt h3, e1, e2⟩
    · intro a ha
      exact ⟨(hH a ha).1, Nat.lt_of_lt_of_le (hH a ha).2 (Nat.pow_le_pow_right (by decide) (Nat.le_succ _))⟩
  · exact ab_no h hr hu
theorem ab_rescan {S u : SA} {r : Int32} {x v : Int32} (h : RB S) (hp : (∃ g : Nat, (cdRescan (S.1 1) x v = 0 ∧ x = nI g ∧ g < S.1 1 ∧ r = S.2.1 4 g) ∧ u = (sI S 4 (upd (S.2.1 4) g v))) ∨ ∃ q : Nat, ¬ q = 0 ∧ r = wneg q ∧ cdRescan (S.1 1) x v = q ∧ u = S) : AB 0 S u r := by
  rcases hp with ⟨g, ⟨hc, hd, hg, rfl⟩, rfl⟩ | ⟨q, _, hr, _, hu⟩
  · skip
    obtain ⟨hI, hJ, ⟨d1, d2, d3, d4⟩, hjn, hH, hQ, hF⟩ := id h
    obtain ⟨i0, i1, i2, i3, i4, i5, i6, i7, i8, iJ, iH, iG, iQ⟩ := id hI
    unfold cdRescan at hc
    split at hc
    · exact absurd hc (by decide)
    split at hc
    · exact absurd hc (by decide)
    rename_i a1 a2
    have hv : vOK v = true := by simpa using a2
    refine ab_yes ⟨hI, hJ, ⟨d1, d2, d3, ?_⟩, hjn, hH, hQ, hF⟩ (vOK_pos (d4 g hg)) rfl (fun a b => ⟨a, b⟩)
    intro l hl
    show vOK (upd (S.2.1 4) g v l) = true
    by_cases e : l = g
    · rw [e, pk_us]; exact hv
    · rw [pk_un e]; exact d4 l hl
  · exact ab_no h hr hu
theorem ab_addRule {S u : SA} {r : Int32} {f g t : Int32} (h : RB S) (hp : ((cdAddRule (S.1 2) (S.1 7) f g t = 0 ∧ r = nI (S.1 2)) ∧ u = (sN (sI (sI (sI S 5 (upd (S.2.1 5) (S.1 2) f)) 6 (upd (S.2.1 6) (S.1 2) g)) 7 (upd (S.2.1 7) (S.1 2) t)) 2 (S.1 2 + 1))) ∨ ∃ q : Nat, ¬ q = 0 ∧ r = wneg q ∧ cdAddRule (S.1 2) (S.1 7) f g t = q ∧ u = S) : AB 0 S u r := by
  rcases hp with ⟨⟨hc, rfl⟩, rfl⟩ | ⟨q, _, hr, _, hu⟩
  · skip
    obtain ⟨hI, hJ, ⟨d1, d2, d3, d4⟩, hjn, hH, hQ, hF⟩ := id h
    obtain ⟨i0, i1, i2, i3, i4, i5, i6, i7, i8, iJ, iH, iG, iQ⟩ := id hI
    unfold cdAddRule at hc
    split at hc
    · exact absurd hc (by decide)
    split at hc
    · exact absurd hc (by decide)
    rename_i a1 a2
    exact ab_yes ⟨⟨i0, i1, show S.1 2 + 1 ≤ 8 by omega, i3, i4, i5, i6, i7, i8, iJ, iH, iG, iQ⟩, hJ, ⟨d1, d2, d3, d4⟩, hjn, hH, hQ, hF⟩ (nI_pos' (by omega)) rfl (fun a b => ⟨a, b⟩)
  · exact ab_no h hr hu
theorem ab_addSpan {S u : SA} {r : Int32} {d f g t : Int32} (h : RB S) (hp : ((cdAddSpan (S.1 0) (S.1 3) (S.1 7) d f g t = 0 ∧ r = nI (S.1 3)) ∧ u = (sN (sI (sI (sI (sI S 8 (upd (S.2.1 8) (S.1 3) d)) 9 (upd (S.2.1 9) (S.1 3) f)) 10 (upd (S.2.1 10) (S.1 3) g)) 11 (upd (S.2.1 11) (S.1 3) t)) 3 (S.1 3 + 1))) ∨ ∃ q : Nat, ¬ q = 0 ∧ r = wneg q ∧ cdAddSpan (S.1 0) (S.1 3) (S.1 7) d f g t = q ∧ u = S) : AB 0 S u r := by
  rcases hp with ⟨⟨hc, rfl⟩, rfl⟩ | ⟨q, _, hr, _, hu⟩
  · skip
    obtain ⟨hI, hJ, ⟨d1, d2, d3, d4⟩, hjn, hH, hQ, hF⟩ := id h
    obtain ⟨i0, i1, i2, i3, i4, i5, i6, i7, i8, iJ, iH, iG, iQ⟩ := id hI
    unfold cdAddSpan at hc
    split at hc
    · exact absurd hc (by decide)
    split at hc
    · exact absurd hc (by decide)
    split at hc
    · exact absurd hc (by decide)
    rename_i a1 a2 a3
    exact ab_yes ⟨⟨i0, i1, i2, show S.1 3 + 1 ≤ 12 by omega, i4, i5, i6, i7, i8, iJ, iH, iG, iQ⟩, hJ, ⟨d1, d2, d3, d4⟩, hjn, hH, hQ, hF⟩ (nI_pos' (by omega)) rfl (fun a b => ⟨a, b⟩)
  · exact ab_no h hr hu
theorem ab_lift {S u : SA} {r : Int32} {k : Int32} (h : RB S) (hp : (∃ g : Nat, (cdLiftA (S.1 3) (S.2.1 11) (S.1 7) k = 0 ∧ k = nI g ∧ g < S.1 3 ∧ r = nI (fb_ct (hidA S) (S.1 1)) - nI (fb_ct (hidA (sI S 11 (upd (S.2.1 11) g (-1)))) (S.1 1))) ∧ u = (sI S 11 (upd (S.2.1 11) g (-1)))) ∨ ∃ q : Nat, ¬ q = 0 ∧ r = wneg q ∧ cdLiftA (S.1 3) (S.2.1 11) (S.1 7) k = q ∧ u = S) : AB 0 S u r := by
  rcases hp with ⟨g, ⟨hc, hd, hg, rfl⟩, rfl⟩ | ⟨q, _, hr, _, hu⟩
  · skip
    obtain ⟨hI, hJ, ⟨d1, d2, d3, d4⟩, hjn, hH, hQ, hF⟩ := id h
    obtain ⟨i0, i1, i2, i3, i4, i5, i6, i7, i8, iJ, iH, iG, iQ⟩ := id hI
    have hle : fb_ct (hidA (sI S 11 (upd (S.2.1 11) g (-1)))) (S.1 1) ≤ fb_ct (hidA S) (S.1 1) := fb_ct_sub (fun k _ hk => by
      rw [hidA, Bool.or_eq_true] at hk ⊢
      rcases hk with hk | hk
      · exact Or.inl hk
      · refine Or.inr (anyB_mono (fun j hj h2 => ?_) hk)
        have h3 : (!decide (upd (S.2.1 11) g (-1) j < nI (S.1 7)) && decide (S.2.1 8 j = S.2.1 2 k) && inB (S.2.1 3 k) (S.2.1 9 j) (S.2.1 10 j)) = true := h2
        by_cases e : j = g
        · rw [e, pk_us, decide_eq_true (m1_lt (by omega))] at h3
          exact absurd h3 (by simp)
        · rw [pk_un e] at h3
          exact h3)
    have hct := fb_ct_le (hidA S) (S.1 1)
    exact ab_yes ⟨hI, hJ, ⟨d1, d2, d3, d4⟩, hjn, hH, hQ, hF⟩ (by rw [pk_sub hle]; exact nI_pos' (by omega)) rfl (fun a b => ⟨a, b⟩)
  · exact ab_no h hr hu
theorem ab_addJoin {S u : SA} {r : Int32} {a b t : Int32} (h : RB S) (hp : (∃ g : Nat × Nat × Nat, (cdAddJoin (S.1 1) (S.1 4) a b t = 0 ∧ (a = nI g.1 ∧ b = nI g.2.1 ∧ t = nI g.2.2) ∧ (g.1 < S.1 1 ∧ g.2.1 < S.1 1 ∧ g.2.2 < S.1 1) ∧ r = nI (S.1 4)) ∧ u = (grS (jnS S g.1 g.2.1 g.2.2) 5)) ∨ ∃ q : Nat, ¬ q = 0 ∧ r = wneg q ∧ cdAddJoin (S.1 1) (S.1 4) a b t = q ∧ u = S) : AB 0 S u r := by
  rcases hp with ⟨⟨ga, gb, gc⟩, ⟨hc, _, ⟨h1, h2, h3⟩, rfl⟩, rfl⟩ | ⟨q, _, hr, _, hu⟩
  · skip
    obtain ⟨hI, hJ, ⟨d1, d2, d3, d4⟩, hjn, hH, hQ, hF⟩ := id h
    obtain ⟨i0, i1, i2, i3, i4, i5, i6, i7, i8, iJ, iH, iG, iQ⟩ := id hI
    unfold cdAddJoin at hc
    split at hc
    · exact absurd hc (by decide)
    split at hc
    · exact absurd hc (by decide)
    split at hc
    · exact absurd hc (by decide)
    rename_i a1 a2 a3
    have hIT : IA (jnS S ga gb gc) := IA_jn hI (by omega) (Nat.lt_of_lt_of_le h1 i1) (Nat.lt_of_lt_of_le h2 i1) (Nat.lt_of_lt_of_le h3 i1)
    obtain ⟨f1, f2, -⟩ := gr_facts hIT 5 (Nat.le_refl _)
    refine ab_yes (rb_join h (by omega) h1 h2 h3) (nI_pos' (by omega)) ?_ (fun a b => ?_)
    · dsimp only
      rw [f1]; rfl
    · dsimp only
      rw [f1, f2]; exact ⟨a, b⟩
  · exact ab_no h hr hu
theorem ab_request {S u : SA} {r : Int32} {a d : Int32} (h : RB S) (hp : ((cdReq (S.1 0) (S.1 6) (S.2.1 0) (wtg (S.1 6) (S.2.1 17) (S.2.1 15) (S.2.1 16) a d) a d = 0 ∧ r = nI (S.1 6)) ∧ u = (sN (sI (sI (sI (sI S 15 (upd (S.2.1 15) (S.1 6) a)) 16 (upd (S.2.1 16) (S.1 6) d)) 17 (upd (S.2.1 17) (S.1 6) (nI 119))) 18 (upd (S.2.1 18) (S.1 6) (nI (S.1 7)))) 6 (S.1 6 + 1))) ∨ ∃ q : Nat, ¬ q = 0 ∧ r = wneg q ∧ cdReq (S.1 0) (S.1 6) (S.2.1 0) (wtg (S.1 6) (S.2.1 17) (S.2.1 15) (S.2.1 16) a d) a d = q ∧ u = S) : AB 0 S u r := by
  rcases hp with ⟨⟨hc, rfl⟩, rfl⟩ | ⟨q, _, hr, _, hu⟩
  · skip
    obtain ⟨hI, hJ, ⟨d1, d2, d3, d4⟩, hjn, hH, hQ, hF⟩ := id h
    obtain ⟨i0, i1, i2, i3, i4, i5, i6, i7, i8, iJ, iH, iG, iQ⟩ := id hI
    unfold cdReq at hc
    split at hc
    · exact absurd hc (by decide)
    split at hc
    · exact absurd hc (by decide)
    split at hc
    · exact absurd hc (by decide)
    split at hc
    · exact absurd hc (by decide)
    rename_i a1 a2 a3 a4
    have hm : ¬ S.1 6 = 20 := fun z => a4 (by rw [z]; rfl)
    obtain ⟨j, hj, rfl⟩ := inR_of (n := 5) (x := a) (by decide) (by simpa using a1)
    refine ab_yes ⟨⟨i0, i1, i2, i3, i4, i5, show S.1 6 + 1 ≤ 20 by omega, i7, i8, iJ, iH, iG, ?_⟩, hJ, ⟨d1, d2, d3, d4⟩, hjn, hH, ⟨?_, ?_⟩, hF⟩ (nI_pos' (by omega)) rfl (fun a b => ⟨show 1 ≤ S.1 6 + 1 by omega, ?_⟩)
    · intro k hk
      have hk2 : k < S.1 6 + 1 := hk
      show ix (upd (S.2.1 15) (S.1 6) (nI j) k) < 5
      by_cases e : k = S.1 6
      · rw [e, pk_us, ix_nI (by omega)]; exact hj
      · rw [pk_un e]; exact iQ k (by omega)
    · intro k hk
      have hk2 : k < S.1 6 + 1 := hk
      show upd (S.2.1 17) (S.1 6) (nI 119) k = nI 119 ∨ upd (S.2.1 17) (S.1 6) (nI 119) k = nI 97 ∨ upd (S.2.1 17) (S.1 6) (nI 119) k = nI 120
      by_cases e : k = S.1 6
      · rw [e, pk_us]; exact Or.inl rfl
      · rw [pk_un e]; exact hQ.1 k (by omega)
    · intro k hk
      have hk2 : k < S.1 6 + 1 := hk
      show ∃ m, m ≤ S.1 7 ∧ upd (S.2.1 18) (S.1 6) (nI (S.1 7)) k = nI m
      by_cases e : k = S.1 6
      · rw [e, pk_us]; exact ⟨S.1 7, Nat.le_refl _, rfl⟩
      · rw [pk_un e]; exact hQ.2 k (by omega)
    · show upd (S.2.1 17) (S.1 6) (nI 119) 0 = nI 97
      rw [pk_un (by omega)]; exact b
  · exact ab_no h hr hu
theorem ab_answer {S u : SA} {r : Int32} {k : Int32} (h : RB S) (hp : (∃ g : Nat, (cdAns (S.1 6) (S.2.1 17) k = 0 ∧ k = nI g ∧ g < S.1 6 ∧ r = nI (gvC (sI S 17 (upd (S.2.1 17) g (nI 97))) (ix (S.2.1 15 g)) (S.2.1 16 g) (S.1 1))) ∧ u = (gvS (sI S 17 (upd (S.2.1 17) g (nI 97))) (ix (S.2.1 15 g)) (S.2.1 16 g) (S.1 1))) ∨ ∃ q : Nat, ¬ q = 0 ∧ r = wneg q ∧ cdAns (S.1 6) (S.2.1 17) k = q ∧ u = S) : AB 0 S u r := by
  rcases hp with ⟨g, ⟨hc, hd, hg, rfl⟩, rfl⟩ | ⟨q, _, hr, _, hu⟩
  · skip
    obtain ⟨hI, hJ, ⟨d1, d2, d3, d4⟩, hjn, hH, hQ, hF⟩ := id h
    obtain ⟨i0, i1, i2, i3, i4, i5, i6, i7, i8, iJ, iH, iG, iQ⟩ := id hI
    have hT := rb_st h (g := g) (c := 97) (Or.inl rfl)
    obtain ⟨r1, r2, r3, r4, r5⟩ := rb_gv hT (a := ix (S.2.1 15 g)) (d := S.2.1 16 g) (iQ g hg) (S.1 1) (Nat.le_refl _)
    refine ab_yes r1 (nI_pos' (by omega)) r2 (fun a b => ⟨by rw [r3]; exact a, ?_⟩)
    rw [r4]
    show upd (S.2.1 17) g (nI 97) 0 = nI 97
    by_cases e : 0 = g
    · rw [← e, pk_us]
    · rw [pk_un e]; exact b
  · exact ab_no h hr hu
theorem ab_withdraw {S u : SA} {r : Int32} {k : Int32} (h : RB S) (hp : (∃ g : Nat, (cdAns (S.1 6) (S.2.1 17) k = 0 ∧ k = nI g ∧ g < S.1 6 ∧ r = nI (fb_ct (fun z => decide (upd (S.2.1 17) g (nI 120) z = nI 119)) (S.1 6))) ∧ u = (sI S 17 (upd (S.2.1 17) g (nI 120)))) ∨ ∃ q : Nat, ¬ q = 0 ∧ r = wneg q ∧ cdAns (S.1 6) (S.2.1 17) k = q ∧ u = S) : AB 0 S u r := by
  rcases hp with ⟨g, ⟨hc, rfl, hg, rfl⟩, rfl⟩ | ⟨q, _, hr, _, hu⟩
  · skip
    obtain ⟨hI, hJ, ⟨d1, d2, d3, d4⟩, hjn, hH, hQ, hF⟩ := id h
    obtain ⟨i0, i1, i2, i3, i4, i5, i6, i7, i8, iJ, iH, iG, iQ⟩ := id hI
    have hct := fb_ct_le (fun z => decide (upd (S.2.1 17) g (nI 120) z = nI 119)) (S.1 6)
    have hs : S.2.1 17 g = nI 119 := by
      unfold cdAns at hc
      split at hc
      · exact absurd hc (by decide)
      split at hc
      · rename_i a1 a2
        rw [ix_nI (by omega)] at a2
        exact a2
      · exact absurd hc (by decide)
    refine ab_yes (rb_st h (g := g) (c := 120) (Or.inr rfl)) (nI_pos' (by omega)) rfl (fun a b => ⟨a, ?_⟩)
    show upd (S.2.1 17) g (nI 120) 0 = nI 97
    by_cases e : 0 = g
    · rw [← e, b] at hs
      exact absurd hs (by decide)
    · rw [pk_un e]; exact b
  · exact ab_no h hr hu
theorem ab_setPrice {S u : SA} {r : Int32} {z : Int32} (h : RB S) (hp : (∃ g : Nat, (cdPrice z = 0 ∧ z = nI g ∧ g ≤ 99 ∧ r = nI (S.1 8)) ∧ u = (sN S 8 g)) ∨ ∃ q : Nat, ¬ q = 0 ∧ r = wneg q ∧ cdPrice z = q ∧ u = S) : AB 0 S u r := by
  rcases hp with ⟨g, ⟨hc, hd, hg, rfl⟩, rfl⟩ | ⟨q, _, hr, _, hu⟩
  · skip
    obtain ⟨hI, hJ, ⟨d1, d2, d3, d4⟩, hjn, hH, hQ, hF⟩ := id h
    obtain ⟨i0, i1, i2, i3, i4, i5, i6, i7, i8, iJ, iH, iG, iQ⟩ := id hI
    exact ab_yes ⟨⟨i0, i1, i2, i3, i4, i5, i6, i7, hg, iJ, iH, iG, iQ⟩, hJ, ⟨d1, d2, d3, d4⟩, hjn, hH, hQ, hF⟩ (nI_pos' (by omega)) rfl (fun a b => ⟨a, b⟩)
  · exact ab_no h hr hu
theorem ab_pay {S u : SA} {r : Int32} {a z : Int32} (h : RB S) (hp : (∃ g : Nat, (cdPay (S.2.1 0) a z = 0 ∧ a = nI g ∧ g < 5 ∧ r = S.2.1 0 g - z) ∧ u = (sI S 0 (upd (S.2.1 0) g (S.2.1 0 g - z)))) ∨ ∃ q : Nat, ¬ q = 0 ∧ r = wneg q ∧ cdPay (S.2.1 0) a z = q ∧ u = S) : AB 0 S u r := by
  rcases hp with ⟨g, ⟨hc, rfl, hg, rfl⟩, rfl⟩ | ⟨q, _, hr, _, hu⟩
  · skip
    obtain ⟨hI, hJ, ⟨d1, d2, d3, d4⟩, hjn, hH, hQ, hF⟩ := id h
    obtain ⟨i0, i1, i2, i3, i4, i5, i6, i7, i8, iJ, iH, iG, iQ⟩ := id hI
    obtain ⟨w, hw, ew⟩ := hF.1 g hg
    have h9 := hF.2
    unfold cdPay at hc
    split at hc
    · exact absurd hc (by decide)
    split at hc
    · rename_i a1 a2
      rw [ix_nI (by omega), inB, Bool.and_eq_true, Bool.not_eq_true', Bool.not_eq_true', decide_eq_false_iff_not, decide_eq_false_iff_not, ew] at a2
      obtain ⟨j, hj1, hj2, rfl⟩ := nI_rng (n := w) (by omega) a2.1 (Int32.not_lt.mp a2.2)
      have e : S.2.1 0 g - nI j = nI (w - j) := by rw [ew, pk_sub hj2]
      refine ab_yes ⟨hI, hJ, ⟨d1, d2, d3, d4⟩, hjn, hH, hQ, ⟨?_, h9⟩⟩ (by rw [e]; exact nI_pos' (by omega)) rfl (fun a b => ⟨a, b⟩)
      intro a ha
      show ∃ z, z ≤ S.1 9 ∧ upd (S.2.1 0) g (S.2.1 0 g - nI j) a = nI z
      by_cases hag : a = g
      · rw [hag, pk_us, e]; exact ⟨w - j, by omega, rfl⟩
      · rw [pk_un hag]; exact hF.1 a ha
    · exact absurd hc (by decide)
  · exact ab_no h hr hu
theorem ab_pass {S u : SA} {r : Int32} {z : Int32} (h : RB S) (hp : (∃ g : Nat, (cdPass (S.1 7) z = 0 ∧ z = nI g ∧ (1 ≤ g ∧ g ≤ 90 ∧ S.1 7 + g ≤ 9999) ∧ r = nI (lateC (S.1 6) (S.2.1 17) (S.2.1 18) (S.1 7 + g)) - nI (lateC (S.1 6) (S.2.1 17) (S.2.1 18) (S.1 7))) ∧ u = (sN S 7 (S.1 7 + g))) ∨ ∃ q : Nat, ¬ q = 0 ∧ r = wneg q ∧ cdPass (S.1 7) z = q ∧ u = S) : AB 0 S u r := by
  rcases hp with ⟨g, ⟨hc, rfl, ⟨hg1, hg2, hg3⟩, rfl⟩, rfl⟩ | ⟨q, _, hr, _, hu⟩
  · skip
    obtain ⟨hI, hJ, ⟨d1, d2, d3, d4⟩, hjn, hH, hQ, hF⟩ := id h
    obtain ⟨i0, i1, i2, i3, i4, i5, i6, i7, i8, iJ, iH, iG, iQ⟩ := id hI
    have hle : lateC (S.1 6) (S.2.1 17) (S.2.1 18) (S.1 7) ≤ lateC (S.1 6) (S.2.1 17) (S.2.1 18) (S.1 7 + g) := fb_ct_sub (fun k hk h2 => by
      obtain ⟨m, hm, em⟩ := hQ.2 k hk
      rw [Bool.and_eq_true, Bool.not_eq_true', decide_eq_false_iff_not, em, pk_sub hm] at h2
      rw [Bool.and_eq_true, Bool.not_eq_true', decide_eq_false_iff_not, em, pk_sub (by omega)]
      refine ⟨h2.1, fun z => h2.2 ?_⟩
      have h3 := (nI_leI (by omega) (by omega)).mp z
      exact (nI_leI (by omega) (by omega)).mpr (by omega))
    have hct : lateC (S.1 6) (S.2.1 17) (S.2.1 18) (S.1 7 + g) ≤ S.1 6 := fb_ct_le _ _
    refine ab_yes ⟨⟨i0, i1, i2, i3, i4, i5, i6, hg3, i8, iJ, iH, iG, iQ⟩, hJ, ⟨d1, d2, d3, d4⟩, hjn, hH, ⟨hQ.1, ?_⟩, hF⟩ (by rw [pk_sub hle]; exact nI_pos' (by omega)) rfl (fun a b => ⟨a, b⟩)
    intro k hk
    obtain ⟨m, hm, em⟩ := hQ.2 k hk
    exact ⟨m, Nat.le_trans hm (Nat.le_add_right _ _), em⟩
  · exact ab_no h hr hu
