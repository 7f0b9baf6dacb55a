theorem yy_locq {p : Program} {l : Launch} {e : Env} {R : Room} {s : State} {m : MethodId} {args : Array Value} {below : List Frame} {meth : Method} {c : Code} {nL : Nat} {G : gG} {B0 : Nat} {Q : State → Prop} {pc : Nat} {L L' : List (Nat × Value)} {st : List Value} {w : va_W} {cs ss : Nat} (h : L = L') (k : YY p l e R s m args below meth c G B0 nL Q pc L' st w cs ss) : YY p l e R s m args below meth c G B0 nL Q pc L st w cs ss := by rw [h]; exact k
theorem mut_no {P : Prop} {CD k : Nat} {r : Int32} {u S : SA} (h : P ∨ ∃ q : Nat, ¬ q = 0 ∧ r = wneg q ∧ CD = q ∧ u = S) (hk : CD = k) (h0 : P → CD = 0) (hne : ¬ k = 0) : r = wneg k ∧ u = S := by
  rcases h with h | ⟨q, h1, h2, h3, h4⟩
  · exact absurd (hk.symm.trans (h0 h)) hne
  · exact ⟨by rw [h2, ← h3, hk], h4⟩
def anT (S : SA) (g : Nat) : SA := sI (sN S 8 7) 17 (upd (S.2.1 17) g (nI 97))
def anA (S : SA) (g : Nat) : Nat := ix (S.2.1 15 g)
def anS (S : SA) (g : Nat) : SA := gvS (anT S g) (anA S g) (S.2.1 16 g) (S.1 1)
def anC (S : SA) (g : Nat) : Nat := gvC (anT S g) (anA S g) (S.2.1 16 g) (S.1 1)
def anU (S : SA) (g : Nat) : SA := sN (anS S g) 8 (S.1 8)
def nw (S : SA) (g a k : Nat) : Bool := hb (anS S g) a k && !hb S a k
def gsf (S : SA) (g a k : Nat) : Nat := if anA S g < a then fb_ct (nw S g (anA S g)) (S.1 1) else if a = anA S g then fb_ct (nw S g a) k else 0
def b01 (b : Bool) : Nat := if b = true then 1 else 0
theorem dif_bit {a b k : Nat} : (dif a b).testBit k = (a.testBit k && !b.testBit k) := by
  unfold dif
  rw [Nat.testBit_xor, Nat.testBit_and]
  cases a.testBit k <;> cases b.testBit k <;> rfl
theorem fst_nn {p : Nat → Bool} : ∀ {n : Nat}, fstB p n = none → ∀ k, k < n → p k = false
  | 0, _, k, hk => absurd hk (Nat.not_lt_zero k)
  | n + 1, h, k, hk => by
    rw [fstB] at h
    cases e : fstB p n with
    | some q => rw [e] at h; cases h
    | none =>
      rw [e] at h
      by_cases hkn : k = n
      · subst hkn
        cases e2 : p k with
        | false => rfl
        | true => rw [e2] at h; cases h
      · exact fst_nn e k (by omega)
theorem free_hid {X : SA} {a i : Nat} (hn : X.1 1 ≤ 40) (hi : i < X.1 1) (h : freeB X a i = true) : hb X a i = false ∧ hidA X i = false ∧ ∀ k, k < X.1 1 → (cloA X (mk (X.2.2 0 a) ||| 2 ^ i)).testBit k = true → hb X a k = false → hidA X k = false := by
  unfold freeB at h
  rw [Bool.and_eq_true, Bool.not_eq_true', decide_eq_true_eq] at h
  obtain ⟨h1, h2⟩ := h
  refine ⟨h1, ?_⟩
  unfold protI at h2
  cases hh : hidA X i with
  | true => rw [hh, if_pos rfl] at h2; exact absurd h2 (r_m1 i (by omega))
  | false =>
    refine ⟨rfl, fun k hk hc hb0 => ?_⟩
    rw [hh, if_neg (by decide)] at h2
    cases e : fstB (fun k => (dif (cloA X (mk (X.2.2 0 a) ||| 2 ^ i)) (mk (X.2.2 0 a))).testBit k && hidA X k) (X.1 1) with
    | some q =>
      have h3 := (fst_lt e).1
      simp only [fstI, e] at h2
      exact absurd h2 (r_m1 q (by omega))
    | none =>
      have h3 := fst_nn e k hk
      rw [dif_bit, hc] at h3
      have h4 : (mk (X.2.2 0 a)).testBit k = false := hb0
      rw [h4] at h3
      simpa using h3
theorem gv_stat {T : SA} {a : Nat} {d : Int32} : ∀ i, (gvS T a d i).1 1 = T.1 1 ∧ (gvS T a d i).1 8 = T.1 8 ∧ (gvS T a d i).1 6 = T.1 6 ∧ (gvS T a d i).2.1 17 = T.2.1 17 ∧ (∀ k, hidA (gvS T a d i) k = hidA T k) ∧ (gvS T a d i).1 9 = T.1 9 + T.1 8 * gvC T a d i
  | 0 => ⟨rfl, rfl, rfl, rfl, fun _ => rfl, rfl⟩
  | i + 1 => by
    obtain ⟨h1, h2, h3, h4, h5, h6⟩ := gv_stat (T := T) (a := a) (d := d) i
    by_cases hc : gvB (gvS T a d i) a d i = true
    · rw [(gv_t hc).1, (gv_t hc).2]
      refine ⟨h1, h2, h3, h4, h5, ?_⟩
      show (gvS T a d i).1 9 + (gvS T a d i).1 8 = T.1 9 + T.1 8 * (gvC T a d i + 1)
      rw [h6, h2, Nat.mul_succ, Nat.add_assoc]
    · have hc2 : gvB (gvS T a d i) a d i = false := by simpa using hc
      rw [(gv_f hc2).1, (gv_f hc2).2]
      exact ⟨h1, h2, h3, h4, h5, h6⟩
theorem gv_free {T : SA} {a : Nat} {d : Int32} {i : Nat} (hc : gvB (gvS T a d i) a d i = true) : freeB (gvS T a d i) a i = true := by
  unfold gvB at hc
  rw [Bool.and_eq_true] at hc
  exact hc.2
theorem gv_up {T : SA} (h : RB T) {a : Nat} {d : Int32} (ha : a < 5) {z k : Nat} (hz : hb T z k = true) : ∀ i, i ≤ T.1 1 → hb (gvS T a d i) z k = true
  | 0, _ => hz
  | i + 1, hi => by
    have h1 := gv_up h (d := d) ha hz i (by omega)
    obtain ⟨r1, r2, -⟩ := rb_gv h (d := d) ha i (by omega)
    have hn := h.n
    by_cases hc : gvB (gvS T a d i) a d i = true
    · rw [(gv_t hc).1, hb_gi r1.1 (by omega) ha]
      by_cases e : z = a
      · rw [if_pos e]
        refine cloA_up0 ?_
        subst e
        have h2 : (mk ((gvS T z d i).2.2 0 z)).testBit k = true := h1
        rw [Nat.testBit_or, h2]; rfl
      · rw [if_neg e]; exact h1
    · rw [(gv_f (by simpa using hc)).1]; exact h1
theorem gv_new {T : SA} (h : RB T) {a : Nat} {d : Int32} (ha : a < 5) : ∀ i, i ≤ T.1 1 → ∀ z k, z < 5 → hb (gvS T a d i) z k = true → hb T z k = false → z = a ∧ hidA T k = false
  | 0, _, z, k, _, h1, h2 => by
    have h3 : hb T z k = true := h1
    rw [h2] at h3; cases h3
  | i + 1, hi, z, k, hz, h1, h2 => by
    have ih := gv_new h (d := d) ha i (by omega) z k hz
    obtain ⟨r1, r2, -⟩ := rb_gv h (d := d) ha i (by omega)
    have hn := h.n
    by_cases hc : gvB (gvS T a d i) a d i = true
    · rw [(gv_t hc).1] at h1
      have hf := gv_free hc
      have rg := rb_gi r1 ha (k := i) (by omega) hf
      cases e3 : hb (gvS T a d i) z k with
      | true => exact ih e3 h2
      | false =>
        have hkn : k < T.1 1 := by
          refine Nat.not_le.mp fun hle => ?_
          have h5 := r_mask rg hz (k := k) (by rw [show (giS (gvS T a d i) a i).1 1 = (gvS T a d i).1 1 from rfl, r2]; exact hle)
          rw [h1] at h5; cases h5
        rw [hb_gi r1.1 (by omega) ha] at h1
        by_cases e : z = a
        · rw [if_pos e] at h1
          refine ⟨e, ?_⟩
          subst e
          have h6 := (free_hid r1.n (i := i) (by omega) hf).2.2 k (by omega) h1 e3
          rw [(gv_stat i).2.2.2.2.1] at h6
          exact h6
        · rw [if_neg e, e3] at h1; cases h1
    · rw [(gv_f (by simpa using hc)).1] at h1
      exact ih h1 h2
def nwT (T : SA) (a : Nat) (d : Int32) (i z k : Nat) : Bool := hb (gvS T a d i) z k && !hb T z k
theorem gv_cnt {T : SA} (h : RB T) {a : Nat} {d : Int32} (ha : a < 5) : ∀ i, i ≤ T.1 1 → gvC T a d i ≤ fb_ct (nwT T a d i a) (T.1 1)
  | 0, _ => Nat.zero_le _
  | i + 1, hi => by
    have ih := gv_cnt h (d := d) ha i (by omega)
    obtain ⟨r1, r2, -⟩ := rb_gv h (d := d) ha i (by omega)
    have hn := h.n
    by_cases hc : gvB (gvS T a d i) a d i = true
    · rw [(gv_t hc).2]
      have hf := gv_free hc
      have hfi := (free_hid r1.n (i := i) (by omega) hf).1
      refine Nat.lt_of_le_of_lt ih (ct_lt (fun k hk hp => ?_) ⟨i, by omega, ?_, ?_⟩)
      · unfold nwT at hp ⊢
        rw [Bool.and_eq_true] at hp ⊢
        refine ⟨?_, hp.2⟩
        rw [(gv_t hc).1, hb_gi r1.1 (by omega) ha, if_pos rfl]
        refine cloA_up0 ?_
        have h2 : (mk ((gvS T a d i).2.2 0 a)).testBit k = true := hp.1
        rw [Nat.testBit_or, h2]; rfl
      · unfold nwT
        rw [hfi]; rfl
      · unfold nwT
        rw [(gv_t hc).1, hb_gi r1.1 (by omega) ha, if_pos rfl, cloA_up0 or_self_t]
        cases e : hb T a i with
        | false => rfl
        | true =>
          have h3 := gv_up h (d := d) ha e i (by omega)
          rw [hfi] at h3; cases h3
    · have hc2 : gvB (gvS T a d i) a d i = false := by simpa using hc
      rw [(gv_f hc2).2]
      unfold nwT at ih ⊢
      rw [(gv_f hc2).1]
      exact ih
theorem gv_0 {T : SA} {a : Nat} {d : Int32} : ∀ i, gvC T a d i = 0 → gvS T a d i = T
  | 0, _ => rfl
  | i + 1, h => by
    by_cases hc : gvB (gvS T a d i) a d i = true
    · rw [(gv_t hc).2] at h
      omega
    · have hc2 : gvB (gvS T a d i) a d i = false := by simpa using hc
      rw [(gv_f hc2).2] at h
      rw [(gv_f hc2).1]
      exact gv_0 i h
theorem an_a {S : SA} {g : Nat} (hR : RI S) (hg : g < S.1 6) : anA S g < 5 := hR.1.1.2.2.2.2.2.2.2.2.2.2.2.2 g hg
theorem an_cases {S : SA} (hR : RB S) (x : Int32) : (qState S x = (-1) ∧ cdAns (S.1 6) (S.2.1 17) x = 1) ∨ (qState S x = nI 97 ∧ cdAns (S.1 6) (S.2.1 17) x = 2) ∨ (qState S x = nI 120 ∧ cdAns (S.1 6) (S.2.1 17) x = 2) ∨ ∃ g, g < S.1 6 ∧ x = nI g ∧ qState S x = nI 119 ∧ S.2.1 17 g = nI 119 := by
  have h6 := hR.1.2.2.2.2.2.2.1
  cases e : inR x (S.1 6) with
  | false =>
    refine Or.inl ⟨?_, ?_⟩
    · rw [qState, cd1, if_neg (by rw [e]; decide)]; rfl
    · rw [cdAns, if_pos e]
  | true =>
    obtain ⟨g, hg, rfl⟩ := inR_of (by omega) e
    have eq : qState S (nI g) = S.2.1 17 g := by rw [qState, cd1_y (by omega) hg, wq0, ix_nI (by omega)]
    rcases hR.2.2.2.2.2.1.1 g hg with h | h | h
    · exact Or.inr (Or.inr (Or.inr ⟨g, hg, rfl, eq.trans h, h⟩))
    · exact Or.inr (Or.inl ⟨eq.trans h, ans_2 h6 hg (by rw [h]; decide)⟩)
    · exact Or.inr (Or.inr (Or.inl ⟨eq.trans h, ans_2 h6 hg (by rw [h]; decide)⟩))
theorem pr_ok {S u : SA} {r z : Int32} {k : Nat} (hp : (∃ g : Nat, (cdPrice z = 0 ∧ z = nI g ∧ g ≤ 99 ∧ r = nI (S.1 8)) ∧ u = (sN S 8 g)) ∨ ∃ q : Nat, ¬ q = 0 ∧ r = wneg q ∧ cdPrice z = q ∧ u = S) (hz : z = nI k) (hk : k ≤ 99) : r = nI (S.1 8) ∧ u = sN S 8 k := by
  subst hz
  rcases hp with ⟨g, ⟨_, hg, hg2, hr⟩, hu⟩ | ⟨q, hq, _, h3, _⟩
  · obtain rfl : k = g := (nI_eq (by omega) (by omega)).mp hg
    exact ⟨hr, hu⟩
  · have h4 : ∀ k, k < 100 → cdPrice (nI k) = 0 := by decide +kernel
    exact absurd (h3.symm.trans (h4 k (by omega))) hq
theorem rb_price {S : SA} (hR : RB S) {k : Nat} (hk : k ≤ 99) : RB (sN S 8 k) := by
  obtain ⟨⟨i0, i1, i2, i3, i4, i5, i6, i7, i8, iJ, iH, iG, iQ⟩, hJ, hD, hjn, hH, hQ, hF⟩ := id hR
  exact ⟨⟨i0, i1, i2, i3, i4, i5, i6, i7, hk, iJ, iH, iG, iQ⟩, hJ, hD, hjn, hH, hQ, hF⟩
theorem an_t {S : SA} {g : Nat} (hR : RI S) : RB (anT S g) := rb_st (S := sN S 8 7) (rb_price hR.1 (by decide)) (Or.inl rfl)
theorem an_yes {S u : SA} {r : Int32} {g_ : Nat} (hR : RB S) (hg : g_ < S.1 6) (hs : S.2.1 17 g_ = nI 119) (hp : (∃ g : Nat, (cdAns ((sN S 8 7).1 6) ((sN S 8 7).2.1 17) (nI g_) = 0 ∧ (nI g_) = nI g ∧ g < (sN S 8 7).1 6 ∧ r = nI (gvC (sI (sN S 8 7) 17 (upd ((sN S 8 7).2.1 17) g (nI 97))) (ix ((sN S 8 7).2.1 15 g)) ((sN S 8 7).2.1 16 g) ((sN S 8 7).1 1))) ∧ u = (gvS (sI (sN S 8 7) 17 (upd ((sN S 8 7).2.1 17) g (nI 97))) (ix ((sN S 8 7).2.1 15 g)) ((sN S 8 7).2.1 16 g) ((sN S 8 7).1 1))) ∨ ∃ q : Nat, ¬ q = 0 ∧ r = wneg q ∧ cdAns ((sN S 8 7).1 6) ((sN S 8 7).2.1 17) (nI g_) = q ∧ u = (sN S 8 7)) : r = nI (anC S g_) ∧ u = anS S g_ := by
  have h6 := hR.1.2.2.2.2.2.2.1
  rcases hp with ⟨g, ⟨_, e, hg2, hr⟩, hu⟩ | ⟨q, hq, _, h3, _⟩
  · obtain rfl : g_ = g := (nI_eq (by omega) (Nat.lt_of_lt_of_le (show g < S.1 6 from hg2) (by omega))).mp e
    exact ⟨hr, hu⟩
  · exact absurd (h3.symm.trans (ans_0 (q := S.2.1 17) h6 hg hs)) hq
theorem an_rb {S : SA} {g : Nat} (hR : RI S) (hg : g < S.1 6) (hs : S.2.1 17 g = nI 119) : RI (anS S g) := by
  obtain ⟨r1, r2, r3, r4, r5⟩ := rb_gv (an_t hR (g := g)) (d := S.2.1 16 g) (an_a hR hg) (S.1 1) (Nat.le_refl _)
  refine ⟨r1, r3.symm ▸ hR.2.1, ?_⟩
  refine (congrFun r4 0).trans ?_
  show upd (S.2.1 17) g (nI 97) 0 = nI 97
  by_cases e : 0 = g
  · rw [← e, pk_us]
  · rw [pk_un e]; exact hR.2.2
theorem an_ru {S : SA} {g : Nat} (hR : RI S) (hg : g < S.1 6) (hs : S.2.1 17 g = nI 119) : RI (anU S g) := by
  have h := an_rb hR hg hs
  exact ⟨rb_price h.1 hR.1.1.2.2.2.2.2.2.2.2.1, h.2⟩
theorem an_n {S : SA} {g : Nat} (hR : RI S) : (anS S g).1 1 = S.1 1 := by
  exact (gv_stat (S.1 1)).1
theorem an_c {S : SA} {g : Nat} (hR : RI S) (hg : g < S.1 6) (hs : S.2.1 17 g = nI 119) : anC S g ≤ gsf S g 5 0 ∧ (anC S g = 0 → gsf S g 5 0 = 0) ∧ gsf S g 5 0 ≤ 40 := by
  have ha := an_a hR hg
  have hn := hR.1.n
  have e : gsf S g 5 0 = fb_ct (nw S g (anA S g)) (S.1 1) := if_pos ha
  have e2 : nw S g (anA S g) = nwT (anT S g) (anA S g) (S.2.1 16 g) (S.1 1) (anA S g) := rfl
  rw [e]
  refine ⟨?_, fun z => ?_, Nat.le_trans (fb_ct_le _ _) hn⟩
  · rw [e2]
    exact gv_cnt (an_t hR) ha (S.1 1) (Nat.le_refl _)
  · refine fb_ct_zero.mpr fun k hk => ?_
    have h3 : anS S g = anT S g := gv_0 (S.1 1) z
    rw [nw, h3]
    show (hb S (anA S g) k && !hb S (anA S g) k) = false
    cases hb S (anA S g) k <;> rfl
theorem an_fee {S : SA} {g : Nat} (hR : RI S) : (anU S g).1 9 = S.1 9 + 7 * anC S g := by
  exact (gv_stat (S.1 1)).2.2.2.2.2
theorem an_st {S : SA} {g : Nat} (hR : RI S) (hg : g < S.1 6) : qState (anU S g) (nI g) = nI 97 := by
  have h6 := hR.1.1.2.2.2.2.2.2.1
  have e1 : (anU S g).1 6 = S.1 6 := (gv_stat (S.1 1)).2.2.1
  have e2 : (anU S g).2.1 17 = upd (S.2.1 17) g (nI 97) := (gv_stat (S.1 1)).2.2.2.1
  rw [qState, e1, e2, cd1_y (by omega) hg, wq0, ix_nI (by omega), pk_us]
theorem an_pr {S : SA} {g : Nat} (hR : RI S) : (anS S g).1 8 = 7 := by
  exact (gv_stat (S.1 1)).2.1
theorem an_new {S : SA} {g a k : Nat} (hR : RI S) (hg : g < S.1 6) (hs : S.2.1 17 g = nI 119) (ha : a < 5) (hk : k < S.1 1) (h : nw S g a k = true) : a = anA S g ∧ hidA (anS S g) k = false := by
  rw [nw, Bool.and_eq_true, Bool.not_eq_true'] at h
  obtain ⟨e1, e2⟩ := gv_new (an_t hR (g := g)) (d := S.2.1 16 g) (an_a hR hg) (S.1 1) (Nat.le_refl _) a k ha h.1 h.2
  exact ⟨e1, ((gv_stat (S.1 1)).2.2.2.2.1 k).trans e2⟩
theorem gs_0 {S : SA} {g : Nat} : gsf S g 0 0 = 0 := by
  unfold gsf
  rw [if_neg (Nat.not_lt_zero _)]
  split <;> rfl
theorem gs_step {S : SA} {g a k : Nat} (hR : RI S) (hg : g < S.1 6) (hs : S.2.1 17 g = nI 119) (ha : a < 5) (hk : k < S.1 1) : gsf S g a (k + 1) = gsf S g a k + b01 (nw S g a k) := by
  have key : ¬ a = anA S g → nw S g a k = false := fun z => by
    cases e : nw S g a k with
    | false => rfl
    | true => exact absurd (an_new hR hg hs ha hk e).1 z
  unfold gsf
  by_cases h1 : anA S g < a
  · rw [if_pos h1, if_pos h1, key (by omega)]; rfl
  · rw [if_neg h1, if_neg h1]
    by_cases h2 : a = anA S g
    · rw [if_pos h2, if_pos h2, fb_ct_succ]; rfl
    · rw [if_neg h2, if_neg h2, key h2]; rfl
theorem gs_next {S : SA} {g a : Nat} : gsf S g a (S.1 1) = gsf S g (a + 1) 0 := by
  unfold gsf
  by_cases h1 : anA S g < a
  · rw [if_pos h1, if_pos (by omega)]
  · rw [if_neg h1]
    by_cases h2 : a = anA S g
    · rw [if_pos h2, if_pos (by omega), ← h2]
    · rw [if_neg h2, if_neg (by omega)]
      split <;> rfl
/-- what the row of old holdings holds, up to a and k -/
def BFR (S : SA) (bf : Nat → Int32) (a k : Nat) : Prop := ∀ i j, i < 5 → j < S.1 1 → (i < a ∨ (i = a ∧ j < k)) → bf (S.1 1 * i + j) = nI (b01 (hb S i j))
theorem idx_ltn {n a k : Nat} (ha : a < 5) (hk : k < n) : n * a + k < 5 * n := by
  have h1 : n * a + n ≤ n * 5 := by rw [← Nat.mul_succ]; exact Nat.mul_le_mul_left _ ha
  omega
theorem bf_step {S : SA} {bf : Nat → Int32} {a k : Nat} (h : BFR S bf a k) (hk : k < S.1 1) : BFR S (upd bf (S.1 1 * a + k) (nI (b01 (hb S a k)))) a (k + 1) := by
  intro i j hi hj h2
  by_cases e : i = a ∧ j = k
  · obtain ⟨rfl, rfl⟩ := e
    rw [pk_us]
  · have h3 : i < a ∨ (i = a ∧ j < k) := by omega
    have hne : ¬ S.1 1 * i + j = S.1 1 * a + k := by
      rcases h3 with h3 | ⟨rfl, h3⟩
      · have h4 : S.1 1 * i + S.1 1 ≤ S.1 1 * a := by rw [← Nat.mul_succ]; exact Nat.mul_le_mul_left _ h3
        omega
      · omega
    rw [pk_un hne]
    exact h i j hi hj h3
theorem bf_next {S : SA} {bf : Nat → Int32} {a : Nat} (h : BFR S bf a (S.1 1)) : BFR S bf (a + 1) 0 := by
  intro i j hi hj h2
  refine h i j hi hj ?_
  omega
theorem an_nle {k : Nat} (h : 0 < k) (h2 : k < 2 ^ 31) : ¬ nI k ≤ 0 := by
  rw [Int32.le_iff_toInt_le, nI_toInt h2, Int32.toInt_zero]
  omega
theorem an_i2l {k : Nat} (h : k ≤ 40) : (nI k).toInt64 = lN k := by
  have h2 : ∀ k, k < 41 → (nI k).toInt64 = lN k := by decide +kernel
  exact h2 k (by omega)
theorem an_7 {k : Nat} (h : k ≤ 40) : (7 : Int64) * lN k = lN (7 * k) := by
  have h2 : ∀ k, k < 41 → (7 : Int64) * lN k = lN (7 * k) := by decide +kernel
  exact h2 k (by omega)
theorem hd_01 {S : SA} {a k : Nat} (hR : RB S) (ha : a < 5) (hk : k < S.1 1) : qHolds S (nI a) (nI k) = nI (b01 (hb S a k)) := hd_holds hR ha hk
