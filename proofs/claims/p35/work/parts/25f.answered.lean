theorem yy_locq {p : Program} {l : Launch} {e : Env} {R : Room} {s : State} {m : MethodId} {args : Array Value} {below : List Frame} {meth : Method} {c : Code} {nL : Nat} {G : gG} {B0 : Nat} {Q : State → Prop} {pc : Nat} {L L' : List (Nat × Value)} {st : List Value} {w : va_W} {cs ss : Nat} (h : L = L') (k : YY p l e R s m args below meth c G B0 nL Q pc L' st w cs ss) : YY p l e R s m args below meth c G B0 nL Q pc L st w cs ss := by rw [h]; exact k
theorem mut_no {P : Prop} {CD k : Nat} {r : Int32} {u S : SA} (h : P ∨ ∃ q : Nat, ¬ q = 0 ∧ r = wneg q ∧ CD = q ∧ u = S) (hk : CD = k) (h0 : P → CD = 0) (hne : ¬ k = 0) : r = wneg k ∧ u = S := by
  rcases h with h | ⟨q, h1, h2, h3, h4⟩
  · exact absurd (hk.symm.trans (h0 h)) hne
  · exact ⟨by rw [h2, ← h3, hk], h4⟩
def anT (S : SA) (g : Nat) : SA := sI (sN S 8 7) 17 (upd (S.2.1 17) g (nI 97))
def anA (S : SA) (g : Nat) : Nat := ix (S.2.1 15 g)
def anS (S : SA) (g : Nat) : SA := gvS (anT S g) (anA S g) (S.2.1 16 g) (S.1 1)
def anC (S : SA) (g : Nat) : Nat := gvC (anT S g) (anA S g) (S.2.1 16 g) (S.1 1)
def anU (S : SA) (g : Nat) : SA := sN (anS S g) 8 (S.1 8)
def nw (S : SA) (g a k : Nat) : Bool := hb (anS S g) a k && !hb S a k
def gsf (S : SA) (g a k : Nat) : Nat := if anA S g < a then fb_ct (nw S g (anA S g)) (S.1 1) else if a = anA S g then fb_ct (nw S g a) k else 0
def b01 (b : Bool) : Nat := if b = true then 1 else 0
theorem an_cases {S : SA} (hR : RB S) (x : Int32) : (qState S x = (-1) ∧ cdAns (S.1 6) (S.2.1 17) x = 1) ∨ (qState S x = nI 97 ∧ cdAns (S.1 6) (S.2.1 17) x = 2) ∨ (qState S x = nI 120 ∧ cdAns (S.1 6) (S.2.1 17) x = 2) ∨ ∃ g, g < S.1 6 ∧ x = nI g ∧ qState S x = nI 119 ∧ S.2.1 17 g = nI 119 := by
  sorry
theorem pr_ok {S u : SA} {r z : Int32} {k : Nat} (hp : (∃ g : Nat, (cdPrice z = 0 ∧ z = nI g ∧ g ≤ 99 ∧ r = nI (S.1 8)) ∧ u = (sN S 8 g)) ∨ ∃ q : Nat, ¬ q = 0 ∧ r = wneg q ∧ cdPrice z = q ∧ u = S) (hz : z = nI k) (hk : k ≤ 99) : r = nI (S.1 8) ∧ u = sN S 8 k := by
  sorry
theorem rb_price {S : SA} (hR : RB S) {k : Nat} (hk : k ≤ 99) : RB (sN S 8 k) := by
  sorry
theorem an_yes {S u : SA} {r : Int32} {g_ : Nat} (hR : RB S) (hg : g_ < S.1 6) (hs : S.2.1 17 g_ = nI 119) (hp : (∃ g : Nat, (cdAns ((sN S 8 7).1 6) ((sN S 8 7).2.1 17) (nI g_) = 0 ∧ (nI g_) = nI g ∧ g < (sN S 8 7).1 6 ∧ r = nI (gvC (sI (sN S 8 7) 17 (upd ((sN S 8 7).2.1 17) g (nI 97))) (ix ((sN S 8 7).2.1 15 g)) ((sN S 8 7).2.1 16 g) ((sN S 8 7).1 1))) ∧ u = (gvS (sI (sN S 8 7) 17 (upd ((sN S 8 7).2.1 17) g (nI 97))) (ix ((sN S 8 7).2.1 15 g)) ((sN S 8 7).2.1 16 g) ((sN S 8 7).1 1))) ∨ ∃ q : Nat, ¬ q = 0 ∧ r = wneg q ∧ cdAns ((sN S 8 7).1 6) ((sN S 8 7).2.1 17) (nI g_) = q ∧ u = (sN S 8 7)) : r = nI (anC S g_) ∧ u = anS S g_ := by
  sorry
theorem an_rb {S : SA} {g : Nat} (hR : RI S) (hg : g < S.1 6) (hs : S.2.1 17 g = nI 119) : RI (anS S g) := by
  sorry
theorem an_ru {S : SA} {g : Nat} (hR : RI S) (hg : g < S.1 6) (hs : S.2.1 17 g = nI 119) : RI (anU S g) := by
  sorry
theorem an_n {S : SA} {g : Nat} (hR : RI S) : (anS S g).1 1 = S.1 1 := by
  sorry
theorem an_c {S : SA} {g : Nat} (hR : RI S) (hg : g < S.1 6) (hs : S.2.1 17 g = nI 119) : anC S g ≤ gsf S g 5 0 ∧ (anC S g = 0 → gsf S g 5 0 = 0) ∧ gsf S g 5 0 ≤ 40 := by
  sorry
theorem an_fee {S : SA} {g : Nat} (hR : RI S) : (anU S g).1 9 = S.1 9 + 7 * anC S g := by
  sorry
theorem an_st {S : SA} {g : Nat} (hR : RI S) (hg : g < S.1 6) : qState (anU S g) (nI g) = nI 97 := by
  sorry
theorem an_pr {S : SA} {g : Nat} (hR : RI S) : (anS S g).1 8 = 7 := by
  sorry
theorem an_new {S : SA} {g a k : Nat} (hR : RI S) (hg : g < S.1 6) (hs : S.2.1 17 g = nI 119) (ha : a < 5) (hk : k < S.1 1) (h : nw S g a k = true) : a = anA S g ∧ hidA (anS S g) k = false := by
  sorry
theorem gs_0 {S : SA} {g : Nat} : gsf S g 0 0 = 0 := by
  sorry
theorem gs_step {S : SA} {g a k : Nat} (hR : RI S) (hg : g < S.1 6) (hs : S.2.1 17 g = nI 119) (ha : a < 5) (hk : k < S.1 1) : gsf S g a (k + 1) = gsf S g a k + b01 (nw S g a k) := by
  sorry
theorem gs_next {S : SA} {g a : Nat} : gsf S g a (S.1 1) = gsf S g (a + 1) 0 := by
  sorry
/-- what the row of old holdings holds, up to a and k -/
def BFR (S : SA) (bf : Nat → Int32) (a k : Nat) : Prop := ∀ i j, i < 5 → j < S.1 1 → (i < a ∨ (i = a ∧ j < k)) → bf (S.1 1 * i + j) = nI (b01 (hb S i j))
theorem idx_ltn {n a k : Nat} (ha : a < 5) (hk : k < n) : n * a + k < 5 * n := by
  have h1 : n * a + n ≤ n * 5 := by rw [← Nat.mul_succ]; exact Nat.mul_le_mul_left _ ha
  omega
theorem bf_step {S : SA} {bf : Nat → Int32} {a k : Nat} (h : BFR S bf a k) (hk : k < S.1 1) : BFR S (upd bf (S.1 1 * a + k) (nI (b01 (hb S a k)))) a (k + 1) := by
  sorry
theorem bf_next {S : SA} {bf : Nat → Int32} {a : Nat} (h : BFR S bf a (S.1 1)) : BFR S bf (a + 1) 0 := by
  intro i j hi hj h2
  refine h i j hi hj ?_
  omega
theorem an_nle {k : Nat} (h : 0 < k) (h2 : k < 2 ^ 31) : ¬ nI k ≤ 0 := by
  rw [Int32.le_iff_toInt_le, nI_toInt h2, Int32.toInt_zero]
  omega
theorem an_i2l {k : Nat} (h : k ≤ 40) : (nI k).toInt64 = lN k := by
  have h2 : ∀ k, k < 41 → (nI k).toInt64 = lN k := by decide +kernel
  exact h2 k (by omega)
theorem an_7 {k : Nat} (h : k ≤ 40) : (7 : Int64) * lN k = lN (7 * k) := by
  have h2 : ∀ k, k < 41 → (7 : Int64) * lN k = lN (7 * k) := by decide +kernel
  exact h2 k (by omega)
theorem hd_01 {S : SA} {a k : Nat} (hR : RB S) (ha : a < 5) (hk : k < S.1 1) : qHolds S (nI a) (nI k) = nI (b01 (hb S a k)) := hd_holds hR ha hk
