theorem ab_addDocument {S u : SA} {r : Int32} (h : RB S) (hp : ((cdAddDoc (S.1 0) = 0 ∧ r = nI (S.1 0)) ∧ u = (sN S 0 (S.1 0 + 1))) ∨ ∃ q : Nat, ¬ q = 0 ∧ r = wneg q ∧ cdAddDoc (S.1 0) = q ∧ u = S) : AB 0 S u r := by
  sorry
theorem ab_addLine {S u : SA} {r : Int32} {d v : Int32} (h : RB S) (hp : (∃ g : Nat, (cdAddLine (S.1 0) (S.1 1) d v = 0 ∧ d = nI g ∧ g < S.1 0 ∧ r = nI (S.1 1)) ∧ u = (sN (sI (sI (sI (sI S 1 (upd (S.2.1 1) g ((S.2.1 1) g + nI 1))) 2 (upd (S.2.1 2) (S.1 1) (nI g))) 3 (upd (S.2.1 3) (S.1 1) ((S.2.1 1) g))) 4 (upd (S.2.1 4) (S.1 1) v)) 1 (S.1 1 + 1))) ∨ ∃ q : Nat, ¬ q = 0 ∧ r = wneg q ∧ cdAddLine (S.1 0) (S.1 1) d v = q ∧ u = S) : AB 1 S u r := by
  sorry
theorem ab_rescan {S u : SA} {r : Int32} {x v : Int32} (h : RB S) (hp : (∃ g : Nat, (cdRescan (S.1 1) x v = 0 ∧ x = nI g ∧ g < S.1 1 ∧ r = S.2.1 4 g) ∧ u = (sI S 4 (upd (S.2.1 4) g v))) ∨ ∃ q : Nat, ¬ q = 0 ∧ r = wneg q ∧ cdRescan (S.1 1) x v = q ∧ u = S) : AB 0 S u r := by
  sorry
theorem ab_addRule {S u : SA} {r : Int32} {f g t : Int32} (h : RB S) (hp : ((cdAddRule (S.1 2) (S.1 7) f g t = 0 ∧ r = nI (S.1 2)) ∧ u = (sN (sI (sI (sI S 5 (upd (S.2.1 5) (S.1 2) f)) 6 (upd (S.2.1 6) (S.1 2) g)) 7 (upd (S.2.1 7) (S.1 2) t)) 2 (S.1 2 + 1))) ∨ ∃ q : Nat, ¬ q = 0 ∧ r = wneg q ∧ cdAddRule (S.1 2) (S.1 7) f g t = q ∧ u = S) : AB 0 S u r := by
  sorry
theorem ab_addSpan {S u : SA} {r : Int32} {d f g t : Int32} (h : RB S) (hp : ((cdAddSpan (S.1 0) (S.1 3) (S.1 7) d f g t = 0 ∧ r = nI (S.1 3)) ∧ u = (sN (sI (sI (sI (sI S 8 (upd (S.2.1 8) (S.1 3) d)) 9 (upd (S.2.1 9) (S.1 3) f)) 10 (upd (S.2.1 10) (S.1 3) g)) 11 (upd (S.2.1 11) (S.1 3) t)) 3 (S.1 3 + 1))) ∨ ∃ q : Nat, ¬ q = 0 ∧ r = wneg q ∧ cdAddSpan (S.1 0) (S.1 3) (S.1 7) d f g t = q ∧ u = S) : AB 0 S u r := by
  sorry
theorem ab_lift {S u : SA} {r : Int32} {k : Int32} (h : RB S) (hp : (∃ g : Nat, (cdLiftA (S.1 3) (S.2.1 11) (S.1 7) k = 0 ∧ k = nI g ∧ g < S.1 3 ∧ r = nI (fb_ct (hidA S) (S.1 1)) - nI (fb_ct (hidA (sI S 11 (upd (S.2.1 11) g (-1)))) (S.1 1))) ∧ u = (sI S 11 (upd (S.2.1 11) g (-1)))) ∨ ∃ q : Nat, ¬ q = 0 ∧ r = wneg q ∧ cdLiftA (S.1 3) (S.2.1 11) (S.1 7) k = q ∧ u = S) : AB 0 S u r := by
  sorry
theorem ab_addJoin {S u : SA} {r : Int32} {a b t : Int32} (h : RB S) (hp : (∃ g : Nat × Nat × Nat, (cdAddJoin (S.1 1) (S.1 4) a b t = 0 ∧ (a = nI g.1 ∧ b = nI g.2.1 ∧ t = nI g.2.2) ∧ (g.1 < S.1 1 ∧ g.2.1 < S.1 1 ∧ g.2.2 < S.1 1) ∧ r = nI (S.1 4)) ∧ u = (grS (jnS S g.1 g.2.1 g.2.2) 5)) ∨ ∃ q : Nat, ¬ q = 0 ∧ r = wneg q ∧ cdAddJoin (S.1 1) (S.1 4) a b t = q ∧ u = S) : AB 0 S u r := by
  sorry
theorem ab_request {S u : SA} {r : Int32} {a d : Int32} (h : RB S) (hp : ((cdReq (S.1 0) (S.1 6) (S.2.1 0) (wtg (S.1 6) (S.2.1 17) (S.2.1 15) (S.2.1 16) a d) a d = 0 ∧ r = nI (S.1 6)) ∧ u = (sN (sI (sI (sI (sI S 15 (upd (S.2.1 15) (S.1 6) a)) 16 (upd (S.2.1 16) (S.1 6) d)) 17 (upd (S.2.1 17) (S.1 6) (nI 119))) 18 (upd (S.2.1 18) (S.1 6) (nI (S.1 7)))) 6 (S.1 6 + 1))) ∨ ∃ q : Nat, ¬ q = 0 ∧ r = wneg q ∧ cdReq (S.1 0) (S.1 6) (S.2.1 0) (wtg (S.1 6) (S.2.1 17) (S.2.1 15) (S.2.1 16) a d) a d = q ∧ u = S) : AB 0 S u r := by
  sorry
theorem ab_answer {S u : SA} {r : Int32} {k : Int32} (h : RB S) (hp : (∃ g : Nat, (cdAns (S.1 6) (S.2.1 17) k = 0 ∧ k = nI g ∧ g < S.1 6 ∧ r = nI (gvC (sI S 17 (upd (S.2.1 17) g (nI 97))) (ix (S.2.1 15 g)) (S.2.1 16 g) (S.1 1))) ∧ u = (gvS (sI S 17 (upd (S.2.1 17) g (nI 97))) (ix (S.2.1 15 g)) (S.2.1 16 g) (S.1 1))) ∨ ∃ q : Nat, ¬ q = 0 ∧ r = wneg q ∧ cdAns (S.1 6) (S.2.1 17) k = q ∧ u = S) : AB 0 S u r := by
  sorry
theorem ab_withdraw {S u : SA} {r : Int32} {k : Int32} (h : RB S) (hp : (∃ g : Nat, (cdAns (S.1 6) (S.2.1 17) k = 0 ∧ k = nI g ∧ g < S.1 6 ∧ r = nI (fb_ct (fun z => decide (upd (S.2.1 17) g (nI 120) z = nI 119)) (S.1 6))) ∧ u = (sI S 17 (upd (S.2.1 17) g (nI 120)))) ∨ ∃ q : Nat, ¬ q = 0 ∧ r = wneg q ∧ cdAns (S.1 6) (S.2.1 17) k = q ∧ u = S) : AB 0 S u r := by
  sorry
theorem ab_setPrice {S u : SA} {r : Int32} {z : Int32} (h : RB S) (hp : (∃ g : Nat, (cdPrice z = 0 ∧ z = nI g ∧ g ≤ 99 ∧ r = nI (S.1 8)) ∧ u = (sN S 8 g)) ∨ ∃ q : Nat, ¬ q = 0 ∧ r = wneg q ∧ cdPrice z = q ∧ u = S) : AB 0 S u r := by
  sorry
theorem ab_pay {S u : SA} {r : Int32} {a z : Int32} (h : RB S) (hp : (∃ g : Nat, (cdPay (S.2.1 0) a z = 0 ∧ a = nI g ∧ g < 5 ∧ r = S.2.1 0 g - z) ∧ u = (sI S 0 (upd (S.2.1 0) g (S.2.1 0 g - z)))) ∨ ∃ q : Nat, ¬ q = 0 ∧ r = wneg q ∧ cdPay (S.2.1 0) a z = q ∧ u = S) : AB 0 S u r := by
  sorry
theorem ab_pass {S u : SA} {r : Int32} {z : Int32} (h : RB S) (hp : (∃ g : Nat, (cdPass (S.1 7) z = 0 ∧ z = nI g ∧ (1 ≤ g ∧ g ≤ 90 ∧ S.1 7 + g ≤ 9999) ∧ r = nI (lateC (S.1 6) (S.2.1 17) (S.2.1 18) (S.1 7 + g)) - nI (lateC (S.1 6) (S.2.1 17) (S.2.1 18) (S.1 7))) ∧ u = (sN S 7 (S.1 7 + g))) ∨ ∃ q : Nat, ¬ q = 0 ∧ r = wneg q ∧ cdPass (S.1 7) z = q ∧ u = S) : AB 0 S u r := by
  sorry
