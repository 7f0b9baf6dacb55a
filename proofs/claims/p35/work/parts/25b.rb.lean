/-! what the states of the law keep -/
def linesIn (S : SA) (d : Int32) (n : Nat) : Nat := fb_ct (fun j => decide (S.2.1 2 j = d)) n
def RD (S : SA) : Prop := (∀ l, l < S.1 1 → ∃ d, d < S.1 0 ∧ S.2.1 2 l = nI d) ∧ (∀ l, l < S.1 1 → S.2.1 3 l = nI (linesIn S (S.2.1 2 l) l)) ∧ (∀ d, d < 8 → S.2.1 1 d = nI (linesIn S (nI d) (S.1 1))) ∧ ∀ l, l < S.1 1 → vOK (S.2.1 4 l) = true
def RJ (S : SA) : Prop := ∀ j, j < S.1 4 → ∃ p q t, p < S.1 1 ∧ q < S.1 1 ∧ t < S.1 1 ∧ S.2.2 1 j = lN (2 ^ p ||| 2 ^ q) ∧ S.2.2 2 j = lN (2 ^ t)
def RH (S : SA) : Prop := ∀ a, a < 5 → mk (S.2.2 0 a) = cloA S (lgA S a) ∧ mk (S.2.2 0 a) < 2 ^ S.1 1
def RQ (S : SA) : Prop := (∀ k, k < S.1 6 → S.2.1 17 k = nI 119 ∨ S.2.1 17 k = nI 97 ∨ S.2.1 17 k = nI 120) ∧ ∀ k, k < S.1 6 → ∃ m, m ≤ S.1 7 ∧ S.2.1 18 k = nI m
def RF (S : SA) : Prop := (∀ a, a < 5 → ∃ z, z ≤ S.1 9 ∧ S.2.1 0 a = nI z) ∧ S.1 9 ≤ 99 * S.1 5
def RB (S : SA) : Prop := IA S ∧ JA S ∧ RD S ∧ RJ S ∧ RH S ∧ RQ S ∧ RF S
def RI (S : SA) : Prop := RB S ∧ 1 ≤ S.1 6 ∧ S.2.1 17 0 = nI 97
/-- an act: below 0 nothing is changed; i: how many lines a good one adds -/
def AC (i : Nat) (S u : SA) (r : Int32) : Prop := RI u ∧ (r < 0 → u = S) ∧ u.1 1 = S.1 1 + (if 0 ≤ r then i else 0)
/-- the same without the request -/
def AB (i : Nat) (S u : SA) (r : Int32) : Prop := RB u ∧ (r < 0 → u = S) ∧ u.1 1 = S.1 1 + (if 0 ≤ r then i else 0) ∧ (1 ≤ S.1 6 → S.2.1 17 0 = nI 97 → 1 ≤ u.1 6 ∧ u.2.1 17 0 = nI 97)
theorem AB.ac {i : Nat} {S u : SA} {r : Int32} (h : RI S) (h2 : AB i S u r) : AC i S u r := ⟨⟨h2.1, h2.2.2.2 h.2.1 h.2.2⟩, h2.2.1, h2.2.2.1⟩
theorem st_nar {z : Int32} (h : z = nI 119 ∨ z = nI 97 ∨ z = nI 120) : narrow .char (.int z) = .int z := by
  rcases h with rfl | rfl | rfl <;> rfl
theorem RB.nar {S : SA} (h : RB S) : ∀ j, j < S.1 6 → narrow .char (.int (S.2.1 17 j)) = .int (S.2.1 17 j) := fun j hj => st_nar (h.2.2.2.2.2.1.1 j hj)
