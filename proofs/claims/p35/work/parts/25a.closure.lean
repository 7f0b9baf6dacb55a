/-! what joins tell: the rounds reach the least closed set -/
def subM (x y : Nat) : Prop := ∀ k, x.testBit k = true → y.testBit k = true
theorem sub_rf (x : Nat) : subM x x := fun _ h => h
theorem sub_tr {x y z : Nat} (h1 : subM x y) (h2 : subM y z) : subM x z := fun k h => h2 k (h1 k h)
theorem sub_or (x y : Nat) : subM x (x ||| y) := fun k h => by rw [Nat.testBit_or, h]; rfl
theorem or_bit {x t k : Nat} : (x ||| 2 ^ t).testBit k = (x.testBit k || decide (t = k)) := by rw [Nat.testBit_or, Nat.testBit_two_pow]
theorem or_sub {x t z : Nat} (h : subM x z) (ht : z.testBit t = true) : subM (x ||| 2 ^ t) z := by
  intro k hk
  rw [or_bit] at hk
  cases hx : x.testBit k
  · rw [hx] at hk
    simp at hk
    exact hk ▸ ht
  · exact h k hx
theorem or_same {x t : Nat} (h : x.testBit t = true) : x ||| 2 ^ t = x := by
  apply Nat.eq_of_testBit_eq
  intro k
  rw [or_bit]
  by_cases hk : t = k
  · subst hk; simp [h]
  · simp [hk]
theorem or_self_t {x t : Nat} : (x ||| 2 ^ t).testBit t = true := by rw [or_bit]; simp
theorem pr_iff {y p q : Nat} : y &&& (2 ^ p ||| 2 ^ q) = (2 ^ p ||| 2 ^ q) ↔ y.testBit p = true ∧ y.testBit q = true := by
  constructor
  · intro h
    have h1 := congrArg (fun z => z.testBit p) h
    have h2 := congrArg (fun z => z.testBit q) h
    simp only [Nat.testBit_and, Nat.testBit_or, Nat.testBit_two_pow] at h1 h2
    simp at h1 h2
    exact ⟨h1, h2⟩
  · intro ⟨h1, h2⟩
    apply Nat.eq_of_testBit_eq
    intro k
    simp only [Nat.testBit_and, Nat.testBit_or, Nat.testBit_two_pow]
    by_cases hp : p = k
    · subst hp; simp [h1]
    · by_cases hq : q = k
      · subst hq; simp [h2]
      · simp [hp, hq]
theorem ct_lt {p q : Nat → Bool} : ∀ {n : Nat}, (∀ k, k < n → p k = true → q k = true) → (∃ k, k < n ∧ p k = false ∧ q k = true) → fb_ct p n < fb_ct q n
  | 0, _, h => by obtain ⟨k, hk, -⟩ := h; exact absurd hk (Nat.not_lt_zero k)
  | n + 1, h, hx => by
    obtain ⟨k, hk, h1, h2⟩ := hx
    have hs := fb_ct_sub (p := p) (q := q) (n := n) (fun k hk => h k (Nat.lt_succ_of_lt hk))
    rcases Nat.lt_succ_iff_lt_or_eq.mp hk with hk | rfl
    · have ih := ct_lt (p := p) (q := q) (n := n) (fun k hk => h k (Nat.lt_succ_of_lt hk)) ⟨k, hk, h1, h2⟩
      rw [fb_ct_succ, fb_ct_succ]
      cases hp : p n
      · cases hq : q n <;> simp <;> omega
      · rw [h n (Nat.lt_succ_self n) hp]; simp; exact ih
    · rw [fb_ct_succ, fb_ct_succ, h1, h2]
      simp
      omega
section CLO
variable {p q t : Nat → Nat}
def prP (p q : Nat → Nat) : Nat → Nat := fun j => 2 ^ p j ||| 2 ^ q j
def tlP (t : Nat → Nat) : Nat → Nat := fun j => 2 ^ t j
def cloP (p q t : Nat → Nat) (n x : Nat) : Nat := clo (prP p q) (tlP t) n x
theorem pass_up {x : Nat} : ∀ n, subM x (passN (prP p q) (tlP t) x n)
  | 0 => sub_rf x
  | n + 1 => by
    by_cases h : passN (prP p q) (tlP t) x n &&& prP p q n = prP p q n
    · rw [pass_t h]; exact sub_tr (pass_up n) (sub_or _ _)
    · rw [pass_f h]; exact pass_up n
theorem pass_mono {x : Nat} {m : Nat} : ∀ n, subM (passN (prP p q) (tlP t) x m) (passN (prP p q) (tlP t) x (m + n))
  | 0 => sub_rf _
  | n + 1 => by
    rw [← Nat.add_assoc]
    by_cases h : passN (prP p q) (tlP t) x (m + n) &&& prP p q (m + n) = prP p q (m + n)
    · rw [pass_t h]; exact sub_tr (pass_mono n) (sub_or _ _)
    · rw [pass_f h]; exact pass_mono n
def closedP (p q t : Nat → Nat) (n z : Nat) : Prop := ∀ j, j < n → z.testBit (p j) = true → z.testBit (q j) = true → z.testBit (t j) = true
theorem pass_sub {x z N : Nat} (hz : closedP p q t N z) (hx : subM x z) : ∀ n, n ≤ N → subM (passN (prP p q) (tlP t) x n) z
  | 0, _ => hx
  | n + 1, hn => by
    have ih := pass_sub hz hx n (by omega)
    by_cases h : passN (prP p q) (tlP t) x n &&& prP p q n = prP p q n
    · rw [pass_t h]
      have h2 := pr_iff.mp h
      exact or_sub ih (hz n (by omega) (ih _ h2.1) (ih _ h2.2))
    · rw [pass_f h]; exact ih
theorem pass_mem {x j n : Nat} (hj : j < n) (h1 : x.testBit (p j) = true) (h2 : x.testBit (q j) = true) : (passN (prP p q) (tlP t) x n).testBit (t j) = true := by
  have h3 : passN (prP p q) (tlP t) x j &&& prP p q j = prP p q j := pr_iff.mpr ⟨pass_up j _ h1, pass_up j _ h2⟩
  have h4 : (passN (prP p q) (tlP t) x (j + 1)).testBit (t j) = true := by
    rw [pass_t h3]; exact or_self_t
  have h5 := pass_mono (p := p) (q := q) (t := t) (x := x) (m := j + 1) (n - (j + 1)) _ h4
  rw [show j + 1 + (n - (j + 1)) = n by omega] at h5
  exact h5
theorem pass_new {x : Nat} : ∀ n, passN (prP p q) (tlP t) x n ≠ x → ∃ j, j < n ∧ x.testBit (t j) = false ∧ (passN (prP p q) (tlP t) x n).testBit (t j) = true
  | 0, h => absurd rfl h
  | n + 1, h => by
    by_cases hc : passN (prP p q) (tlP t) x n &&& prP p q n = prP p q n
    · rw [pass_t hc] at h ⊢
      by_cases hs : passN (prP p q) (tlP t) x n = x
      · rw [hs] at h ⊢
        refine ⟨n, Nat.lt_succ_self n, ?_, or_self_t⟩
        cases hb : x.testBit (t n)
        · rfl
        · exact absurd (or_same hb) h
      · obtain ⟨j, hj, h1, h2⟩ := pass_new n hs
        exact ⟨j, Nat.lt_succ_of_lt hj, h1, sub_or _ _ _ h2⟩
    · rw [pass_f hc] at h ⊢
      obtain ⟨j, hj, h1, h2⟩ := pass_new n h
      exact ⟨j, Nat.lt_succ_of_lt hj, h1, h2⟩
theorem pass_all {x : Nat} : ∀ n, (∀ j, j < n → x.testBit (t j) = true) → passN (prP p q) (tlP t) x n = x
  | 0, _ => rfl
  | n + 1, h => by
    have ih := pass_all n (fun j hj => h j (Nat.lt_succ_of_lt hj))
    by_cases hc : passN (prP p q) (tlP t) x n &&& prP p q n = prP p q n
    · rw [pass_t hc, ih]; exact or_same (h n (Nat.lt_succ_self n))
    · rw [pass_f hc, ih]
def muP (t : Nat → Nat) (n y : Nat) : Nat := fb_ct (fun j => !y.testBit (t j)) n
theorem mu_lt_of {n x y : Nat} (h : subM x y) (hx : ∃ j, j < n ∧ x.testBit (t j) = false ∧ y.testBit (t j) = true) : muP t n y < muP t n x := by
  obtain ⟨j, hj, h1, h2⟩ := hx
  refine ct_lt (fun k _ hk => ?_) ⟨j, hj, by simp [h2], by simp [h1]⟩
  cases hb : x.testBit (t k)
  · rfl
  · simp [h _ hb] at hk
theorem pw_mu {n x : Nat} : ∀ k, passN (prP p q) (tlP t) (pwN (prP p q) (tlP t) n x k) n = pwN (prP p q) (tlP t) n x k ∨ muP t n (pwN (prP p q) (tlP t) n x k) + k ≤ n
  | 0 => Or.inr (fb_ct_le _ _)
  | k + 1 => by
    by_cases h : passN (prP p q) (tlP t) (pwN (prP p q) (tlP t) n x k) n = pwN (prP p q) (tlP t) n x k
    · left
      rw [pwN, h, h]
    · right
      have h1 := mu_lt_of (t := t) (n := n) (pass_up (p := p) (q := q) (t := t) (x := pwN (prP p q) (tlP t) n x k) n) (pass_new n h)
      rcases pw_mu k with h2 | h2
      · exact absurd h2 h
      · rw [pwN]; omega
theorem clo_fixed (p q t : Nat → Nat) (n x : Nat) : passN (prP p q) (tlP t) (cloP p q t n x) n = cloP p q t n x := by
  rcases pw_mu (p := p) (q := q) (t := t) (n := n) (x := x) n with h | h
  · exact h
  · apply pass_all
    intro j hj
    have h0 : muP t n (cloP p q t n x) = 0 := by
      have : muP t n (pwN (prP p q) (tlP t) n x n) + n ≤ n := h
      show muP t n (pwN (prP p q) (tlP t) n x n) = 0
      omega
    have := fb_ct_zero.mp h0 j hj
    simpa using this
theorem clo_closed (p q t : Nat → Nat) (n x : Nat) : closedP p q t n (cloP p q t n x) := fun j hj h1 h2 => by
  have := pass_mem (p := p) (q := q) (t := t) hj h1 h2
  rw [clo_fixed] at this
  exact this
theorem pw_up {n x : Nat} : ∀ k, subM x (pwN (prP p q) (tlP t) n x k)
  | 0 => sub_rf x
  | k + 1 => sub_tr (pw_up k) (pass_up n)
theorem clo_up (p q t : Nat → Nat) (n x : Nat) : subM x (cloP p q t n x) := pw_up n
theorem pw_sub {n x z : Nat} (hz : closedP p q t n z) (hx : subM x z) : ∀ k, subM (pwN (prP p q) (tlP t) n x k) z
  | 0 => hx
  | k + 1 => pass_sub hz (pw_sub hz hx k) n (Nat.le_refl n)
theorem clo_sub {n x z : Nat} (hz : closedP p q t n z) (hx : subM x z) : subM (cloP p q t n x) z := pw_sub hz hx n
end CLO
theorem bits_eq {x y : Nat} (h1 : subM x y) (h2 : subM y x) : x = y := by
  apply Nat.eq_of_testBit_eq
  intro k
  cases hx : x.testBit k
  · cases hy : y.testBit k
    · rfl
    · rw [h2 k hy] at hx; cases hx
  · rw [h1 k hx]
theorem clo_mono {p q t : Nat → Nat} {n x y : Nat} (h : subM x y) : subM (cloP p q t n x) (cloP p q t n y) := clo_sub (clo_closed p q t n y) (sub_tr h (clo_up p q t n y))
theorem clo_idem (p q t : Nat → Nat) (n x : Nat) : cloP p q t n (cloP p q t n x) = cloP p q t n x := bits_eq (clo_sub (clo_closed p q t n x) (sub_rf _)) (clo_up p q t n _)
/-- what is told by what is held and one more: the same from what was given -/
theorem clo_add {p q t : Nat → Nat} {n x k : Nat} : cloP p q t n (cloP p q t n x ||| 2 ^ k) = cloP p q t n (x ||| 2 ^ k) := by
  apply bits_eq
  · exact clo_sub (clo_closed p q t n _) (or_sub (clo_mono (sub_or _ _)) (clo_up p q t n _ _ or_self_t))
  · exact clo_mono (or_sub (sub_tr (clo_up p q t n x) (sub_or _ _)) or_self_t)
theorem pass_cong {p q t p' q' t' : Nat → Nat} {x : Nat} : ∀ n, (∀ j, j < n → prP p q j = prP p' q' j ∧ tlP t j = tlP t' j) → passN (prP p q) (tlP t) x n = passN (prP p' q') (tlP t') x n
  | 0, _ => rfl
  | n + 1, h => by rw [passN, passN, pass_cong n (fun j hj => h j (Nat.lt_succ_of_lt hj)), (h n (Nat.lt_succ_self n)).1, (h n (Nat.lt_succ_self n)).2]
theorem passN_cong {pr tl pr' tl' : Nat → Nat} {x : Nat} : ∀ n, (∀ j, j < n → pr j = pr' j ∧ tl j = tl' j) → passN pr tl x n = passN pr' tl' x n
  | 0, _ => rfl
  | n + 1, h => by rw [passN, passN, passN_cong n (fun j hj => h j (Nat.lt_succ_of_lt hj)), (h n (Nat.lt_succ_self n)).1, (h n (Nat.lt_succ_self n)).2]
theorem pwN_cong {pr tl pr' tl' : Nat → Nat} {n x : Nat} (h : ∀ j, j < n → pr j = pr' j ∧ tl j = tl' j) : ∀ k, pwN pr tl n x k = pwN pr' tl' n x k
  | 0 => rfl
  | k + 1 => by rw [pwN, pwN, pwN_cong h k, passN_cong n h]
theorem clo_cong {pr tl pr' tl' : Nat → Nat} {n x : Nat} (h : ∀ j, j < n → pr j = pr' j ∧ tl j = tl' j) : clo pr tl n x = clo pr' tl' n x := pwN_cong h n
/-- one more join: closing what was closed -/
theorem clo_more {p q t : Nat → Nat} {n m x : Nat} (h : n ≤ m) : cloP p q t m (cloP p q t n x) = cloP p q t m x := by
  have hc : closedP p q t n (cloP p q t m x) := fun j hj => clo_closed p q t m x j (Nat.lt_of_lt_of_le hj h)
  apply bits_eq
  · exact clo_sub (clo_closed p q t m x) (clo_sub hc (clo_up p q t m x))
  · exact clo_mono (clo_up p q t n x)
