/-! the JDK's tables, out of what the Statement gives of the start -/
def runL (t : Term) (f : Nat → Term) : List Cond → Nat → Bool
  | [], _ => true
  | c :: l, j => decide (c = Cond.eq (.elem t (.int (Int32.ofNat j))) (f j)) && runL t f l (j + 1)
theorem runL_mem {t : Term} {f : Nat → Term} : ∀ {l : List Cond} {j i : Nat}, runL t f l j = true → i < l.length → Cond.eq (.elem t (.int (Int32.ofNat (j + i)))) (f (j + i)) ∈ l
  | [], _, i, _, hi => absurd hi (Nat.not_lt_zero i)
  | c :: l, j, 0, h, _ => by
    rw [runL, Bool.and_eq_true, decide_eq_true_eq] at h
    rw [Nat.add_zero, ← h.1]
    exact List.mem_cons_self
  | c :: l, j, i + 1, h, hi => by
    rw [runL, Bool.and_eq_true] at h
    have h2 := runL_mem (j := j + 1) (i := i) h.2 (Nat.lt_of_succ_lt_succ hi)
    rw [show j + (i + 1) = j + 1 + i by omega]
    exact List.mem_cons_of_mem _ h2
theorem tab_mem {L : List Cond} {t : Term} {f : Nat → Term} {a m j0 : Nat} (h : runL t f ((L.drop a).take m) j0 = true) (hl : ((L.drop a).take m).length = m) {i : Nat} (hi : i < m) : Cond.eq (.elem t (.int (Int32.ofNat (j0 + i)))) (f (j0 + i)) ∈ L :=
  List.mem_of_mem_drop (List.mem_of_mem_take (runL_mem h (by rw [hl]; exact hi)))
abbrev GV : List Cond := flatC (Jvm.Cond.and given_1 narrow_1)
abbrev tmO : Term := .static "java/lang/Integer" "DigitOnes" "[B"
abbrev tmT : Term := .static "java/lang/Integer" "DigitTens" "[B"
abbrev tmG : Term := .static "jdk/internal/math/MathUtils" "g" "[J"
abbrev tmP : Term := .static "jdk/internal/math/MathUtils" "pow10" "[J"
theorem tab_O : ∀ j, j < 100 → Cond.eq (.elem tmO (.int (Int32.ofNat j))) (.int (tbO j)) ∈ GV := fun j hj => by
  have h := tab_mem (L := GV) (t := tmO) (f := fun j => .int (tbO j)) (a := 10) (m := 100) (j0 := 0) (by decide +kernel) (by decide +kernel) hj
  rw [Nat.zero_add] at h
  exact h
theorem tab_T : ∀ j, j < 100 → Cond.eq (.elem tmT (.int (Int32.ofNat j))) (.int (tbT j)) ∈ GV := fun j hj => by
  have h := tab_mem (L := GV) (t := tmT) (f := fun j => .int (tbT j)) (a := 113) (m := 100) (j0 := 0) (by decide +kernel) (by decide +kernel) hj
  rw [Nat.zero_add] at h
  exact h
theorem tab_P : ∀ j, j < 18 → Cond.eq (.elem tmP (.int (Int32.ofNat j))) (.long (tbP j)) ∈ GV := fun j hj => by
  have h := tab_mem (L := GV) (t := tmP) (f := fun j => .long (tbP j)) (a := 220) (m := 18) (j0 := 0) (by decide +kernel) (by decide +kernel) hj
  rw [Nat.zero_add] at h
  exact h
