def IA (S : SA) : Prop := S.1 0 ≤ 8 ∧ S.1 1 ≤ 40 ∧ S.1 2 ≤ 8 ∧ S.1 3 ≤ 12 ∧ S.1 4 ≤ 10 ∧ S.1 5 ≤ 200 ∧ S.1 6 ≤ 20 ∧ S.1 7 ≤ 9999 ∧ S.1 8 ≤ 99 ∧ (∀ j, j < S.1 4 → mk (S.2.2 1 j) < 2 ^ 40 ∧ mk (S.2.2 2 j) < 2 ^ 40) ∧ (∀ a, a < 5 → mk (S.2.2 0 a) < 2 ^ 40) ∧ (∀ k, k < S.1 5 → ix (S.2.1 14 k) < 40) ∧ ∀ k, k < S.1 6 → ix (S.2.1 15 k) < 5
def hidR (n : Nat) (f g t : Nat → Int32) (d : Nat) (v : Int32) : Bool := anyB (fun k => !decide (t k < nI d) && inB v (f k) (g k)) n
def frc (lf sl : Nat → Int32) (d k : Nat) : Bool := decide (lf k = 0) && !decide (sl k < nI d)
def hidSL (n : Nat) (sd sf ss sl lf : Nat → Int32) (d : Nat) (dc x : Int32) : Bool := anyB (fun k => frc lf sl d k && decide (sd k = dc) && inB x (sf k) (ss k)) n
def hidS (n : Nat) (sd sf ss sl : Nat → Int32) (d : Nat) (dc x : Int32) : Bool := anyB (fun k => !decide (sl k < nI d) && decide (sd k = dc) && inB x (sf k) (ss k)) n
def hRA (S : SA) (m : Nat) : Bool := hidR (S.1 2) (S.2.1 5) (S.2.1 6) (S.2.1 7) (S.1 7) (S.2.1 4 m)
def hSA (S : SA) (m : Nat) : Bool := hidS (S.1 3) (S.2.1 8) (S.2.1 9) (S.2.1 10) (S.2.1 11) (S.1 7) (S.2.1 2 m) (S.2.1 3 m)
def hidA (S : SA) (m : Nat) : Bool := hRA S m || hSA S m
theorem shl_1 : ∀ j, j < 63 → lN 1 <<< ((nI j).toInt64 &&& 63) = lN (2 ^ j) := by decide +kernel
theorem and63 {a b : Nat} (h : b < 2 ^ 40) : a &&& b < 2 ^ 63 := Nat.lt_of_le_of_lt Nat.and_le_right (Nat.lt_trans h (by decide))
theorem lt63 {b : Nat} (h : b < 2 ^ 40) : b < 2 ^ 63 := Nat.lt_trans h (by decide)
theorem and_bit63 {a j : Nat} (h : j < 63) : a &&& 2 ^ j < 2 ^ 63 := Nat.lt_of_le_of_lt Nat.and_le_right (Nat.pow_lt_pow_right (by decide) h)
theorem bit40 {j : Nat} (h : j < 40) : 2 ^ j < 2 ^ 40 := Nat.pow_lt_pow_right (by decide) h
theorem tb_t {x j : Nat} (h : ¬ x &&& 2 ^ j = 0) : x.testBit j = true := by
  cases hb : x.testBit j
  · exact absurd ((fb_bit_nat x j).mpr hb) h
  · rfl
def lgM (ga gl : Nat → Int32) (a : Int32) : Nat → Nat
  | 0 => 0
  | n + 1 => if ga n = a then lgM ga gl a n ||| 2 ^ ix (gl n) else lgM ga gl a n
theorem lgM_t {ga gl : Nat → Int32} {a : Int32} {n : Nat} (h : ga n = a) : lgM ga gl a (n + 1) = lgM ga gl a n ||| 2 ^ ix (gl n) := by rw [lgM, if_pos h]
theorem lgM_f {ga gl : Nat → Int32} {a : Int32} {n : Nat} (h : ¬ ga n = a) : lgM ga gl a (n + 1) = lgM ga gl a n := by rw [lgM, if_neg h]
def passN (pr tl : Nat → Nat) (x : Nat) : Nat → Nat
  | 0 => x
  | n + 1 => if passN pr tl x n &&& pr n = pr n then passN pr tl x n ||| tl n else passN pr tl x n
theorem pass_t {pr tl : Nat → Nat} {x n : Nat} (h : passN pr tl x n &&& pr n = pr n) : passN pr tl x (n + 1) = passN pr tl x n ||| tl n := by rw [passN, if_pos h]
theorem pass_f {pr tl : Nat → Nat} {x n : Nat} (h : ¬ passN pr tl x n &&& pr n = pr n) : passN pr tl x (n + 1) = passN pr tl x n := by rw [passN, if_neg h]
def pwN (pr tl : Nat → Nat) (nj x : Nat) : Nat → Nat
  | 0 => x
  | k + 1 => passN pr tl (pwN pr tl nj x k) nj
def clo (pr tl : Nat → Nat) (nj x : Nat) : Nat := pwN pr tl nj x nj
theorem pass_lt {pr tl : Nat → Nat} {x : Nat} (hx : x < 2 ^ 40) : ∀ {n : Nat}, (∀ j, j < n → tl j < 2 ^ 40) → passN pr tl x n < 2 ^ 40
  | 0, _ => hx
  | n + 1, h => by
    have h1 := pass_lt (pr := pr) (tl := tl) hx (fun j hj => h j (Nat.lt_succ_of_lt hj))
    by_cases hc : passN pr tl x n &&& pr n = pr n
    · rw [pass_t hc]; exact Nat.or_lt_two_pow h1 (h n (Nat.lt_succ_self n))
    · rw [pass_f hc]; exact h1
theorem pw_lt {pr tl : Nat → Nat} {nj x : Nat} (hx : x < 2 ^ 40) (h : ∀ j, j < nj → tl j < 2 ^ 40) : ∀ k, pwN pr tl nj x k < 2 ^ 40
  | 0 => hx
  | k + 1 => pass_lt (pw_lt hx h k) h
theorem clo_lt {pr tl : Nat → Nat} {nj x : Nat} (hx : x < 2 ^ 40) (h : ∀ j, j < nj → tl j < 2 ^ 40) : clo pr tl nj x < 2 ^ 40 := pw_lt hx h nj
theorem pw_fix {pr tl : Nat → Nat} {nj x i : Nat} (h : passN pr tl (pwN pr tl nj x i) nj = pwN pr tl nj x i) : ∀ k, pwN pr tl nj x (i + k) = pwN pr tl nj x i
  | 0 => rfl
  | k + 1 => by rw [← Nat.add_assoc, pwN, pw_fix h k, h]
theorem clo_fix {pr tl : Nat → Nat} {nj x i : Nat} (hi : i ≤ nj) (h : passN pr tl (pwN pr tl nj x i) nj = pwN pr tl nj x i) : pwN pr tl nj x i = clo pr tl nj x := by
  have := pw_fix h (nj - i)
  rw [show i + (nj - i) = nj by omega] at this
  exact this.symm
def cloA (S : SA) (x : Nat) : Nat := clo (fun j => mk (S.2.2 1 j)) (fun j => mk (S.2.2 2 j)) (S.1 4) x
def fstI (p : Nat → Bool) (n : Nat) : Int32 := match fstB p n with | some k => nI k | none => -1
theorem fst_s {p : Nat → Bool} {i : Nat} (h : fstB p i = none) (hp : p i = false) : fstB p (i + 1) = none := by simp [fstB, h, hp]
theorem fst_k {p : Nat → Bool} {i k : Nat} (h : fstB p i = some k) : ∀ n, fstB p (i + n) = some k
  | 0 => h
  | n + 1 => by rw [← Nat.add_assoc, fstB, fst_k h n]
theorem fst_t {p : Nat → Bool} {i n : Nat} (h : fstB p i = none) (hi : i < n) (hp : p i = true) : fstI p n = nI i := by
  have h1 : fstB p (i + 1) = some i := by simp [fstB, h, hp]
  have h2 := fst_k h1 (n - (i + 1))
  rw [show i + 1 + (n - (i + 1)) = n by omega] at h2
  simp [fstI, h2]
theorem fst_n {p : Nat → Bool} {n : Nat} (h : fstB p n = none) : fstI p n = -1 := by simp [fstI, h]
def dif (a b : Nat) : Nat := a ^^^ (a &&& b)
theorem and_not_lN (a b : Nat) : lN a &&& (lN b ^^^ (-1)) = lN (dif a b) := by
  unfold lN dif
  apply Int64.toBitVec_inj.mp
  ext i hi
  simp
  cases (BitVec.ofNat 64 a)[i] <;> cases (BitVec.ofNat 64 b)[i] <;> rfl
theorem dif_tb (a b j : Nat) : (dif a b).testBit j = (a.testBit j && !b.testBit j) := by
  unfold dif
  rw [Nat.testBit_xor, Nat.testBit_and]
  cases a.testBit j <;> cases b.testBit j <;> rfl
theorem dif_lt {a b : Nat} (h : a < 2 ^ 40) : dif a b < 2 ^ 40 := Nat.xor_lt_two_pow h (Nat.lt_of_le_of_lt Nat.and_le_left h)
def protI (S : SA) (a m : Nat) : Int32 := if hidA S m = true then nI m else fstI (fun k => (dif (cloA S (mk (S.2.2 0 a) ||| 2 ^ m)) (mk (S.2.2 0 a))).testBit k && hidA S k) (S.1 1)
def freeB (S : SA) (a m : Nat) : Bool := !(mk (S.2.2 0 a)).testBit m && decide (protI S a m = -1)
def lateC (n : Nat) (q m : Nat → Int32) (d : Nat) : Nat := fb_ct (fun k => decide (q k = nI 119) && !decide (nI d - m k ≤ nI 20)) n
def wtg (n : Nat) (q qa qd : Nat → Int32) (a d : Int32) : Bool := anyB (fun k => decide (q k = nI 119) && decide (qa k = a) && decide (qd k = d)) n
abbrev rX6_bitOf : Room := { frames := 0, cells := 0, slots := 0, locals := 0 }
set_option maxHeartbeats 4000000 in
set_option maxRecDepth 100000 in
theorem mX6_bitOf (l : Launch) (G : gG) (B0 : Nat) (w : va_W) (j : Nat) (hj : j < 63) : Met l yX6_bitOf (Cond.code yX6_bitOf cX6_bitOf 1 (some .long) :: WG) rX6_bitOf (va_Pc [.int (nI j)] (PR G B0 (w))) (va_Ql (fun (r : Int64) (_ : Unit) => r = lN (2 ^ j)) (fun (_ : Unit) (t_ : State) => va_P G.1 vwCl (w) t_.heap ∧ va_D (fun q => B0 ≤ q) (w)) (fun q => B0 ≤ q)) rX6_bitOf.cells rX6_bitOf.slots (fun q => B0 ≤ q) := by
  refine met_of RX6 [(0, .int (nI j))] rfl (by decide) (Nat.le_of_ble_eq_true rfl) rfl ?_
  intro p e s m args below meth c C hr hnm
  refine yq ?_
  intro QQ hQ
  refine yy_lconst C (v := (lN 1)) dX6_bitOf_0 (pc' := 1) rfl (by decide) ?_
  refine yy_iload_n C 0 dX6_bitOf_1 (pc' := 2) rfl rfl rfl ?_
  refine yy_lshl C (v := (lN (2 ^ j))) dX6_bitOf_2 (pc' := 3) rfl (shl_1 j hj) ?_
  subst hQ
  exact ye_l C hr () dX6_bitOf_3 rfl (by decide) (by decide) rfl

abbrev rX6_contains : Room := { frames := 1, cells := 0, slots := 0, locals := 20 }
set_option maxHeartbeats 4000000 in
set_option maxRecDepth 100000 in
theorem mX6_contains (l : Launch) (G : gG) (B0 : Nat) (w : va_W) (x j : Nat) (hj : j < 63) : Met l yX6_contains (Cond.code yX6_contains cX6_contains 3 (some .boolean) :: WG) rX6_contains (va_Pc [.long (lN x), .int (nI j)] (PR G B0 (w))) (va_Qi (fun (r : Int32) (_ : Unit) => r = bI (x.testBit j)) (fun (_ : Unit) (t_ : State) => va_P G.1 vwCl (w) t_.heap ∧ va_D (fun q => B0 ≤ q) (w)) (fun q => B0 ≤ q)) rX6_contains.cells rX6_contains.slots (fun q => B0 ≤ q) := by
  refine met_of RX6 [(0, .long (lN x)), (2, .int (nI j))] rfl (by decide) (Nat.le_of_ble_eq_true rfl) rfl ?_
  intro p e s m args below meth c C hr hnm
  refine yq ?_
  intro QQ hQ
  refine yy_lload_n C 0 dX6_contains_0 (pc' := 1) rfl rfl rfl ?_
  refine yy_iload_n C 1 dX6_contains_1 (pc' := 2) rfl rfl rfl ?_
  refine yc_l (yr_S C (As := [.int (nI j)]) (rest := [.long (lN x)]) lk_X6_271 cd_X6_bitOf st_X6_bitOf (mX6_bitOf l G B0 (w) j (by omega)) ⟨by decide, by decide⟩ ⟨by decide, by decide⟩ rfl rfl (Nat.le_of_ble_eq_true rfl) dX6_contains_2) (pc' := 5) rfl (fun r1 _ hw1 => ?_)
  subst hw1
  refine yy_land C (v := (lN (x &&& (2 ^ j)))) dX6_contains_5 (pc' := 6) rfl (fb_andL x (2 ^ j)) ?_
  refine yy_lconst C (v := (lN 0)) dX6_contains_6 (pc' := 7) rfl (by decide) ?_
  refine yy_lcmp C dX6_contains_7 (pc' := 8) rfl ?_
  refine yl_if_eq C (and_bit63 hj) (by decide) dX6_contains_8 (pc' := 11) rfl (tgt := 15) (by decide) (fun c_8 => ?_) (fun c_8 => ?_)
  · skip
    refine yy_iconst C (v := (nI 0)) dX6_contains_15 (pc' := 16) rfl (by decide) ?_
    subst hQ
    exact ye_i C hr rfl () dX6_contains_16 rfl (by decide) (by decide) (bI_f ((fb_bit_nat x j).mp c_8))
  · skip
    refine yy_iconst C (v := (nI 1)) dX6_contains_11 (pc' := 12) rfl (by decide) ?_
    refine yy_goto C (tgt := 16) dX6_contains_12 (by decide) ?_
    subst hQ
    exact ye_i C hr rfl () dX6_contains_16 rfl (by decide) (by decide) (bI_t (tb_t c_8))

abbrev rX4_hide : Room := { frames := 0, cells := 0, slots := 0, locals := 0 }
set_option maxHeartbeats 4000000 in
set_option maxRecDepth 100000 in
theorem mX4_hide (l : Launch) (G : gG) (B0 : Nat) (ad : Nat → Nat) (F : va_W) (S : SA) (v : Int32) (d : Nat) (hI : IA S) : Met l yX4_hide (Cond.code yX4_hide cX4_hide 4 (some .boolean) :: WG) rX4_hide (va_Pc [.ref (ad 2), .int v, .int (nI d)] (PR G B0 (wA G ad S ++ F))) (va_Qi (fun (r : Int32) (_ : Unit) => r = bI (hidR (S.1 2) (S.2.1 5) (S.2.1 6) (S.2.1 7) d v)) (fun (_ : Unit) (t_ : State) => va_P G.1 vwCl (wA G ad S ++ F) t_.heap ∧ va_D (fun q => B0 ≤ q) (wA G ad S ++ F)) (fun q => B0 ≤ q)) rX4_hide.cells rX4_hide.slots (fun q => B0 ≤ q) := by
  refine met_of RX4 [(0, .ref (ad 2)), (1, .int v), (2, .int (nI d))] rfl (by decide) (Nat.le_of_ble_eq_true rfl) rfl ?_
  intro p e s m args below meth c C hr hnm
  refine yq ?_
  intro QQ hQ
  obtain ⟨i0, i1, i2, i3, i4, i5, i6, i7, i8, iJ, iH, iG, iQ⟩ := id hI
  refine yy_iconst C (v := (nI 0)) dX4_hide_0 (pc' := 1) rfl (by decide) ?_
  refine yy_istore_n C (L' := [(3, .int (nI 0)), (0, .ref (ad 2)), (1, .int v), (2, .int (nI d))]) dX4_hide_1 (pc' := 2) rfl rfl (by decide) rfl ?_
  have lp_2 : ∀ (f_ : Nat) (i : Nat), (hi : i ≤ S.1 2) → (ha : anyB (fun k => !decide (S.2.1 7 k < nI d) && inB v (S.2.1 5 k) (S.2.1 6 k)) i = false) → S.1 2 - i < f_ → YY p l e rX4_hide s m args below meth c G B0 4 QQ 2 [(3, .int (nI i)), (0, .ref (ad 2)), (1, .int v), (2, .int (nI d))] [] (wA G ad S ++ F) 0 0 := by
    intro f_
    induction f_ with
    | zero => intro i hi ha hf_; exact absurd hf_ (Nat.not_lt_zero _)
    | succ f_ ih =>
      intro i hi ha hf_
      refine yy_iload_n C 0 dX4_hide_2 (pc' := 3) rfl rfl rfl ?_
      refine yy_aload_n C 1 dX4_hide_3 (pc' := 4) rfl rfl rfl ?_
      refine yy_get C (v := .int (nI (S.1 2))) fk_X4_21 2 dX4_hide_4 (pc' := 7) rfl rfl rfl ?_
      refine yn_icmp_ge C (by omega) (by omega) dX4_hide_7 (pc' := 10) rfl (tgt := 48) (by decide) (fun c_7 => ?_) (fun c_7 => ?_)
      · skip
        refine yy_iconst C (v := (nI 0)) dX4_hide_48 (pc' := 49) rfl (by decide) ?_
        subst hQ
        exact ye_i C hr rfl () dX4_hide_49 rfl (by decide) (by decide) (bI_f ((show i = S.1 2 by omega) ▸ ha))
      · skip
        refine yy_iload_n C 3 dX4_hide_10 (pc' := 11) rfl rfl rfl ?_
        refine yy_aload_n C 1 dX4_hide_11 (pc' := 12) rfl rfl rfl ?_
        refine yy_get C (v := .ref (ad 15)) fk_X4_18 2 dX4_hide_12 (pc' := 15) rfl rfl rfl ?_
        refine yy_iload_n C 0 dX4_hide_15 (pc' := 16) rfl rfl rfl ?_
        refine yy_iald C 15 dX4_hide_16 (pc' := 17) rfl rfl (by omega) (by decide) ?_
        refine yy_icmp_gt C dX4_hide_17 (pc' := 20) rfl (tgt := 42) (by decide) (fun c_17 => ?_) (fun c_17 => ?_)
        · skip
          refine yy_iinc C (v := (nI (i + 1))) (L' := [(3, .int (nI (i + 1))), (0, .ref (ad 2)), (1, .int v), (2, .int (nI d))]) 0 dX4_hide_42 (pc' := 45) rfl rfl (nI_add i 1) (by decide) rfl ?_
          refine yy_goto C (tgt := 2) dX4_hide_45 (by decide) ?_
          refine yy_loc [0, 1, 2, 3] rfl ?_
          exact ih (i + 1) (by omega) (anyB_s ha (by simp [inB, c_17])) (by omega)
        · skip
          refine yy_aload_n C 1 dX4_hide_20 (pc' := 21) rfl rfl rfl ?_
          refine yy_get C (v := .ref (ad 13)) fk_X4_9 2 dX4_hide_21 (pc' := 24) rfl rfl rfl ?_
          refine yy_iload_n C 0 dX4_hide_24 (pc' := 25) rfl rfl rfl ?_
          refine yy_iald C 13 dX4_hide_25 (pc' := 26) rfl rfl (by omega) (by decide) ?_
          refine yy_iload_n C 2 dX4_hide_26 (pc' := 27) rfl rfl rfl ?_
          refine yy_icmp_gt C dX4_hide_27 (pc' := 30) rfl (tgt := 42) (by decide) (fun c_27 => ?_) (fun c_27 => ?_)
          · skip
            refine yy_iinc C (v := (nI (i + 1))) (L' := [(3, .int (nI (i + 1))), (0, .ref (ad 2)), (1, .int v), (2, .int (nI d))]) 0 dX4_hide_42 (pc' := 45) rfl rfl (nI_add i 1) (by decide) rfl ?_
            refine yy_goto C (tgt := 2) dX4_hide_45 (by decide) ?_
            refine yy_loc [0, 1, 2, 3] rfl ?_
            exact ih (i + 1) (by omega) (anyB_s ha (by simp [inB, c_17, c_27])) (by omega)
          · skip
            refine yy_iload_n C 2 dX4_hide_30 (pc' := 31) rfl rfl rfl ?_
            refine yy_aload_n C 1 dX4_hide_31 (pc' := 32) rfl rfl rfl ?_
            refine yy_get C (v := .ref (ad 14)) fk_X4_15 2 dX4_hide_32 (pc' := 35) rfl rfl rfl ?_
            refine yy_iload_n C 0 dX4_hide_35 (pc' := 36) rfl rfl rfl ?_
            refine yy_iald C 14 dX4_hide_36 (pc' := 37) rfl rfl (by omega) (by decide) ?_
            refine yy_icmp_gt C dX4_hide_37 (pc' := 40) rfl (tgt := 42) (by decide) (fun c_37 => ?_) (fun c_37 => ?_)
            · skip
              refine yy_iinc C (v := (nI (i + 1))) (L' := [(3, .int (nI (i + 1))), (0, .ref (ad 2)), (1, .int v), (2, .int (nI d))]) 0 dX4_hide_42 (pc' := 45) rfl rfl (nI_add i 1) (by decide) rfl ?_
              refine yy_goto C (tgt := 2) dX4_hide_45 (by decide) ?_
              refine yy_loc [0, 1, 2, 3] rfl ?_
              exact ih (i + 1) (by omega) (anyB_s ha (by simp [inB, c_17, c_27, c_37])) (by omega)
            · skip
              refine yy_iconst C (v := (nI 1)) dX4_hide_40 (pc' := 41) rfl (by decide) ?_
              subst hQ
              exact ye_i C hr rfl () dX4_hide_41 rfl (by decide) (by decide) (bI_t (anyB_t (i := i) (by omega) (by simp [inB, c_17, c_27, c_37])))
  refine yy_loc (L' := [(3, .int (nI 0)), (0, .ref (ad 2)), (1, .int v), (2, .int (nI d))]) [0, 1, 2, 3] rfl ?_
  exact lp_2 (S.1 2 - 0 + 1) 0 (Nat.zero_le _) rfl (Nat.lt_succ_self _)

abbrev rX5_hide : Room := { frames := 0, cells := 0, slots := 0, locals := 0 }
set_option maxHeartbeats 4000000 in
set_option maxRecDepth 100000 in
theorem mX5_hide (l : Launch) (G : gG) (B0 : Nat) (ad : Nat → Nat) (F : va_W) (S : SA) (dc x : Int32) (d : Nat) (hI : IA S) : Met l yX5_hide (Cond.code yX5_hide cX5_hide 5 (some .boolean) :: WG) rX5_hide (va_Pc [.ref (ad 3), .int dc, .int x, .int (nI d)] (PR G B0 (wA G ad S ++ F))) (va_Qi (fun (r : Int32) (_ : Unit) => r = bI (hidS (S.1 3) (S.2.1 8) (S.2.1 9) (S.2.1 10) (S.2.1 11) d dc x)) (fun (_ : Unit) (t_ : State) => va_P G.1 vwCl (wA G ad S ++ F) t_.heap ∧ va_D (fun q => B0 ≤ q) (wA G ad S ++ F)) (fun q => B0 ≤ q)) rX5_hide.cells rX5_hide.slots (fun q => B0 ≤ q) := by
  refine met_of RX5 [(0, .ref (ad 3)), (1, .int dc), (2, .int x), (3, .int (nI d))] rfl (by decide) (Nat.le_of_ble_eq_true rfl) rfl ?_
  intro p e s m args below meth c C hr hnm
  refine yq ?_
  intro QQ hQ
  obtain ⟨i0, i1, i2, i3, i4, i5, i6, i7, i8, iJ, iH, iG, iQ⟩ := id hI
  refine yy_iconst C (v := (nI 0)) dX5_hide_0 (pc' := 1) rfl (by decide) ?_
  refine yy_istore C (L' := [(4, .int (nI 0)), (0, .ref (ad 3)), (1, .int dc), (2, .int x), (3, .int (nI d))]) dX5_hide_1 (pc' := 3) rfl (by decide) rfl ?_
  have lp_3 : ∀ (f_ : Nat) (i : Nat), (hi : i ≤ S.1 3) → (ha : anyB (fun k => !decide (S.2.1 11 k < nI d) && decide (S.2.1 8 k = dc) && inB x (S.2.1 9 k) (S.2.1 10 k)) i = false) → S.1 3 - i < f_ → YY p l e rX5_hide s m args below meth c G B0 5 QQ 3 [(4, .int (nI i)), (0, .ref (ad 3)), (1, .int dc), (2, .int x), (3, .int (nI d))] [] (wA G ad S ++ F) 0 0 := by
    intro f_
    induction f_ with
    | zero => intro i hi ha hf_; exact absurd hf_ (Nat.not_lt_zero _)
    | succ f_ ih =>
      intro i hi ha hf_
      refine yy_iload C 0 dX5_hide_3 (pc' := 5) rfl rfl ?_
      refine yy_aload_n C 1 dX5_hide_5 (pc' := 6) rfl rfl rfl ?_
      refine yy_get C (v := .int (nI (S.1 3))) fk_X5_24 3 dX5_hide_6 (pc' := 9) rfl rfl rfl ?_
      refine yn_icmp_ge C (by omega) (by omega) dX5_hide_9 (pc' := 12) rfl (tgt := 64) (by decide) (fun c_9 => ?_) (fun c_9 => ?_)
      · skip
        refine yy_iconst C (v := (nI 0)) dX5_hide_64 (pc' := 65) rfl (by decide) ?_
        subst hQ
        exact ye_i C hr rfl () dX5_hide_65 rfl (by decide) (by decide) (bI_f ((show i = S.1 3 by omega) ▸ ha))
      · skip
        refine yy_iload_n C 4 dX5_hide_12 (pc' := 13) rfl rfl rfl ?_
        refine yy_aload_n C 1 dX5_hide_13 (pc' := 14) rfl rfl rfl ?_
        refine yy_get C (v := .ref (ad 19)) fk_X5_21 3 dX5_hide_14 (pc' := 17) rfl rfl rfl ?_
        refine yy_iload C 0 dX5_hide_17 (pc' := 19) rfl rfl ?_
        refine yy_iald C 19 dX5_hide_19 (pc' := 20) rfl rfl (by omega) (by decide) ?_
        refine yy_icmp_gt C dX5_hide_20 (pc' := 23) rfl (tgt := 58) (by decide) (fun c_20 => ?_) (fun c_20 => ?_)
        · skip
          refine yy_iinc C (v := (nI (i + 1))) (L' := [(4, .int (nI (i + 1))), (0, .ref (ad 3)), (1, .int dc), (2, .int x), (3, .int (nI d))]) 0 dX5_hide_58 (pc' := 61) rfl rfl (nI_add i 1) (by decide) rfl ?_
          refine yy_goto C (tgt := 3) dX5_hide_61 (by decide) ?_
          refine yy_loc [0, 1, 2, 3, 4] rfl ?_
          exact ih (i + 1) (by omega) (anyB_s ha (by simp [inB, c_20])) (by omega)
        · skip
          refine yy_aload_n C 1 dX5_hide_23 (pc' := 24) rfl rfl rfl ?_
          refine yy_get C (v := .ref (ad 16)) fk_X5_9 3 dX5_hide_24 (pc' := 27) rfl rfl rfl ?_
          refine yy_iload C 0 dX5_hide_27 (pc' := 29) rfl rfl ?_
          refine yy_iald C 16 dX5_hide_29 (pc' := 30) rfl rfl (by omega) (by decide) ?_
          refine yy_iload_n C 2 dX5_hide_30 (pc' := 31) rfl rfl rfl ?_
          refine yy_icmp_ne C dX5_hide_31 (pc' := 34) rfl (tgt := 58) (by decide) (fun c_31 => ?_) (fun c_31 => ?_)
          · skip
            refine yy_iinc C (v := (nI (i + 1))) (L' := [(4, .int (nI (i + 1))), (0, .ref (ad 3)), (1, .int dc), (2, .int x), (3, .int (nI d))]) 0 dX5_hide_58 (pc' := 61) rfl rfl (nI_add i 1) (by decide) rfl ?_
            refine yy_goto C (tgt := 3) dX5_hide_61 (by decide) ?_
            refine yy_loc [0, 1, 2, 3, 4] rfl ?_
            exact ih (i + 1) (by omega) (anyB_s ha (by simp [inB, c_20, c_31])) (by omega)
          · skip
            refine yy_aload_n C 1 dX5_hide_34 (pc' := 35) rfl rfl rfl ?_
            refine yy_get C (v := .ref (ad 17)) fk_X5_15 3 dX5_hide_35 (pc' := 38) rfl rfl rfl ?_
            refine yy_iload C 0 dX5_hide_38 (pc' := 40) rfl rfl ?_
            refine yy_iald C 17 dX5_hide_40 (pc' := 41) rfl rfl (by omega) (by decide) ?_
            refine yy_iload_n C 3 dX5_hide_41 (pc' := 42) rfl rfl rfl ?_
            refine yy_icmp_gt C dX5_hide_42 (pc' := 45) rfl (tgt := 58) (by decide) (fun c_42 => ?_) (fun c_42 => ?_)
            · skip
              refine yy_iinc C (v := (nI (i + 1))) (L' := [(4, .int (nI (i + 1))), (0, .ref (ad 3)), (1, .int dc), (2, .int x), (3, .int (nI d))]) 0 dX5_hide_58 (pc' := 61) rfl rfl (nI_add i 1) (by decide) rfl ?_
              refine yy_goto C (tgt := 3) dX5_hide_61 (by decide) ?_
              refine yy_loc [0, 1, 2, 3, 4] rfl ?_
              exact ih (i + 1) (by omega) (anyB_s ha (by simp [inB, c_20, c_31, c_42])) (by omega)
            · skip
              refine yy_iload_n C 3 dX5_hide_45 (pc' := 46) rfl rfl rfl ?_
              refine yy_aload_n C 1 dX5_hide_46 (pc' := 47) rfl rfl rfl ?_
              refine yy_get C (v := .ref (ad 18)) fk_X5_18 3 dX5_hide_47 (pc' := 50) rfl rfl rfl ?_
              refine yy_iload C 0 dX5_hide_50 (pc' := 52) rfl rfl ?_
              refine yy_iald C 18 dX5_hide_52 (pc' := 53) rfl rfl (by omega) (by decide) ?_
              refine yy_icmp_gt C dX5_hide_53 (pc' := 56) rfl (tgt := 58) (by decide) (fun c_53 => ?_) (fun c_53 => ?_)
              · skip
                refine yy_iinc C (v := (nI (i + 1))) (L' := [(4, .int (nI (i + 1))), (0, .ref (ad 3)), (1, .int dc), (2, .int x), (3, .int (nI d))]) 0 dX5_hide_58 (pc' := 61) rfl rfl (nI_add i 1) (by decide) rfl ?_
                refine yy_goto C (tgt := 3) dX5_hide_61 (by decide) ?_
                refine yy_loc [0, 1, 2, 3, 4] rfl ?_
                exact ih (i + 1) (by omega) (anyB_s ha (by simp [inB, c_20, c_31, c_42, c_53])) (by omega)
              · skip
                refine yy_iconst C (v := (nI 1)) dX5_hide_56 (pc' := 57) rfl (by decide) ?_
                subst hQ
                exact ye_i C hr rfl () dX5_hide_57 rfl (by decide) (by decide) (bI_t (anyB_t (i := i) (by omega) (by simp [inB, c_20, c_31, c_42, c_53])))
  refine yy_loc (L' := [(4, .int (nI 0)), (0, .ref (ad 3)), (1, .int dc), (2, .int x), (3, .int (nI d))]) [0, 1, 2, 3, 4] rfl ?_
  exact lp_3 (S.1 3 - 0 + 1) 0 (Nat.zero_le _) rfl (Nat.lt_succ_self _)

abbrev rX5_has : Room := { frames := 0, cells := 0, slots := 0, locals := 0 }
set_option maxHeartbeats 4000000 in
set_option maxRecDepth 100000 in
theorem mX5_has (l : Launch) (G : gG) (B0 : Nat) (ad : Nat → Nat) (F : va_W) (S : SA) (k : Int32) (hI : IA S) : Met l yX5_has (Cond.code yX5_has cX5_has 2 (some .boolean) :: WG) rX5_has (va_Pc [.ref (ad 3), .int k] (PR G B0 (wA G ad S ++ F))) (va_Qi (fun (r : Int32) (_ : Unit) => r = bI (inR k (S.1 3))) (fun (_ : Unit) (t_ : State) => va_P G.1 vwCl (wA G ad S ++ F) t_.heap ∧ va_D (fun q => B0 ≤ q) (wA G ad S ++ F)) (fun q => B0 ≤ q)) rX5_has.cells rX5_has.slots (fun q => B0 ≤ q) := by
  refine met_of RX5 [(0, .ref (ad 3)), (1, .int k)] rfl (by decide) (Nat.le_of_ble_eq_true rfl) rfl ?_
  intro p e s m args below meth c C hr hnm
  refine yq ?_
  intro QQ hQ
  obtain ⟨i0, i1, i2, i3, i4, i5, i6, i7, i8, iJ, iH, iG, iQ⟩ := id hI
  refine yy_iload_n C 1 dX5_has_0 (pc' := 1) rfl rfl rfl ?_
  refine yy_if_lt C dX5_has_1 (pc' := 4) rfl (tgt := 16) (by decide) (fun c_1 => ?_) (fun c_1 => ?_)
  · skip
    refine yy_iconst C (v := (nI 0)) dX5_has_16 (pc' := 17) rfl (by decide) ?_
    subst hQ
    exact ye_i C hr rfl () dX5_has_17 rfl (by decide) (by decide) (bI_f (by simp [inR, c_1]))
  · skip
    refine yy_iload_n C 1 dX5_has_4 (pc' := 5) rfl rfl rfl ?_
    refine yy_aload_n C 0 dX5_has_5 (pc' := 6) rfl rfl rfl ?_
    refine yy_get C (v := .int (nI (S.1 3))) fk_X5_24 3 dX5_has_6 (pc' := 9) rfl rfl rfl ?_
    refine yy_icmp_ge C dX5_has_9 (pc' := 12) rfl (tgt := 16) (by decide) (fun c_9 => ?_) (fun c_9 => ?_)
    · skip
      refine yy_iconst C (v := (nI 0)) dX5_has_16 (pc' := 17) rfl (by decide) ?_
      subst hQ
      exact ye_i C hr rfl () dX5_has_17 rfl (by decide) (by decide) (bI_f (by simp [inR, c_1, Int32.not_lt.mpr c_9]))
    · skip
      refine yy_iconst C (v := (nI 1)) dX5_has_12 (pc' := 13) rfl (by decide) ?_
      refine yy_goto C (tgt := 17) dX5_has_13 (by decide) ?_
      subst hQ
      exact ye_i C hr rfl () dX5_has_17 rfl (by decide) (by decide) (bI_t (by simp [inR, c_1, Int32.not_le.mp c_9]))

abbrev rX3_countInState : Room := { frames := 0, cells := 0, slots := 0, locals := 0 }
set_option maxHeartbeats 4000000 in
set_option maxRecDepth 100000 in
theorem mX3_countInState (l : Launch) (G : gG) (B0 : Nat) (ad : Nat → Nat) (F : va_W) (S : SA) (z : Int32) (hI : IA S) : Met l yX3_countInState (Cond.code yX3_countInState cX3_countInState 4 (some .int) :: WG) rX3_countInState (va_Pc [.ref (ad 6), .int z] (PR G B0 (wA G ad S ++ F))) (va_Qi (fun (r : Int32) (_ : Unit) => r = nI (fb_ct (fun k => decide (S.2.1 17 k = z)) (S.1 6))) (fun (_ : Unit) (t_ : State) => va_P G.1 vwCl (wA G ad S ++ F) t_.heap ∧ va_D (fun q => B0 ≤ q) (wA G ad S ++ F)) (fun q => B0 ≤ q)) rX3_countInState.cells rX3_countInState.slots (fun q => B0 ≤ q) := by
  refine met_of RX3 [(0, .ref (ad 6)), (1, .int z)] rfl (by decide) (Nat.le_of_ble_eq_true rfl) rfl ?_
  intro p e s m args below meth c C hr hnm
  refine yq ?_
  intro QQ hQ
  obtain ⟨i0, i1, i2, i3, i4, i5, i6, i7, i8, iJ, iH, iG, iQ⟩ := id hI
  refine yy_iconst C (v := (nI 0)) dX3_countInState_0 (pc' := 1) rfl (by decide) ?_
  refine yy_istore_n C (L' := [(2, .int (nI 0)), (0, .ref (ad 6)), (1, .int z)]) dX3_countInState_1 (pc' := 2) rfl rfl (by decide) rfl ?_
  refine yy_iconst C (v := (nI 0)) dX3_countInState_2 (pc' := 3) rfl (by decide) ?_
  refine yy_istore_n C (L' := [(3, .int (nI 0)), (2, .int (nI 0)), (0, .ref (ad 6)), (1, .int z)]) dX3_countInState_3 (pc' := 4) rfl rfl (by decide) rfl ?_
  have lp_4 : ∀ (f_ : Nat) (i : Nat), (hi : i ≤ S.1 6) → S.1 6 - i < f_ → YY p l e rX3_countInState s m args below meth c G B0 4 QQ 4 [(2, .int (nI (fb_ct (fun k => decide (S.2.1 17 k = z)) i))), (3, .int (nI i)), (0, .ref (ad 6)), (1, .int z)] [] (wA G ad S ++ F) 0 0 := by
    intro f_
    induction f_ with
    | zero => intro i hi hf_; exact absurd hf_ (Nat.not_lt_zero _)
    | succ f_ ih =>
      intro i hi hf_
      refine yy_iload_n C 1 dX3_countInState_4 (pc' := 5) rfl rfl rfl ?_
      refine yy_aload_n C 2 dX3_countInState_5 (pc' := 6) rfl rfl rfl ?_
      refine yy_get C (v := .int (nI (S.1 6))) fk_X3_25 6 dX3_countInState_6 (pc' := 9) rfl rfl rfl ?_
      refine yn_icmp_ge C (by omega) (by omega) dX3_countInState_9 (pc' := 12) rfl (tgt := 31) (by decide) (fun c_9 => ?_) (fun c_9 => ?_)
      · skip
        refine yy_iload_n C 0 dX3_countInState_31 (pc' := 32) rfl rfl rfl ?_
        subst hQ
        exact ye_i C hr (vp_nar_int _) () dX3_countInState_32 rfl (by decide) (by decide) (by rw [show i = S.1 6 by omega])
      · skip
        refine yy_aload_n C 2 dX3_countInState_12 (pc' := 13) rfl rfl rfl ?_
        refine yy_get C (v := .ref (ad 26)) fk_X3_18 6 dX3_countInState_13 (pc' := 16) rfl rfl rfl ?_
        refine yy_iload_n C 1 dX3_countInState_16 (pc' := 17) rfl rfl rfl ?_
        refine yy_cald C 26 dX3_countInState_17 (pc' := 18) rfl rfl (by omega) (by decide) ?_
        refine yy_iload_n C 3 dX3_countInState_18 (pc' := 19) rfl rfl rfl ?_
        refine yy_icmp_ne C dX3_countInState_19 (pc' := 22) rfl (tgt := 25) (by decide) (fun c_19 => ?_) (fun c_19 => ?_)
        · skip
          refine yy_iinc C (v := (nI (i + 1))) (L' := [(3, .int (nI (i + 1))), (2, .int (nI (fb_ct (fun k => decide (S.2.1 17 k = z)) i))), (0, .ref (ad 6)), (1, .int z)]) 1 dX3_countInState_25 (pc' := 28) rfl rfl (nI_add i 1) (by decide) rfl ?_
          refine yy_goto C (tgt := 4) dX3_countInState_28 (by decide) ?_
          rw [← ct_f (p := (fun k => decide (S.2.1 17 k = z))) (i := i) (by simp [c_19])]
          refine yy_loc [1, 0, 2, 3] rfl ?_
          exact ih (i + 1) (by omega) (by omega)
        · skip
          refine yy_iinc C (v := (nI ((fb_ct (fun k => decide (S.2.1 17 k = z)) i) + 1))) (L' := [(2, .int (nI ((fb_ct (fun k => decide (S.2.1 17 k = z)) i) + 1))), (3, .int (nI i)), (0, .ref (ad 6)), (1, .int z)]) 0 dX3_countInState_22 (pc' := 25) rfl rfl (nI_add (fb_ct (fun k => decide (S.2.1 17 k = z)) i) 1) (by decide) rfl ?_
          refine yy_iinc C (v := (nI (i + 1))) (L' := [(3, .int (nI (i + 1))), (2, .int (nI ((fb_ct (fun k => decide (S.2.1 17 k = z)) i) + 1))), (0, .ref (ad 6)), (1, .int z)]) 1 dX3_countInState_25 (pc' := 28) rfl rfl (nI_add i 1) (by decide) rfl ?_
          refine yy_goto C (tgt := 4) dX3_countInState_28 (by decide) ?_
          rw [← ct_t (p := (fun k => decide (S.2.1 17 k = z))) (i := i) (by simp [c_19])]
          refine yy_loc [1, 0, 2, 3] rfl ?_
          exact ih (i + 1) (by omega) (by omega)
  refine yy_loc (L' := [(2, .int (nI 0)), (3, .int (nI 0)), (0, .ref (ad 6)), (1, .int z)]) [1, 0, 2, 3] rfl ?_
  exact lp_4 (S.1 6 - 0 + 1) 0 (Nat.zero_le _) (Nat.lt_succ_self _)

abbrev rX3_countLate : Room := { frames := 0, cells := 0, slots := 0, locals := 0 }
set_option maxHeartbeats 4000000 in
set_option maxRecDepth 100000 in
theorem mX3_countLate (l : Launch) (G : gG) (B0 : Nat) (ad : Nat → Nat) (F : va_W) (S : SA) (d : Nat) (hI : IA S) : Met l yX3_countLate (Cond.code yX3_countLate cX3_countLate 4 (some .int) :: WG) rX3_countLate (va_Pc [.ref (ad 6), .int (nI d)] (PR G B0 (wA G ad S ++ F))) (va_Qi (fun (r : Int32) (_ : Unit) => r = nI (lateC (S.1 6) (S.2.1 17) (S.2.1 18) d)) (fun (_ : Unit) (t_ : State) => va_P G.1 vwCl (wA G ad S ++ F) t_.heap ∧ va_D (fun q => B0 ≤ q) (wA G ad S ++ F)) (fun q => B0 ≤ q)) rX3_countLate.cells rX3_countLate.slots (fun q => B0 ≤ q) := by
  refine met_of RX3 [(0, .ref (ad 6)), (1, .int (nI d))] rfl (by decide) (Nat.le_of_ble_eq_true rfl) rfl ?_
  intro p e s m args below meth c C hr hnm
  refine yq ?_
  intro QQ hQ
  obtain ⟨i0, i1, i2, i3, i4, i5, i6, i7, i8, iJ, iH, iG, iQ⟩ := id hI
  refine yy_iconst C (v := (nI 0)) dX3_countLate_0 (pc' := 1) rfl (by decide) ?_
  refine yy_istore_n C (L' := [(2, .int (nI 0)), (0, .ref (ad 6)), (1, .int (nI d))]) dX3_countLate_1 (pc' := 2) rfl rfl (by decide) rfl ?_
  refine yy_iconst C (v := (nI 0)) dX3_countLate_2 (pc' := 3) rfl (by decide) ?_
  refine yy_istore_n C (L' := [(3, .int (nI 0)), (2, .int (nI 0)), (0, .ref (ad 6)), (1, .int (nI d))]) dX3_countLate_3 (pc' := 4) rfl rfl (by decide) rfl ?_
  have lp_4 : ∀ (f_ : Nat) (i : Nat), (hi : i ≤ S.1 6) → S.1 6 - i < f_ → YY p l e rX3_countLate s m args below meth c G B0 4 QQ 4 [(2, .int (nI (fb_ct (fun k => decide (S.2.1 17 k = nI 119) && !decide (nI d - S.2.1 18 k ≤ nI 20)) i))), (3, .int (nI i)), (0, .ref (ad 6)), (1, .int (nI d))] [] (wA G ad S ++ F) 0 0 := by
    intro f_
    induction f_ with
    | zero => intro i hi hf_; exact absurd hf_ (Nat.not_lt_zero _)
    | succ f_ ih =>
      intro i hi hf_
      refine yy_iload_n C 1 dX3_countLate_4 (pc' := 5) rfl rfl rfl ?_
      refine yy_aload_n C 2 dX3_countLate_5 (pc' := 6) rfl rfl rfl ?_
      refine yy_get C (v := .int (nI (S.1 6))) fk_X3_25 6 dX3_countLate_6 (pc' := 9) rfl rfl rfl ?_
      refine yn_icmp_ge C (by omega) (by omega) dX3_countLate_9 (pc' := 12) rfl (tgt := 45) (by decide) (fun c_9 => ?_) (fun c_9 => ?_)
      · skip
        refine yy_iload_n C 0 dX3_countLate_45 (pc' := 46) rfl rfl rfl ?_
        subst hQ
        exact ye_i C hr (vp_nar_int _) () dX3_countLate_46 rfl (by decide) (by decide) (by rw [show i = S.1 6 by omega]; rfl)
      · skip
        refine yy_aload_n C 2 dX3_countLate_12 (pc' := 13) rfl rfl rfl ?_
        refine yy_get C (v := .ref (ad 26)) fk_X3_18 6 dX3_countLate_13 (pc' := 16) rfl rfl rfl ?_
        refine yy_iload_n C 1 dX3_countLate_16 (pc' := 17) rfl rfl rfl ?_
        refine yy_cald C 26 dX3_countLate_17 (pc' := 18) rfl rfl (by omega) (by decide) ?_
        refine yy_bipush C (v := (nI 119)) dX3_countLate_18 (pc' := 20) rfl (by decide) ?_
        refine yy_icmp_ne C dX3_countLate_20 (pc' := 23) rfl (tgt := 39) (by decide) (fun c_20 => ?_) (fun c_20 => ?_)
        · skip
          refine yy_iinc C (v := (nI (i + 1))) (L' := [(3, .int (nI (i + 1))), (2, .int (nI (fb_ct (fun k => decide (S.2.1 17 k = nI 119) && !decide (nI d - S.2.1 18 k ≤ nI 20)) i))), (0, .ref (ad 6)), (1, .int (nI d))]) 1 dX3_countLate_39 (pc' := 42) rfl rfl (nI_add i 1) (by decide) rfl ?_
          refine yy_goto C (tgt := 4) dX3_countLate_42 (by decide) ?_
          rw [← ct_f (p := (fun k => decide (S.2.1 17 k = nI 119) && !decide (nI d - S.2.1 18 k ≤ nI 20))) (i := i) (by simp [Int32.not_le, c_20])]
          refine yy_loc [1, 0, 2, 3] rfl ?_
          exact ih (i + 1) (by omega) (by omega)
        · skip
          refine yy_iload_n C 3 dX3_countLate_23 (pc' := 24) rfl rfl rfl ?_
          refine yy_aload_n C 2 dX3_countLate_24 (pc' := 25) rfl rfl rfl ?_
          refine yy_get C (v := .ref (ad 27)) fk_X3_22 6 dX3_countLate_25 (pc' := 28) rfl rfl rfl ?_
          refine yy_iload_n C 1 dX3_countLate_28 (pc' := 29) rfl rfl rfl ?_
          refine yy_iald C 27 dX3_countLate_29 (pc' := 30) rfl rfl (by omega) (by decide) ?_
          refine yy_isub C (v := ((nI d) - ((S.2.1 18) i))) dX3_countLate_30 (pc' := 31) rfl rfl ?_
          refine yy_bipush C (v := (nI 20)) dX3_countLate_31 (pc' := 33) rfl (by decide) ?_
          refine yy_icmp_le C dX3_countLate_33 (pc' := 36) rfl (tgt := 39) (by decide) (fun c_33 => ?_) (fun c_33 => ?_)
          · skip
            refine yy_iinc C (v := (nI (i + 1))) (L' := [(3, .int (nI (i + 1))), (2, .int (nI (fb_ct (fun k => decide (S.2.1 17 k = nI 119) && !decide (nI d - S.2.1 18 k ≤ nI 20)) i))), (0, .ref (ad 6)), (1, .int (nI d))]) 1 dX3_countLate_39 (pc' := 42) rfl rfl (nI_add i 1) (by decide) rfl ?_
            refine yy_goto C (tgt := 4) dX3_countLate_42 (by decide) ?_
            rw [← ct_f (p := (fun k => decide (S.2.1 17 k = nI 119) && !decide (nI d - S.2.1 18 k ≤ nI 20))) (i := i) (by simp [Int32.not_le, c_20, c_33, Int32.not_lt.mpr c_33])]
            refine yy_loc [1, 0, 2, 3] rfl ?_
            exact ih (i + 1) (by omega) (by omega)
          · skip
            refine yy_iinc C (v := (nI ((fb_ct (fun k => decide (S.2.1 17 k = nI 119) && !decide (nI d - S.2.1 18 k ≤ nI 20)) i) + 1))) (L' := [(2, .int (nI ((fb_ct (fun k => decide (S.2.1 17 k = nI 119) && !decide (nI d - S.2.1 18 k ≤ nI 20)) i) + 1))), (3, .int (nI i)), (0, .ref (ad 6)), (1, .int (nI d))]) 0 dX3_countLate_36 (pc' := 39) rfl rfl (nI_add (fb_ct (fun k => decide (S.2.1 17 k = nI 119) && !decide (nI d - S.2.1 18 k ≤ nI 20)) i) 1) (by decide) rfl ?_
            refine yy_iinc C (v := (nI (i + 1))) (L' := [(3, .int (nI (i + 1))), (2, .int (nI ((fb_ct (fun k => decide (S.2.1 17 k = nI 119) && !decide (nI d - S.2.1 18 k ≤ nI 20)) i) + 1))), (0, .ref (ad 6)), (1, .int (nI d))]) 1 dX3_countLate_39 (pc' := 42) rfl rfl (nI_add i 1) (by decide) rfl ?_
            refine yy_goto C (tgt := 4) dX3_countLate_42 (by decide) ?_
            rw [← ct_t (p := (fun k => decide (S.2.1 17 k = nI 119) && !decide (nI d - S.2.1 18 k ≤ nI 20))) (i := i) (by simp [Int32.not_le, c_20, c_33, Int32.not_le.mp c_33])]
            refine yy_loc [1, 0, 2, 3] rfl ?_
            exact ih (i + 1) (by omega) (by omega)
  refine yy_loc (L' := [(2, .int (nI 0)), (3, .int (nI 0)), (0, .ref (ad 6)), (1, .int (nI d))]) [1, 0, 2, 3] rfl ?_
  exact lp_4 (S.1 6 - 0 + 1) 0 (Nat.zero_le _) (Nat.lt_succ_self _)

abbrev rX3_isWaiting : Room := { frames := 0, cells := 0, slots := 0, locals := 0 }
set_option maxHeartbeats 4000000 in
set_option maxRecDepth 100000 in
theorem mX3_isWaiting (l : Launch) (G : gG) (B0 : Nat) (ad : Nat → Nat) (F : va_W) (S : SA) (a d : Int32) (hI : IA S) : Met l yX3_isWaiting (Cond.code yX3_isWaiting cX3_isWaiting 4 (some .boolean) :: WG) rX3_isWaiting (va_Pc [.ref (ad 6), .int a, .int d] (PR G B0 (wA G ad S ++ F))) (va_Qi (fun (r : Int32) (_ : Unit) => r = bI (wtg (S.1 6) (S.2.1 17) (S.2.1 15) (S.2.1 16) a d)) (fun (_ : Unit) (t_ : State) => va_P G.1 vwCl (wA G ad S ++ F) t_.heap ∧ va_D (fun q => B0 ≤ q) (wA G ad S ++ F)) (fun q => B0 ≤ q)) rX3_isWaiting.cells rX3_isWaiting.slots (fun q => B0 ≤ q) := by
  refine met_of RX3 [(0, .ref (ad 6)), (1, .int a), (2, .int d)] rfl (by decide) (Nat.le_of_ble_eq_true rfl) rfl ?_
  intro p e s m args below meth c C hr hnm
  refine yq ?_
  intro QQ hQ
  obtain ⟨i0, i1, i2, i3, i4, i5, i6, i7, i8, iJ, iH, iG, iQ⟩ := id hI
  refine yy_iconst C (v := (nI 0)) dX3_isWaiting_0 (pc' := 1) rfl (by decide) ?_
  refine yy_istore_n C (L' := [(3, .int (nI 0)), (0, .ref (ad 6)), (1, .int a), (2, .int d)]) dX3_isWaiting_1 (pc' := 2) rfl rfl (by decide) rfl ?_
  have lp_2 : ∀ (f_ : Nat) (i : Nat), (hi : i ≤ S.1 6) → (ha : anyB (fun k => decide (S.2.1 17 k = nI 119) && decide (S.2.1 15 k = a) && decide (S.2.1 16 k = d)) i = false) → S.1 6 - i < f_ → YY p l e rX3_isWaiting s m args below meth c G B0 4 QQ 2 [(3, .int (nI i)), (0, .ref (ad 6)), (1, .int a), (2, .int d)] [] (wA G ad S ++ F) 0 0 := by
    intro f_
    induction f_ with
    | zero => intro i hi ha hf_; exact absurd hf_ (Nat.not_lt_zero _)
    | succ f_ ih =>
      intro i hi ha hf_
      refine yy_iload_n C 0 dX3_isWaiting_2 (pc' := 3) rfl rfl rfl ?_
      refine yy_aload_n C 1 dX3_isWaiting_3 (pc' := 4) rfl rfl rfl ?_
      refine yy_get C (v := .int (nI (S.1 6))) fk_X3_25 6 dX3_isWaiting_4 (pc' := 7) rfl rfl rfl ?_
      refine yn_icmp_ge C (by omega) (by omega) dX3_isWaiting_7 (pc' := 10) rfl (tgt := 49) (by decide) (fun c_7 => ?_) (fun c_7 => ?_)
      · skip
        refine yy_iconst C (v := (nI 0)) dX3_isWaiting_49 (pc' := 50) rfl (by decide) ?_
        subst hQ
        exact ye_i C hr rfl () dX3_isWaiting_50 rfl (by decide) (by decide) (bI_f ((show i = S.1 6 by omega) ▸ ha))
      · skip
        refine yy_aload_n C 1 dX3_isWaiting_10 (pc' := 11) rfl rfl rfl ?_
        refine yy_get C (v := .ref (ad 26)) fk_X3_18 6 dX3_isWaiting_11 (pc' := 14) rfl rfl rfl ?_
        refine yy_iload_n C 0 dX3_isWaiting_14 (pc' := 15) rfl rfl rfl ?_
        refine yy_cald C 26 dX3_isWaiting_15 (pc' := 16) rfl rfl (by omega) (by decide) ?_
        refine yy_bipush C (v := (nI 119)) dX3_isWaiting_16 (pc' := 18) rfl (by decide) ?_
        refine yy_icmp_ne C dX3_isWaiting_18 (pc' := 21) rfl (tgt := 43) (by decide) (fun c_18 => ?_) (fun c_18 => ?_)
        · skip
          refine yy_iinc C (v := (nI (i + 1))) (L' := [(3, .int (nI (i + 1))), (0, .ref (ad 6)), (1, .int a), (2, .int d)]) 0 dX3_isWaiting_43 (pc' := 46) rfl rfl (nI_add i 1) (by decide) rfl ?_
          refine yy_goto C (tgt := 2) dX3_isWaiting_46 (by decide) ?_
          refine yy_loc [0, 1, 2, 3] rfl ?_
          exact ih (i + 1) (by omega) (anyB_s ha (by simp [c_18])) (by omega)
        · skip
          refine yy_aload_n C 1 dX3_isWaiting_21 (pc' := 22) rfl rfl rfl ?_
          refine yy_get C (v := .ref (ad 24)) fk_X3_9 6 dX3_isWaiting_22 (pc' := 25) rfl rfl rfl ?_
          refine yy_iload_n C 0 dX3_isWaiting_25 (pc' := 26) rfl rfl rfl ?_
          refine yy_iald C 24 dX3_isWaiting_26 (pc' := 27) rfl rfl (by omega) (by decide) ?_
          refine yy_iload_n C 2 dX3_isWaiting_27 (pc' := 28) rfl rfl rfl ?_
          refine yy_icmp_ne C dX3_isWaiting_28 (pc' := 31) rfl (tgt := 43) (by decide) (fun c_28 => ?_) (fun c_28 => ?_)
          · skip
            refine yy_iinc C (v := (nI (i + 1))) (L' := [(3, .int (nI (i + 1))), (0, .ref (ad 6)), (1, .int a), (2, .int d)]) 0 dX3_isWaiting_43 (pc' := 46) rfl rfl (nI_add i 1) (by decide) rfl ?_
            refine yy_goto C (tgt := 2) dX3_isWaiting_46 (by decide) ?_
            refine yy_loc [0, 1, 2, 3] rfl ?_
            exact ih (i + 1) (by omega) (anyB_s ha (by simp [c_18, c_28])) (by omega)
          · skip
            refine yy_aload_n C 1 dX3_isWaiting_31 (pc' := 32) rfl rfl rfl ?_
            refine yy_get C (v := .ref (ad 25)) fk_X3_15 6 dX3_isWaiting_32 (pc' := 35) rfl rfl rfl ?_
            refine yy_iload_n C 0 dX3_isWaiting_35 (pc' := 36) rfl rfl rfl ?_
            refine yy_iald C 25 dX3_isWaiting_36 (pc' := 37) rfl rfl (by omega) (by decide) ?_
            refine yy_iload_n C 3 dX3_isWaiting_37 (pc' := 38) rfl rfl rfl ?_
            refine yy_icmp_ne C dX3_isWaiting_38 (pc' := 41) rfl (tgt := 43) (by decide) (fun c_38 => ?_) (fun c_38 => ?_)
            · skip
              refine yy_iinc C (v := (nI (i + 1))) (L' := [(3, .int (nI (i + 1))), (0, .ref (ad 6)), (1, .int a), (2, .int d)]) 0 dX3_isWaiting_43 (pc' := 46) rfl rfl (nI_add i 1) (by decide) rfl ?_
              refine yy_goto C (tgt := 2) dX3_isWaiting_46 (by decide) ?_
              refine yy_loc [0, 1, 2, 3] rfl ?_
              exact ih (i + 1) (by omega) (anyB_s ha (by simp [c_18, c_28, c_38])) (by omega)
            · skip
              refine yy_iconst C (v := (nI 1)) dX3_isWaiting_41 (pc' := 42) rfl (by decide) ?_
              subst hQ
              exact ye_i C hr rfl () dX3_isWaiting_42 rfl (by decide) (by decide) (bI_t (anyB_t (i := i) (by omega) (by simp [c_18, c_28, c_38])))
  refine yy_loc (L' := [(3, .int (nI 0)), (0, .ref (ad 6)), (1, .int a), (2, .int d)]) [0, 1, 2, 3] rfl ?_
  exact lp_2 (S.1 6 - 0 + 1) 0 (Nat.zero_le _) rfl (Nat.lt_succ_self _)

abbrev rX2_linesGivenTo : Room := { frames := 1, cells := 0, slots := 0, locals := 20 }
set_option maxHeartbeats 4000000 in
set_option maxRecDepth 100000 in
theorem mX2_linesGivenTo (l : Launch) (G : gG) (B0 : Nat) (ad : Nat → Nat) (F : va_W) (S : SA) (a : Int32) (hI : IA S) : Met l yX2_linesGivenTo (Cond.code yX2_linesGivenTo cX2_linesGivenTo 5 (some .long) :: WG) rX2_linesGivenTo (va_Pc [.ref (ad 5), .int a] (PR G B0 (wA G ad S ++ F))) (va_Ql (fun (r : Int64) (_ : Unit) => r = lN (lgM (S.2.1 13) (S.2.1 14) a (S.1 5))) (fun (_ : Unit) (t_ : State) => va_P G.1 vwCl (wA G ad S ++ F) t_.heap ∧ va_D (fun q => B0 ≤ q) (wA G ad S ++ F)) (fun q => B0 ≤ q)) rX2_linesGivenTo.cells rX2_linesGivenTo.slots (fun q => B0 ≤ q) := by
  refine met_of RX2 [(0, .ref (ad 5)), (1, .int a)] rfl (by decide) (Nat.le_of_ble_eq_true rfl) rfl ?_
  intro p e s m args below meth c C hr hnm
  refine yq ?_
  intro QQ hQ
  obtain ⟨i0, i1, i2, i3, i4, i5, i6, i7, i8, iJ, iH, iG, iQ⟩ := id hI
  refine yy_lconst C (v := (lN 0)) dX2_linesGivenTo_0 (pc' := 1) rfl (by decide) ?_
  refine yy_lstore_n C (L' := [(2, .long (lN 0)), (0, .ref (ad 5)), (1, .int a)]) dX2_linesGivenTo_1 (pc' := 2) rfl rfl (by decide) rfl ?_
  refine yy_iconst C (v := (nI 0)) dX2_linesGivenTo_2 (pc' := 3) rfl (by decide) ?_
  refine yy_istore C (L' := [(4, .int (nI 0)), (2, .long (lN 0)), (0, .ref (ad 5)), (1, .int a)]) dX2_linesGivenTo_3 (pc' := 5) rfl (by decide) rfl ?_
  have lp_5 : ∀ (f_ : Nat) (i : Nat), (hi : i ≤ S.1 5) → S.1 5 - i < f_ → YY p l e rX2_linesGivenTo s m args below meth c G B0 5 QQ 5 [(2, .long (lN (lgM (S.2.1 13) (S.2.1 14) a i))), (4, .int (nI i)), (0, .ref (ad 5)), (1, .int a)] [] (wA G ad S ++ F) 0 0 := by
    intro f_
    induction f_ with
    | zero => intro i hi hf_; exact absurd hf_ (Nat.not_lt_zero _)
    | succ f_ ih =>
      intro i hi hf_
      refine yy_iload C 1 dX2_linesGivenTo_5 (pc' := 7) rfl rfl ?_
      refine yy_aload_n C 2 dX2_linesGivenTo_7 (pc' := 8) rfl rfl rfl ?_
      refine yy_get C (v := .int (nI (S.1 5))) fk_X2_18 5 dX2_linesGivenTo_8 (pc' := 11) rfl rfl rfl ?_
      refine yn_icmp_ge C (by omega) (by omega) dX2_linesGivenTo_11 (pc' := 14) rfl (tgt := 44) (by decide) (fun c_11 => ?_) (fun c_11 => ?_)
      · skip
        refine yy_lload_n C 0 dX2_linesGivenTo_44 (pc' := 45) rfl rfl rfl ?_
        subst hQ
        exact ye_l C hr () dX2_linesGivenTo_45 rfl (by decide) (by decide) (by rw [show i = S.1 5 by omega])
      · skip
        refine yy_aload_n C 2 dX2_linesGivenTo_14 (pc' := 15) rfl rfl rfl ?_
        refine yy_get C (v := .ref (ad 22)) fk_X2_9 5 dX2_linesGivenTo_15 (pc' := 18) rfl rfl rfl ?_
        refine yy_iload C 1 dX2_linesGivenTo_18 (pc' := 20) rfl rfl ?_
        refine yy_iald C 22 dX2_linesGivenTo_20 (pc' := 21) rfl rfl (by omega) (by decide) ?_
        refine yy_iload_n C 3 dX2_linesGivenTo_21 (pc' := 22) rfl rfl rfl ?_
        refine yy_icmp_ne C dX2_linesGivenTo_22 (pc' := 25) rfl (tgt := 38) (by decide) (fun c_22 => ?_) (fun c_22 => ?_)
        · skip
          refine yy_iinc C (v := (nI (i + 1))) (L' := [(4, .int (nI (i + 1))), (2, .long (lN (lgM (S.2.1 13) (S.2.1 14) a i))), (0, .ref (ad 5)), (1, .int a)]) 1 dX2_linesGivenTo_38 (pc' := 41) rfl rfl (nI_add i 1) (by decide) rfl ?_
          refine yy_goto C (tgt := 5) dX2_linesGivenTo_41 (by decide) ?_
          rw [← lgM_f c_22]
          refine yy_loc [1, 0, 2, 3] rfl ?_
          exact ih (i + 1) (by omega) (by omega)
        · skip
          refine yy_lload_n C 0 dX2_linesGivenTo_25 (pc' := 26) rfl rfl rfl ?_
          refine yy_aload_n C 2 dX2_linesGivenTo_26 (pc' := 27) rfl rfl rfl ?_
          refine yy_get C (v := .ref (ad 23)) fk_X2_15 5 dX2_linesGivenTo_27 (pc' := 30) rfl rfl rfl ?_
          refine yy_iload C 1 dX2_linesGivenTo_30 (pc' := 32) rfl rfl ?_
          refine yy_iald C 23 dX2_linesGivenTo_32 (pc' := 33) rfl rfl (by omega) (by decide) ?_
          refine yy_ix ?_
          refine yc_l (yr_SN C (As := [.int (nI (ix ((S.2.1 14) i)))]) (rest := [.long (lN (lgM (S.2.1 13) (S.2.1 14) a i))]) lk_X2_22 cd_X6_bitOf st_X6_bitOf (mX6_bitOf l G B0 (wA G ad S ++ F) (ix ((S.2.1 14) i)) (Nat.lt_trans (iG i (by omega)) (by decide))) ⟨by decide, by decide⟩ ⟨by decide, by decide⟩ rfl rfl (Nat.le_of_ble_eq_true rfl) dX2_linesGivenTo_33) (pc' := 36) rfl (fun r1 _ hw1 => ?_)
          subst hw1
          refine yy_lor C (v := (lN ((lgM (S.2.1 13) (S.2.1 14) a i) ||| (2 ^ (ix ((S.2.1 14) i)))))) dX2_linesGivenTo_36 (pc' := 37) rfl (fb_orL (lgM (S.2.1 13) (S.2.1 14) a i) (2 ^ (ix ((S.2.1 14) i)))) ?_
          refine yy_lstore_n C (L' := [(2, .long (lN ((lgM (S.2.1 13) (S.2.1 14) a i) ||| (2 ^ (ix ((S.2.1 14) i)))))), (4, .int (nI i)), (0, .ref (ad 5)), (1, .int a)]) dX2_linesGivenTo_37 (pc' := 38) rfl rfl (by decide) rfl ?_
          refine yy_iinc C (v := (nI (i + 1))) (L' := [(4, .int (nI (i + 1))), (2, .long (lN ((lgM (S.2.1 13) (S.2.1 14) a i) ||| (2 ^ (ix ((S.2.1 14) i)))))), (0, .ref (ad 5)), (1, .int a)]) 1 dX2_linesGivenTo_38 (pc' := 41) rfl rfl (nI_add i 1) (by decide) rfl ?_
          refine yy_goto C (tgt := 5) dX2_linesGivenTo_41 (by decide) ?_
          rw [← lgM_t c_22]
          refine yy_loc [1, 0, 2, 3] rfl ?_
          exact ih (i + 1) (by omega) (by omega)
  refine yy_loc (L' := [(2, .long (lN 0)), (4, .int (nI 0)), (0, .ref (ad 5)), (1, .int a)]) [1, 0, 2, 3] rfl ?_
  exact lp_5 (S.1 5 - 0 + 1) 0 (Nat.zero_le _) (Nat.lt_succ_self _)

abbrev rX0_addTold : Room := { frames := 0, cells := 0, slots := 0, locals := 0 }
set_option maxHeartbeats 4000000 in
set_option maxRecDepth 100000 in
theorem mX0_addTold (l : Launch) (G : gG) (B0 : Nat) (ad : Nat → Nat) (F : va_W) (S : SA) (x : Nat) (hI : IA S) : Met l yX0_addTold (Cond.code yX0_addTold cX0_addTold 6 (some .long) :: WG) rX0_addTold (va_Pc [.ref (ad 4), .long (lN x)] (PR G B0 (wA G ad S ++ F))) (va_Ql (fun (r : Int64) (_ : Unit) => r = lN (passN (fun j => mk (S.2.2 1 j)) (fun j => mk (S.2.2 2 j)) x (S.1 4))) (fun (_ : Unit) (t_ : State) => va_P G.1 vwCl (wA G ad S ++ F) t_.heap ∧ va_D (fun q => B0 ≤ q) (wA G ad S ++ F)) (fun q => B0 ≤ q)) rX0_addTold.cells rX0_addTold.slots (fun q => B0 ≤ q) := by
  refine met_of RX0 [(0, .ref (ad 4)), (1, .long (lN x))] rfl (by decide) (Nat.le_of_ble_eq_true rfl) rfl ?_
  intro p e s m args below meth c C hr hnm
  refine yq ?_
  intro QQ hQ
  obtain ⟨i0, i1, i2, i3, i4, i5, i6, i7, i8, iJ, iH, iG, iQ⟩ := id hI
  refine yy_lload_n C 1 dX0_addTold_0 (pc' := 1) rfl rfl rfl ?_
  refine yy_lstore_n C (L' := [(3, .long (lN x)), (0, .ref (ad 4)), (1, .long (lN x))]) dX0_addTold_1 (pc' := 2) rfl rfl (by decide) rfl ?_
  refine yy_iconst C (v := (nI 0)) dX0_addTold_2 (pc' := 3) rfl (by decide) ?_
  refine yy_istore C (L' := [(5, .int (nI 0)), (3, .long (lN x)), (0, .ref (ad 4)), (1, .long (lN x))]) dX0_addTold_3 (pc' := 5) rfl (by decide) rfl ?_
  have lp_5 : ∀ (f_ : Nat) (i : Nat), (hi : i ≤ S.1 4) → S.1 4 - i < f_ → YY p l e rX0_addTold s m args below meth c G B0 6 QQ 5 [(3, .long (lN (passN (fun j => mk (S.2.2 1 j)) (fun j => mk (S.2.2 2 j)) x i))), (5, .int (nI i)), (0, .ref (ad 4)), (1, .long (lN x))] [] (wA G ad S ++ F) 0 0 := by
    intro f_
    induction f_ with
    | zero => intro i hi hf_; exact absurd hf_ (Nat.not_lt_zero _)
    | succ f_ ih =>
      intro i hi hf_
      refine yy_iload C 1 dX0_addTold_5 (pc' := 7) rfl rfl ?_
      refine yy_aload_n C 2 dX0_addTold_7 (pc' := 8) rfl rfl rfl ?_
      refine yy_get C (v := .int (nI (S.1 4))) fk_X0_18 4 dX0_addTold_8 (pc' := 11) rfl rfl rfl ?_
      refine yn_icmp_ge C (by omega) (by omega) dX0_addTold_11 (pc' := 14) rfl (tgt := 50) (by decide) (fun c_11 => ?_) (fun c_11 => ?_)
      · skip
        refine yy_lload_n C 0 dX0_addTold_50 (pc' := 51) rfl rfl rfl ?_
        subst hQ
        exact ye_l C hr () dX0_addTold_51 rfl (by decide) (by decide) (by rw [show i = S.1 4 by omega])
      · skip
        refine yy_lload_n C 0 dX0_addTold_14 (pc' := 15) rfl rfl rfl ?_
        refine yy_aload_n C 2 dX0_addTold_15 (pc' := 16) rfl rfl rfl ?_
        refine yy_get C (v := .ref (ad 20)) fk_X0_9 4 dX0_addTold_16 (pc' := 19) rfl rfl rfl ?_
        refine yy_iload C 1 dX0_addTold_19 (pc' := 21) rfl rfl ?_
        refine yy_lald C 20 dX0_addTold_21 (pc' := 22) rfl rfl (by omega) (by decide) ?_
        refine yy_mk ?_
        refine yy_land C (v := (lN ((passN (fun j => mk (S.2.2 1 j)) (fun j => mk (S.2.2 2 j)) x i) &&& (mk ((S.2.2 1) i))))) dX0_addTold_22 (pc' := 23) rfl (fb_andL (passN (fun j => mk (S.2.2 1 j)) (fun j => mk (S.2.2 2 j)) x i) (mk ((S.2.2 1) i))) ?_
        refine yy_aload_n C 2 dX0_addTold_23 (pc' := 24) rfl rfl rfl ?_
        refine yy_get C (v := .ref (ad 20)) fk_X0_9 4 dX0_addTold_24 (pc' := 27) rfl rfl rfl ?_
        refine yy_iload C 1 dX0_addTold_27 (pc' := 29) rfl rfl ?_
        refine yy_lald C 20 dX0_addTold_29 (pc' := 30) rfl rfl (by omega) (by decide) ?_
        refine yy_mk ?_
        refine yy_lcmp C dX0_addTold_30 (pc' := 31) rfl ?_
        refine yl_if_ne C (and63 (iJ i (by omega)).1) (lt63 (iJ i (by omega)).1) dX0_addTold_31 (pc' := 34) rfl (tgt := 44) (by decide) (fun c_31 => ?_) (fun c_31 => ?_)
        · skip
          refine yy_iinc C (v := (nI (i + 1))) (L' := [(5, .int (nI (i + 1))), (3, .long (lN (passN (fun j => mk (S.2.2 1 j)) (fun j => mk (S.2.2 2 j)) x i))), (0, .ref (ad 4)), (1, .long (lN x))]) 1 dX0_addTold_44 (pc' := 47) rfl rfl (nI_add i 1) (by decide) rfl ?_
          refine yy_goto C (tgt := 5) dX0_addTold_47 (by decide) ?_
          rw [← pass_f (pr := fun j => mk (S.2.2 1 j)) (tl := fun j => mk (S.2.2 2 j)) c_31]
          refine yy_loc [1, 0, 2, 3] rfl ?_
          exact ih (i + 1) (by omega) (by omega)
        · skip
          refine yy_lload_n C 0 dX0_addTold_34 (pc' := 35) rfl rfl rfl ?_
          refine yy_aload_n C 2 dX0_addTold_35 (pc' := 36) rfl rfl rfl ?_
          refine yy_get C (v := .ref (ad 21)) fk_X0_15 4 dX0_addTold_36 (pc' := 39) rfl rfl rfl ?_
          refine yy_iload C 1 dX0_addTold_39 (pc' := 41) rfl rfl ?_
          refine yy_lald C 21 dX0_addTold_41 (pc' := 42) rfl rfl (by omega) (by decide) ?_
          refine yy_mk ?_
          refine yy_lor C (v := (lN ((passN (fun j => mk (S.2.2 1 j)) (fun j => mk (S.2.2 2 j)) x i) ||| (mk ((S.2.2 2) i))))) dX0_addTold_42 (pc' := 43) rfl (fb_orL (passN (fun j => mk (S.2.2 1 j)) (fun j => mk (S.2.2 2 j)) x i) (mk ((S.2.2 2) i))) ?_
          refine yy_lstore_n C (L' := [(3, .long (lN ((passN (fun j => mk (S.2.2 1 j)) (fun j => mk (S.2.2 2 j)) x i) ||| (mk ((S.2.2 2) i))))), (5, .int (nI i)), (0, .ref (ad 4)), (1, .long (lN x))]) dX0_addTold_43 (pc' := 44) rfl rfl (by decide) rfl ?_
          refine yy_iinc C (v := (nI (i + 1))) (L' := [(5, .int (nI (i + 1))), (3, .long (lN ((passN (fun j => mk (S.2.2 1 j)) (fun j => mk (S.2.2 2 j)) x i) ||| (mk ((S.2.2 2) i))))), (0, .ref (ad 4)), (1, .long (lN x))]) 1 dX0_addTold_44 (pc' := 47) rfl rfl (nI_add i 1) (by decide) rfl ?_
          refine yy_goto C (tgt := 5) dX0_addTold_47 (by decide) ?_
          rw [← pass_t (pr := fun j => mk (S.2.2 1 j)) (tl := fun j => mk (S.2.2 2 j)) c_31]
          refine yy_loc [1, 0, 2, 3] rfl ?_
          exact ih (i + 1) (by omega) (by omega)
  refine yy_loc (L' := [(3, .long (lN x)), (5, .int (nI 0)), (0, .ref (ad 4)), (1, .long (lN x))]) [1, 0, 2, 3] rfl ?_
  exact lp_5 (S.1 4 - 0 + 1) 0 (Nat.zero_le _) (Nat.lt_succ_self _)

abbrev rX0_closure : Room := { frames := 1, cells := 0, slots := 0, locals := 25 }
set_option maxHeartbeats 4000000 in
set_option maxRecDepth 100000 in
theorem mX0_closure (l : Launch) (G : gG) (B0 : Nat) (ad : Nat → Nat) (F : va_W) (S : SA) (x : Nat) (hx : x < 2 ^ 40) (hI : IA S) : Met l yX0_closure (Cond.code yX0_closure cX0_closure 8 (some .long) :: WG) rX0_closure (va_Pc [.ref (ad 4), .long (lN x)] (PR G B0 (wA G ad S ++ F))) (va_Ql (fun (r : Int64) (_ : Unit) => r = lN (cloA S x)) (fun (_ : Unit) (t_ : State) => va_P G.1 vwCl (wA G ad S ++ F) t_.heap ∧ va_D (fun q => B0 ≤ q) (wA G ad S ++ F)) (fun q => B0 ≤ q)) rX0_closure.cells rX0_closure.slots (fun q => B0 ≤ q) := by
  refine met_of RX0 [(0, .ref (ad 4)), (1, .long (lN x))] rfl (by decide) (Nat.le_of_ble_eq_true rfl) rfl ?_
  intro p e s m args below meth c C hr hnm
  refine yq ?_
  intro QQ hQ
  obtain ⟨i0, i1, i2, i3, i4, i5, i6, i7, i8, iJ, iH, iG, iQ⟩ := id hI
  refine yy_lload_n C 1 dX0_closure_0 (pc' := 1) rfl rfl rfl ?_
  refine yy_lstore_n C (L' := [(3, .long (lN x)), (0, .ref (ad 4)), (1, .long (lN x))]) dX0_closure_1 (pc' := 2) rfl rfl (by decide) rfl ?_
  refine yy_iconst C (v := (nI 0)) dX0_closure_2 (pc' := 3) rfl (by decide) ?_
  refine yy_istore C (L' := [(5, .int (nI 0)), (3, .long (lN x)), (0, .ref (ad 4)), (1, .long (lN x))]) dX0_closure_3 (pc' := 5) rfl (by decide) rfl ?_
  have lp_5 : ∀ (f_ : Nat) (i : Nat), (hi : i ≤ S.1 4) → S.1 4 - i < f_ → YY p l e rX0_closure s m args below meth c G B0 8 QQ 5 [(3, .long (lN (pwN (fun j => mk (S.2.2 1 j)) (fun j => mk (S.2.2 2 j)) (S.1 4) x i))), (5, .int (nI i)), (0, .ref (ad 4)), (1, .long (lN x))] [] (wA G ad S ++ F) 0 0 := by
    intro f_
    induction f_ with
    | zero => intro i hi hf_; exact absurd hf_ (Nat.not_lt_zero _)
    | succ f_ ih =>
      intro i hi hf_
      refine yy_iload C 1 dX0_closure_5 (pc' := 7) rfl rfl ?_
      refine yy_aload_n C 2 dX0_closure_7 (pc' := 8) rfl rfl rfl ?_
      refine yy_get C (v := .int (nI (S.1 4))) fk_X0_18 4 dX0_closure_8 (pc' := 11) rfl rfl rfl ?_
      refine yn_icmp_ge C (by omega) (by omega) dX0_closure_11 (pc' := 14) rfl (tgt := 38) (by decide) (fun c_11 => ?_) (fun c_11 => ?_)
      · skip
        refine yy_lload_n C 0 dX0_closure_38 (pc' := 39) rfl rfl rfl ?_
        subst hQ
        exact ye_l C hr () dX0_closure_39 rfl (by decide) (by decide) (by rw [show i = S.1 4 by omega]; rfl)
      · skip
        refine yy_lload_n C 0 dX0_closure_14 (pc' := 15) rfl rfl rfl ?_
        refine yy_lstore C (L' := [(6, .long (lN (pwN (fun j => mk (S.2.2 1 j)) (fun j => mk (S.2.2 2 j)) (S.1 4) x i))), (3, .long (lN (pwN (fun j => mk (S.2.2 1 j)) (fun j => mk (S.2.2 2 j)) (S.1 4) x i))), (5, .int (nI i)), (0, .ref (ad 4)), (1, .long (lN x))]) dX0_closure_15 (pc' := 17) rfl (by decide) rfl ?_
        refine yy_aload_n C 3 dX0_closure_17 (pc' := 18) rfl rfl rfl ?_
        refine yy_lload_n C 1 dX0_closure_18 (pc' := 19) rfl rfl rfl ?_
        refine yc_l (yr_V C (As := [.long (lN (pwN (fun j => mk (S.2.2 1 j)) (fun j => mk (S.2.2 2 j)) (S.1 4) x i))]) (rest := []) lk_X0_33 cd_X0_addTold im_X0_addTold se_X0_addTold (mX0_addTold l G B0 ad F (S) ((pwN (fun j => mk (S.2.2 1 j)) (fun j => mk (S.2.2 2 j)) (S.1 4) x i)) (by exact hI)) ⟨by decide, by decide⟩ ⟨by decide, by decide⟩ 4 rfl rfl rfl rfl (Nat.le_of_ble_eq_true rfl) dX0_closure_19) (pc' := 22) rfl (fun r1 _ hw1 => ?_)
        subst hw1
        refine yy_lstore_n C (L' := [(3, .long (lN (passN (fun j => mk (S.2.2 1 j)) (fun j => mk (S.2.2 2 j)) (pwN (fun j => mk (S.2.2 1 j)) (fun j => mk (S.2.2 2 j)) (S.1 4) x i) (S.1 4)))), (6, .long (lN (pwN (fun j => mk (S.2.2 1 j)) (fun j => mk (S.2.2 2 j)) (S.1 4) x i))), (5, .int (nI i)), (0, .ref (ad 4)), (1, .long (lN x))]) dX0_closure_22 (pc' := 23) rfl rfl (by decide) rfl ?_
        refine yy_lload_n C 0 dX0_closure_23 (pc' := 24) rfl rfl rfl ?_
        refine yy_lload C 1 dX0_closure_24 (pc' := 26) rfl rfl ?_
        refine yy_lcmp C dX0_closure_26 (pc' := 27) rfl ?_
        refine yl_if_ne C (lt63 (pass_lt (pw_lt hx (fun j hj => (iJ j hj).2) i) (fun j hj => (iJ j hj).2))) (lt63 (pw_lt hx (fun j hj => (iJ j hj).2) i)) dX0_closure_27 (pc' := 30) rfl (tgt := 32) (by decide) (fun c_27 => ?_) (fun c_27 => ?_)
        · skip
          refine yy_iinc C (v := (nI (i + 1))) (L' := [(5, .int (nI (i + 1))), (3, .long (lN (passN (fun j => mk (S.2.2 1 j)) (fun j => mk (S.2.2 2 j)) (pwN (fun j => mk (S.2.2 1 j)) (fun j => mk (S.2.2 2 j)) (S.1 4) x i) (S.1 4)))), (6, .long (lN (pwN (fun j => mk (S.2.2 1 j)) (fun j => mk (S.2.2 2 j)) (S.1 4) x i))), (0, .ref (ad 4)), (1, .long (lN x))]) 2 dX0_closure_32 (pc' := 35) rfl rfl (nI_add i 1) (by decide) rfl ?_
          refine yy_goto C (tgt := 5) dX0_closure_35 (by decide) ?_
          refine yy_loc [1, 0, 3, 4] rfl ?_
          exact ih (i + 1) (by omega) (by omega)
        · skip
          refine yy_lload_n C 0 dX0_closure_30 (pc' := 31) rfl rfl rfl ?_
          subst hQ
          exact ye_l C hr () dX0_closure_31 rfl (by decide) (by decide) (by rw [c_27]; exact congrArg lN (clo_fix hi c_27))
  refine yy_loc (L' := [(3, .long (lN x)), (5, .int (nI 0)), (0, .ref (ad 4)), (1, .long (lN x))]) [1, 0, 2, 3] rfl ?_
  exact lp_5 (S.1 4 - 0 + 1) 0 (Nat.zero_le _) (Nat.lt_succ_self _)

abbrev rX6_isHiddenByRule : Room := { frames := 1, cells := 0, slots := 0, locals := 23 }
set_option maxHeartbeats 4000000 in
set_option maxRecDepth 100000 in
theorem mX6_isHiddenByRule (l : Launch) (G : gG) (B0 : Nat) (ad : Nat → Nat) (F : va_W) (S : SA) (k : Nat) (hk : k < 40) (hI : IA S) : Met l yX6_isHiddenByRule (Cond.code yX6_isHiddenByRule cX6_isHiddenByRule 2 (some .boolean) :: WG) rX6_isHiddenByRule (va_Pc [.ref (ad 0), .int (nI k)] (PR G B0 (wA G ad S ++ F))) (va_Qi (fun (r : Int32) (_ : Unit) => r = bI (hRA S k)) (fun (_ : Unit) (t_ : State) => va_P G.1 vwCl (wA G ad S ++ F) t_.heap ∧ va_D (fun q => B0 ≤ q) (wA G ad S ++ F)) (fun q => B0 ≤ q)) rX6_isHiddenByRule.cells rX6_isHiddenByRule.slots (fun q => B0 ≤ q) := by
  refine met_of RX6 [(0, .ref (ad 0)), (1, .int (nI k))] rfl (by decide) (Nat.le_of_ble_eq_true rfl) rfl ?_
  intro p e s m args below meth c C hr hnm
  refine yq ?_
  intro QQ hQ
  obtain ⟨i0, i1, i2, i3, i4, i5, i6, i7, i8, iJ, iH, iG, iQ⟩ := id hI
  refine yy_aload_n C 0 dX6_isHiddenByRule_0 (pc' := 1) rfl rfl rfl ?_
  refine yy_get C (v := .ref (ad 2)) fk_X6_19 0 dX6_isHiddenByRule_1 (pc' := 4) rfl rfl rfl ?_
  refine yy_aload_n C 0 dX6_isHiddenByRule_4 (pc' := 5) rfl rfl rfl ?_
  refine yy_get C (v := .ref (ad 1)) fk_X6_12 0 dX6_isHiddenByRule_5 (pc' := 8) rfl rfl rfl ?_
  refine yy_get C (v := .ref (ad 12)) fk_X6_81 1 dX6_isHiddenByRule_8 (pc' := 11) rfl rfl rfl ?_
  refine yy_iload_n C 1 dX6_isHiddenByRule_11 (pc' := 12) rfl rfl rfl ?_
  refine yy_iald C 12 dX6_isHiddenByRule_12 (pc' := 13) rfl rfl (by omega) (by decide) ?_
  refine yy_aload_n C 0 dX6_isHiddenByRule_13 (pc' := 14) rfl rfl rfl ?_
  refine yy_get C (v := .int (nI (S.1 7))) fk_X6_120 0 dX6_isHiddenByRule_14 (pc' := 17) rfl rfl rfl ?_
  refine yc_i (yr_V C (As := [.int ((S.2.1 4) k), .int (nI (S.1 7))]) (rest := []) lk_X6_265 cd_X4_hide im_X4_hide se_X4_hide (mX4_hide l G B0 ad F (S) ((S.2.1 4) k) (S.1 7) (by exact hI)) ⟨by decide, by decide⟩ ⟨by decide, by decide⟩ 2 rfl rfl rfl rfl (Nat.le_of_ble_eq_true rfl) dX6_isHiddenByRule_17) (pc' := 20) rfl (fun r1 _ hw1 => ?_)
  subst hw1
  subst hQ
  exact ye_i C hr (nar_b _) () dX6_isHiddenByRule_20 rfl (by decide) (by decide) rfl

abbrev rX6_isHiddenBySpan : Room := { frames := 1, cells := 0, slots := 0, locals := 24 }
set_option maxHeartbeats 4000000 in
set_option maxRecDepth 100000 in
theorem mX6_isHiddenBySpan (l : Launch) (G : gG) (B0 : Nat) (ad : Nat → Nat) (F : va_W) (S : SA) (k : Nat) (hk : k < 40) (hI : IA S) : Met l yX6_isHiddenBySpan (Cond.code yX6_isHiddenBySpan cX6_isHiddenBySpan 2 (some .boolean) :: WG) rX6_isHiddenBySpan (va_Pc [.ref (ad 0), .int (nI k)] (PR G B0 (wA G ad S ++ F))) (va_Qi (fun (r : Int32) (_ : Unit) => r = bI (hSA S k)) (fun (_ : Unit) (t_ : State) => va_P G.1 vwCl (wA G ad S ++ F) t_.heap ∧ va_D (fun q => B0 ≤ q) (wA G ad S ++ F)) (fun q => B0 ≤ q)) rX6_isHiddenBySpan.cells rX6_isHiddenBySpan.slots (fun q => B0 ≤ q) := by
  refine met_of RX6 [(0, .ref (ad 0)), (1, .int (nI k))] rfl (by decide) (Nat.le_of_ble_eq_true rfl) rfl ?_
  intro p e s m args below meth c C hr hnm
  refine yq ?_
  intro QQ hQ
  obtain ⟨i0, i1, i2, i3, i4, i5, i6, i7, i8, iJ, iH, iG, iQ⟩ := id hI
  refine yy_aload_n C 0 dX6_isHiddenBySpan_0 (pc' := 1) rfl rfl rfl ?_
  refine yy_get C (v := .ref (ad 3)) fk_X6_26 0 dX6_isHiddenBySpan_1 (pc' := 4) rfl rfl rfl ?_
  refine yy_aload_n C 0 dX6_isHiddenBySpan_4 (pc' := 5) rfl rfl rfl ?_
  refine yy_get C (v := .ref (ad 1)) fk_X6_12 0 dX6_isHiddenBySpan_5 (pc' := 8) rfl rfl rfl ?_
  refine yy_get C (v := .ref (ad 10)) fk_X6_84 1 dX6_isHiddenBySpan_8 (pc' := 11) rfl rfl rfl ?_
  refine yy_iload_n C 1 dX6_isHiddenBySpan_11 (pc' := 12) rfl rfl rfl ?_
  refine yy_iald C 10 dX6_isHiddenBySpan_12 (pc' := 13) rfl rfl (by omega) (by decide) ?_
  refine yy_aload_n C 0 dX6_isHiddenBySpan_13 (pc' := 14) rfl rfl rfl ?_
  refine yy_get C (v := .ref (ad 1)) fk_X6_12 0 dX6_isHiddenBySpan_14 (pc' := 17) rfl rfl rfl ?_
  refine yy_get C (v := .ref (ad 11)) fk_X6_87 1 dX6_isHiddenBySpan_17 (pc' := 20) rfl rfl rfl ?_
  refine yy_iload_n C 1 dX6_isHiddenBySpan_20 (pc' := 21) rfl rfl rfl ?_
  refine yy_iald C 11 dX6_isHiddenBySpan_21 (pc' := 22) rfl rfl (by omega) (by decide) ?_
  refine yy_aload_n C 0 dX6_isHiddenBySpan_22 (pc' := 23) rfl rfl rfl ?_
  refine yy_get C (v := .int (nI (S.1 7))) fk_X6_120 0 dX6_isHiddenBySpan_23 (pc' := 26) rfl rfl rfl ?_
  refine yc_i (yr_V C (As := [.int ((S.2.1 2) k), .int ((S.2.1 3) k), .int (nI (S.1 7))]) (rest := []) lk_X6_268 cd_X5_hide im_X5_hide se_X5_hide (mX5_hide l G B0 ad F (S) ((S.2.1 2) k) ((S.2.1 3) k) (S.1 7) (by exact hI)) ⟨by decide, by decide⟩ ⟨by decide, by decide⟩ 3 rfl rfl rfl rfl (Nat.le_of_ble_eq_true rfl) dX6_isHiddenBySpan_26) (pc' := 29) rfl (fun r1 _ hw1 => ?_)
  subst hw1
  subst hQ
  exact ye_i C hr (nar_b _) () dX6_isHiddenBySpan_29 rfl (by decide) (by decide) rfl

abbrev rX6_isHiddenToday : Room := { frames := 2, cells := 0, slots := 0, locals := 45 }
set_option maxHeartbeats 4000000 in
set_option maxRecDepth 100000 in
theorem mX6_isHiddenToday (l : Launch) (G : gG) (B0 : Nat) (ad : Nat → Nat) (F : va_W) (S : SA) (k : Nat) (hk : k < 40) (hI : IA S) : Met l yX6_isHiddenToday (Cond.code yX6_isHiddenToday cX6_isHiddenToday 2 (some .boolean) :: WG) rX6_isHiddenToday (va_Pc [.ref (ad 0), .int (nI k)] (PR G B0 (wA G ad S ++ F))) (va_Qi (fun (r : Int32) (_ : Unit) => r = bI (hidA S k)) (fun (_ : Unit) (t_ : State) => va_P G.1 vwCl (wA G ad S ++ F) t_.heap ∧ va_D (fun q => B0 ≤ q) (wA G ad S ++ F)) (fun q => B0 ≤ q)) rX6_isHiddenToday.cells rX6_isHiddenToday.slots (fun q => B0 ≤ q) := by
  refine met_of RX6 [(0, .ref (ad 0)), (1, .int (nI k))] rfl (by decide) (Nat.le_of_ble_eq_true rfl) rfl ?_
  intro p e s m args below meth c C hr hnm
  refine yq ?_
  intro QQ hQ
  obtain ⟨i0, i1, i2, i3, i4, i5, i6, i7, i8, iJ, iH, iG, iQ⟩ := id hI
  refine yy_aload_n C 0 dX6_isHiddenToday_0 (pc' := 1) rfl rfl rfl ?_
  refine yy_iload_n C 1 dX6_isHiddenToday_1 (pc' := 2) rfl rfl rfl ?_
  refine yc_i (yr_V C (As := [.int (nI k)]) (rest := []) lk_X6_173 cd_X6_isHiddenByRule im_X6_isHiddenByRule se_X6_isHiddenByRule (mX6_isHiddenByRule l G B0 ad F (S) k (by omega) (by exact hI)) ⟨by decide, by decide⟩ ⟨by decide, by decide⟩ 0 rfl rfl rfl rfl (Nat.le_of_ble_eq_true rfl) dX6_isHiddenToday_2) (pc' := 5) rfl (fun r1 _ hw1 => ?_)
  subst hw1
  refine yb_if_ne C dX6_isHiddenToday_5 (pc' := 8) rfl (tgt := 16) (by decide) (fun c_5 => ?_) (fun c_5 => ?_)
  · skip
    refine yy_iconst C (v := (nI 1)) dX6_isHiddenToday_16 (pc' := 17) rfl (by decide) ?_
    refine yy_goto C (tgt := 21) dX6_isHiddenToday_17 (by decide) ?_
    subst hQ
    exact ye_i C hr rfl () dX6_isHiddenToday_21 rfl (by decide) (by decide) (bI_t (by simp [hidA, c_5]))
  · skip
    refine yy_aload_n C 0 dX6_isHiddenToday_8 (pc' := 9) rfl rfl rfl ?_
    refine yy_iload_n C 1 dX6_isHiddenToday_9 (pc' := 10) rfl rfl rfl ?_
    refine yc_i (yr_V C (As := [.int (nI k)]) (rest := []) lk_X6_181 cd_X6_isHiddenBySpan im_X6_isHiddenBySpan se_X6_isHiddenBySpan (mX6_isHiddenBySpan l G B0 ad F (S) k (by omega) (by exact hI)) ⟨by decide, by decide⟩ ⟨by decide, by decide⟩ 0 rfl rfl rfl rfl (Nat.le_of_ble_eq_true rfl) dX6_isHiddenToday_10) (pc' := 13) rfl (fun r2 _ hw2 => ?_)
    subst hw2
    refine yb_if_eq C dX6_isHiddenToday_13 (pc' := 16) rfl (tgt := 20) (by decide) (fun c_13 => ?_) (fun c_13 => ?_)
    · skip
      refine yy_iconst C (v := (nI 0)) dX6_isHiddenToday_20 (pc' := 21) rfl (by decide) ?_
      subst hQ
      exact ye_i C hr rfl () dX6_isHiddenToday_21 rfl (by decide) (by decide) (bI_f (by simp [hidA, c_5, c_13]))
    · skip
      refine yy_iconst C (v := (nI 1)) dX6_isHiddenToday_16 (pc' := 17) rfl (by decide) ?_
      refine yy_goto C (tgt := 21) dX6_isHiddenToday_17 (by decide) ?_
      subst hQ
      exact ye_i C hr rfl () dX6_isHiddenToday_21 rfl (by decide) (by decide) (bI_t (by simp [hidA, c_5, c_13]))

abbrev rX6_countHidden : Room := { frames := 3, cells := 0, slots := 0, locals := 66 }
set_option maxHeartbeats 4000000 in
set_option maxRecDepth 100000 in
theorem mX6_countHidden (l : Launch) (G : gG) (B0 : Nat) (ad : Nat → Nat) (F : va_W) (S : SA) (hI : IA S) : Met l yX6_countHidden (Cond.code yX6_countHidden cX6_countHidden 3 (some .int) :: WG) rX6_countHidden (va_Pc [.ref (ad 0)] (PR G B0 (wA G ad S ++ F))) (va_Qi (fun (r : Int32) (_ : Unit) => r = nI (fb_ct (hidA S) (S.1 1))) (fun (_ : Unit) (t_ : State) => va_P G.1 vwCl (wA G ad S ++ F) t_.heap ∧ va_D (fun q => B0 ≤ q) (wA G ad S ++ F)) (fun q => B0 ≤ q)) rX6_countHidden.cells rX6_countHidden.slots (fun q => B0 ≤ q) := by
  refine met_of RX6 [(0, .ref (ad 0))] rfl (by decide) (Nat.le_of_ble_eq_true rfl) rfl ?_
  intro p e s m args below meth c C hr hnm
  refine yq ?_
  intro QQ hQ
  obtain ⟨i0, i1, i2, i3, i4, i5, i6, i7, i8, iJ, iH, iG, iQ⟩ := id hI
  refine yy_iconst C (v := (nI 0)) dX6_countHidden_0 (pc' := 1) rfl (by decide) ?_
  refine yy_istore_n C (L' := [(1, .int (nI 0)), (0, .ref (ad 0))]) dX6_countHidden_1 (pc' := 2) rfl rfl (by decide) rfl ?_
  refine yy_iconst C (v := (nI 0)) dX6_countHidden_2 (pc' := 3) rfl (by decide) ?_
  refine yy_istore_n C (L' := [(2, .int (nI 0)), (1, .int (nI 0)), (0, .ref (ad 0))]) dX6_countHidden_3 (pc' := 4) rfl rfl (by decide) rfl ?_
  have lp_4 : ∀ (f_ : Nat) (i : Nat), (hi : i ≤ S.1 1) → S.1 1 - i < f_ → YY p l e rX6_countHidden s m args below meth c G B0 3 QQ 4 [(1, .int (nI (fb_ct (hidA S) i))), (2, .int (nI i)), (0, .ref (ad 0))] [] (wA G ad S ++ F) 0 0 := by
    intro f_
    induction f_ with
    | zero => intro i hi hf_; exact absurd hf_ (Nat.not_lt_zero _)
    | succ f_ ih =>
      intro i hi hf_
      refine yy_iload_n C 1 dX6_countHidden_4 (pc' := 5) rfl rfl rfl ?_
      refine yy_aload_n C 2 dX6_countHidden_5 (pc' := 6) rfl rfl rfl ?_
      refine yy_get C (v := .ref (ad 1)) fk_X6_12 0 dX6_countHidden_6 (pc' := 9) rfl rfl rfl ?_
      refine yy_get C (v := .int (nI (S.1 1))) fk_X6_246 1 dX6_countHidden_9 (pc' := 12) rfl rfl rfl ?_
      refine yn_icmp_ge C (by omega) (by omega) dX6_countHidden_12 (pc' := 15) rfl (tgt := 32) (by decide) (fun c_12 => ?_) (fun c_12 => ?_)
      · skip
        refine yy_iload_n C 0 dX6_countHidden_32 (pc' := 33) rfl rfl rfl ?_
        subst hQ
        exact ye_i C hr (vp_nar_int _) () dX6_countHidden_33 rfl (by decide) (by decide) (by rw [show i = S.1 1 by omega])
      · skip
        refine yy_aload_n C 2 dX6_countHidden_15 (pc' := 16) rfl rfl rfl ?_
        refine yy_iload_n C 1 dX6_countHidden_16 (pc' := 17) rfl rfl rfl ?_
        refine yc_i (yr_V C (As := [.int (nI i)]) (rest := []) lk_X6_134 cd_X6_isHiddenToday im_X6_isHiddenToday se_X6_isHiddenToday (mX6_isHiddenToday l G B0 ad F (S) i (by omega) (by exact hI)) ⟨by decide, by decide⟩ ⟨by decide, by decide⟩ 0 rfl rfl rfl rfl (Nat.le_of_ble_eq_true rfl) dX6_countHidden_17) (pc' := 20) rfl (fun r1 _ hw1 => ?_)
        subst hw1
        refine yb_if_eq C dX6_countHidden_20 (pc' := 23) rfl (tgt := 26) (by decide) (fun c_20 => ?_) (fun c_20 => ?_)
        · skip
          refine yy_iinc C (v := (nI (i + 1))) (L' := [(2, .int (nI (i + 1))), (1, .int (nI (fb_ct (hidA S) i))), (0, .ref (ad 0))]) 1 dX6_countHidden_26 (pc' := 29) rfl rfl (nI_add i 1) (by decide) rfl ?_
          refine yy_goto C (tgt := 4) dX6_countHidden_29 (by decide) ?_
          rw [← ct_f (p := (hidA S)) (i := i) (by simp [c_20])]
          refine yy_loc [1, 0, 2] rfl ?_
          exact ih (i + 1) (by omega) (by omega)
        · skip
          refine yy_iinc C (v := (nI ((fb_ct (hidA S) i) + 1))) (L' := [(1, .int (nI ((fb_ct (hidA S) i) + 1))), (2, .int (nI i)), (0, .ref (ad 0))]) 0 dX6_countHidden_23 (pc' := 26) rfl rfl (nI_add (fb_ct (hidA S) i) 1) (by decide) rfl ?_
          refine yy_iinc C (v := (nI (i + 1))) (L' := [(2, .int (nI (i + 1))), (1, .int (nI ((fb_ct (hidA S) i) + 1))), (0, .ref (ad 0))]) 1 dX6_countHidden_26 (pc' := 29) rfl rfl (nI_add i 1) (by decide) rfl ?_
          refine yy_goto C (tgt := 4) dX6_countHidden_29 (by decide) ?_
          rw [← ct_t (p := (hidA S)) (i := i) (by simp [c_20])]
          refine yy_loc [1, 0, 2] rfl ?_
          exact ih (i + 1) (by omega) (by omega)
  refine yy_loc (L' := [(1, .int (nI 0)), (2, .int (nI 0)), (0, .ref (ad 0))]) [1, 0, 2] rfl ?_
  exact lp_4 (S.1 1 - 0 + 1) 0 (Nat.zero_le _) (Nat.lt_succ_self _)

abbrev rX6_findLowestHidden : Room := { frames := 3, cells := 0, slots := 0, locals := 66 }
set_option maxHeartbeats 4000000 in
set_option maxRecDepth 100000 in
theorem mX6_findLowestHidden (l : Launch) (G : gG) (B0 : Nat) (ad : Nat → Nat) (F : va_W) (S : SA) (x : Nat) (hI : IA S) : Met l yX6_findLowestHidden (Cond.code yX6_findLowestHidden cX6_findLowestHidden 4 (some .int) :: WG) rX6_findLowestHidden (va_Pc [.ref (ad 0), .long (lN x)] (PR G B0 (wA G ad S ++ F))) (va_Qi (fun (r : Int32) (_ : Unit) => r = fstI (fun k => x.testBit k && hidA S k) (S.1 1)) (fun (_ : Unit) (t_ : State) => va_P G.1 vwCl (wA G ad S ++ F) t_.heap ∧ va_D (fun q => B0 ≤ q) (wA G ad S ++ F)) (fun q => B0 ≤ q)) rX6_findLowestHidden.cells rX6_findLowestHidden.slots (fun q => B0 ≤ q) := by
  refine met_of RX6 [(0, .ref (ad 0)), (1, .long (lN x))] rfl (by decide) (Nat.le_of_ble_eq_true rfl) rfl ?_
  intro p e s m args below meth c C hr hnm
  refine yq ?_
  intro QQ hQ
  obtain ⟨i0, i1, i2, i3, i4, i5, i6, i7, i8, iJ, iH, iG, iQ⟩ := id hI
  refine yy_iconst C (v := (nI 0)) dX6_findLowestHidden_0 (pc' := 1) rfl (by decide) ?_
  refine yy_istore_n C (L' := [(3, .int (nI 0)), (0, .ref (ad 0)), (1, .long (lN x))]) dX6_findLowestHidden_1 (pc' := 2) rfl rfl (by decide) rfl ?_
  have lp_2 : ∀ (f_ : Nat) (i : Nat), (hi : i ≤ S.1 1) → (ha : fstB (fun k => x.testBit k && hidA S k) i = none) → S.1 1 - i < f_ → YY p l e rX6_findLowestHidden s m args below meth c G B0 4 QQ 2 [(3, .int (nI i)), (0, .ref (ad 0)), (1, .long (lN x))] [] (wA G ad S ++ F) 0 0 := by
    intro f_
    induction f_ with
    | zero => intro i hi ha hf_; exact absurd hf_ (Nat.not_lt_zero _)
    | succ f_ ih =>
      intro i hi ha hf_
      refine yy_iload_n C 0 dX6_findLowestHidden_2 (pc' := 3) rfl rfl rfl ?_
      refine yy_aload_n C 1 dX6_findLowestHidden_3 (pc' := 4) rfl rfl rfl ?_
      refine yy_get C (v := .ref (ad 1)) fk_X6_12 0 dX6_findLowestHidden_4 (pc' := 7) rfl rfl rfl ?_
      refine yy_get C (v := .int (nI (S.1 1))) fk_X6_246 1 dX6_findLowestHidden_7 (pc' := 10) rfl rfl rfl ?_
      refine yn_icmp_ge C (by omega) (by omega) dX6_findLowestHidden_10 (pc' := 13) rfl (tgt := 37) (by decide) (fun c_10 => ?_) (fun c_10 => ?_)
      · skip
        refine yy_iconst C (v := (-1)) dX6_findLowestHidden_37 (pc' := 38) rfl (by decide) ?_
        subst hQ
        exact ye_i C hr (vp_nar_int _) () dX6_findLowestHidden_38 rfl (by decide) (by decide) (fst_n (p := (fun k => x.testBit k && hidA S k)) ((show i = S.1 1 by omega) ▸ ha)).symm
      · skip
        refine yy_lload_n C 2 dX6_findLowestHidden_13 (pc' := 14) rfl rfl rfl ?_
        refine yy_iload_n C 0 dX6_findLowestHidden_14 (pc' := 15) rfl rfl rfl ?_
        refine yc_i (yr_S C (As := [.long (lN x), .int (nI i)]) (rest := []) lk_X6_149 cd_X6_contains st_X6_contains (mX6_contains l G B0 (wA G ad S ++ F) x i (by omega)) ⟨by decide, by decide⟩ ⟨by decide, by decide⟩ rfl rfl (Nat.le_of_ble_eq_true rfl) dX6_findLowestHidden_15) (pc' := 18) rfl (fun r1 _ hw1 => ?_)
        subst hw1
        refine yb_if_eq C dX6_findLowestHidden_18 (pc' := 21) rfl (tgt := 31) (by decide) (fun c_18 => ?_) (fun c_18 => ?_)
        · skip
          refine yy_iinc C (v := (nI (i + 1))) (L' := [(3, .int (nI (i + 1))), (0, .ref (ad 0)), (1, .long (lN x))]) 0 dX6_findLowestHidden_31 (pc' := 34) rfl rfl (nI_add i 1) (by decide) rfl ?_
          refine yy_goto C (tgt := 2) dX6_findLowestHidden_34 (by decide) ?_
          refine yy_loc [0, 1, 2] rfl ?_
          exact ih (i + 1) (by omega) (fst_s ha (by simp [c_18])) (by omega)
        · skip
          refine yy_aload_n C 1 dX6_findLowestHidden_21 (pc' := 22) rfl rfl rfl ?_
          refine yy_iload_n C 0 dX6_findLowestHidden_22 (pc' := 23) rfl rfl rfl ?_
          refine yc_i (yr_V C (As := [.int (nI i)]) (rest := []) lk_X6_134 cd_X6_isHiddenToday im_X6_isHiddenToday se_X6_isHiddenToday (mX6_isHiddenToday l G B0 ad F (S) i (by omega) (by exact hI)) ⟨by decide, by decide⟩ ⟨by decide, by decide⟩ 0 rfl rfl rfl rfl (Nat.le_of_ble_eq_true rfl) dX6_findLowestHidden_23) (pc' := 26) rfl (fun r2 _ hw2 => ?_)
          subst hw2
          refine yb_if_eq C dX6_findLowestHidden_26 (pc' := 29) rfl (tgt := 31) (by decide) (fun c_26 => ?_) (fun c_26 => ?_)
          · skip
            refine yy_iinc C (v := (nI (i + 1))) (L' := [(3, .int (nI (i + 1))), (0, .ref (ad 0)), (1, .long (lN x))]) 0 dX6_findLowestHidden_31 (pc' := 34) rfl rfl (nI_add i 1) (by decide) rfl ?_
            refine yy_goto C (tgt := 2) dX6_findLowestHidden_34 (by decide) ?_
            refine yy_loc [0, 1, 2] rfl ?_
            exact ih (i + 1) (by omega) (fst_s ha (by simp [c_18, c_26])) (by omega)
          · skip
            refine yy_iload_n C 0 dX6_findLowestHidden_29 (pc' := 30) rfl rfl rfl ?_
            subst hQ
            exact ye_i C hr (vp_nar_int _) () dX6_findLowestHidden_30 rfl (by decide) (by decide) (fst_t (p := (fun k => x.testBit k && hidA S k)) ha (by omega) (by simp [c_18, c_26])).symm
  refine yy_loc (L' := [(3, .int (nI 0)), (0, .ref (ad 0)), (1, .long (lN x))]) [0, 1, 2] rfl ?_
  exact lp_2 (S.1 1 - 0 + 1) 0 (Nat.zero_le _) rfl (Nat.lt_succ_self _)

abbrev rX6_findProtectedLine : Room := { frames := 4, cells := 0, slots := 0, locals := 89 }
set_option maxHeartbeats 4000000 in
set_option maxRecDepth 100000 in
theorem mX6_findProtectedLine (l : Launch) (G : gG) (B0 : Nat) (ad : Nat → Nat) (F : va_W) (S : SA) (a k : Nat) (ha : a < 5) (hk : k < 40) (hI : IA S) : Met l yX6_findProtectedLine (Cond.code yX6_findProtectedLine cX6_findProtectedLine 7 (some .int) :: WG) rX6_findProtectedLine (va_Pc [.ref (ad 0), .int (nI a), .int (nI k)] (PR G B0 (wA G ad S ++ F))) (va_Qi (fun (r : Int32) (_ : Unit) => r = protI S a k) (fun (_ : Unit) (t_ : State) => va_P G.1 vwCl (wA G ad S ++ F) t_.heap ∧ va_D (fun q => B0 ≤ q) (wA G ad S ++ F)) (fun q => B0 ≤ q)) rX6_findProtectedLine.cells rX6_findProtectedLine.slots (fun q => B0 ≤ q) := by
  refine met_of RX6 [(0, .ref (ad 0)), (1, .int (nI a)), (2, .int (nI k))] rfl (by decide) (Nat.le_of_ble_eq_true rfl) rfl ?_
  intro p e s m args below meth c C hr hnm
  refine yq ?_
  intro QQ hQ
  obtain ⟨i0, i1, i2, i3, i4, i5, i6, i7, i8, iJ, iH, iG, iQ⟩ := id hI
  refine yy_aload_n C 0 dX6_findProtectedLine_0 (pc' := 1) rfl rfl rfl ?_
  refine yy_iload_n C 2 dX6_findProtectedLine_1 (pc' := 2) rfl rfl rfl ?_
  refine yc_i (yr_V C (As := [.int (nI k)]) (rest := []) lk_X6_134 cd_X6_isHiddenToday im_X6_isHiddenToday se_X6_isHiddenToday (mX6_isHiddenToday l G B0 ad F (S) k (by omega) (by exact hI)) ⟨by decide, by decide⟩ ⟨by decide, by decide⟩ 0 rfl rfl rfl rfl (Nat.le_of_ble_eq_true rfl) dX6_findProtectedLine_2) (pc' := 5) rfl (fun r1 _ hw1 => ?_)
  subst hw1
  refine yb_if_eq C dX6_findProtectedLine_5 (pc' := 8) rfl (tgt := 10) (by decide) (fun c_5 => ?_) (fun c_5 => ?_)
  · skip
    refine yy_aload_n C 0 dX6_findProtectedLine_10 (pc' := 11) rfl rfl rfl ?_
    refine yy_get C (v := .ref (ad 7)) fk_X6_51 0 dX6_findProtectedLine_11 (pc' := 14) rfl rfl rfl ?_
    refine yy_iload_n C 1 dX6_findProtectedLine_14 (pc' := 15) rfl rfl rfl ?_
    refine yy_lald C 7 dX6_findProtectedLine_15 (pc' := 16) rfl rfl (by omega) (by decide) ?_
    refine yy_mk ?_
    refine yy_lstore_n C (L' := [(3, .long (lN (mk ((S.2.2 0) a)))), (0, .ref (ad 0)), (1, .int (nI a)), (2, .int (nI k))]) dX6_findProtectedLine_16 (pc' := 17) rfl rfl (by decide) rfl ?_
    refine yy_aload_n C 1 dX6_findProtectedLine_17 (pc' := 18) rfl rfl rfl ?_
    refine yy_get C (v := .ref (ad 4)) fk_X6_33 0 dX6_findProtectedLine_18 (pc' := 21) rfl rfl rfl ?_
    refine yy_lload_n C 0 dX6_findProtectedLine_21 (pc' := 22) rfl rfl rfl ?_
    refine yy_iload_n C 3 dX6_findProtectedLine_22 (pc' := 23) rfl rfl rfl ?_
    refine yc_l (yr_S C (As := [.int (nI k)]) (rest := [.long (lN (mk ((S.2.2 0) a))), .ref (ad 4)]) lk_X6_271 cd_X6_bitOf st_X6_bitOf (mX6_bitOf l G B0 (wA G ad S ++ F) k (by omega)) ⟨by decide, by decide⟩ ⟨by decide, by decide⟩ rfl rfl (Nat.le_of_ble_eq_true rfl) dX6_findProtectedLine_23) (pc' := 26) rfl (fun r2 _ hw2 => ?_)
    subst hw2
    refine yy_lor C (v := (lN ((mk ((S.2.2 0) a)) ||| (2 ^ k)))) dX6_findProtectedLine_26 (pc' := 27) rfl (fb_orL (mk ((S.2.2 0) a)) (2 ^ k)) ?_
    refine yc_l (yr_V C (As := [.long (lN ((mk ((S.2.2 0) a)) ||| (2 ^ k)))]) (rest := []) lk_X6_157 cd_X0_closure im_X0_closure se_X0_closure (mX0_closure l G B0 ad F (S) (((mk ((S.2.2 0) a)) ||| (2 ^ k))) (Nat.or_lt_two_pow (iH a ha) (bit40 hk)) (by exact hI)) ⟨by decide, by decide⟩ ⟨by decide, by decide⟩ 4 rfl rfl rfl rfl (Nat.le_of_ble_eq_true rfl) dX6_findProtectedLine_27) (pc' := 30) rfl (fun r3 _ hw3 => ?_)
    subst hw3
    refine yy_lstore C (L' := [(5, .long (lN (cloA S ((mk ((S.2.2 0) a)) ||| (2 ^ k))))), (3, .long (lN (mk ((S.2.2 0) a)))), (0, .ref (ad 0)), (1, .int (nI a)), (2, .int (nI k))]) dX6_findProtectedLine_30 (pc' := 32) rfl (by decide) rfl ?_
    refine yy_aload_n C 2 dX6_findProtectedLine_32 (pc' := 33) rfl rfl rfl ?_
    refine yy_lload C 0 dX6_findProtectedLine_33 (pc' := 35) rfl rfl ?_
    refine yy_lload_n C 1 dX6_findProtectedLine_35 (pc' := 36) rfl rfl rfl ?_
    refine yy_ldc2 C dX6_findProtectedLine_36 (pc' := 39) rfl lg_X6_274 ?_
    refine yy_lxor C (v := (lN (mk ((S.2.2 0) a)) ^^^ (-1))) dX6_findProtectedLine_39 (pc' := 40) rfl rfl ?_
    refine yy_land C (v := (lN (dif (cloA S ((mk ((S.2.2 0) a)) ||| (2 ^ k))) (mk ((S.2.2 0) a))))) dX6_findProtectedLine_40 (pc' := 41) rfl (and_not_lN (cloA S ((mk ((S.2.2 0) a)) ||| (2 ^ k))) (mk ((S.2.2 0) a))) ?_
    refine yc_i (yr_V C (As := [.long (lN (dif (cloA S ((mk ((S.2.2 0) a)) ||| (2 ^ k))) (mk ((S.2.2 0) a))))]) (rest := []) lk_X6_276 cd_X6_findLowestHidden im_X6_findLowestHidden se_X6_findLowestHidden (mX6_findLowestHidden l G B0 ad F (S) ((dif (cloA S ((mk ((S.2.2 0) a)) ||| (2 ^ k))) (mk ((S.2.2 0) a)))) (by exact hI)) ⟨by decide, by decide⟩ ⟨by decide, by decide⟩ 0 rfl rfl rfl rfl (Nat.le_of_ble_eq_true rfl) dX6_findProtectedLine_41) (pc' := 44) rfl (fun r4 _ hw4 => ?_)
    subst hw4
    subst hQ
    exact ye_i C hr (vp_nar_int _) () dX6_findProtectedLine_44 rfl (by decide) (by decide) (by rw [protI, if_neg (by simp [c_5])])
  · skip
    refine yy_iload_n C 2 dX6_findProtectedLine_8 (pc' := 9) rfl rfl rfl ?_
    subst hQ
    exact ye_i C hr (vp_nar_int _) () dX6_findProtectedLine_9 rfl (by decide) (by decide) (by rw [protI, if_pos c_5])

abbrev rX6_countHidingReasons : Room := { frames := 2, cells := 0, slots := 0, locals := 45 }
set_option maxHeartbeats 4000000 in
set_option maxRecDepth 100000 in
theorem mX6_countHidingReasons (l : Launch) (G : gG) (B0 : Nat) (ad : Nat → Nat) (F : va_W) (S : SA) (k : Nat) (hk : k < 40) (hI : IA S) : Met l yX6_countHidingReasons (Cond.code yX6_countHidingReasons cX6_countHidingReasons 4 (some .int) :: WG) rX6_countHidingReasons (va_Pc [.ref (ad 0), .int (nI k)] (PR G B0 (wA G ad S ++ F))) (va_Qi (fun (r : Int32) (_ : Unit) => r = bI (hRA S k) + bI (hSA S k)) (fun (_ : Unit) (t_ : State) => va_P G.1 vwCl (wA G ad S ++ F) t_.heap ∧ va_D (fun q => B0 ≤ q) (wA G ad S ++ F)) (fun q => B0 ≤ q)) rX6_countHidingReasons.cells rX6_countHidingReasons.slots (fun q => B0 ≤ q) := by
  refine met_of RX6 [(0, .ref (ad 0)), (1, .int (nI k))] rfl (by decide) (Nat.le_of_ble_eq_true rfl) rfl ?_
  intro p e s m args below meth c C hr hnm
  refine yq ?_
  intro QQ hQ
  obtain ⟨i0, i1, i2, i3, i4, i5, i6, i7, i8, iJ, iH, iG, iQ⟩ := id hI
  refine yy_aload_n C 0 dX6_countHidingReasons_0 (pc' := 1) rfl rfl rfl ?_
  refine yy_iload_n C 1 dX6_countHidingReasons_1 (pc' := 2) rfl rfl rfl ?_
  refine yc_i (yr_V C (As := [.int (nI k)]) (rest := []) lk_X6_173 cd_X6_isHiddenByRule im_X6_isHiddenByRule se_X6_isHiddenByRule (mX6_isHiddenByRule l G B0 ad F (S) k (by omega) (by exact hI)) ⟨by decide, by decide⟩ ⟨by decide, by decide⟩ 0 rfl rfl rfl rfl (Nat.le_of_ble_eq_true rfl) dX6_countHidingReasons_2) (pc' := 5) rfl (fun r1 _ hw1 => ?_)
  subst hw1
  refine yb_if_eq C dX6_countHidingReasons_5 (pc' := 8) rfl (tgt := 12) (by decide) (fun c_5 => ?_) (fun c_5 => ?_)
  · skip
    refine yy_iconst C (v := (nI 0)) dX6_countHidingReasons_12 (pc' := 13) rfl (by decide) ?_
    refine yy_istore_n C (L' := [(2, .int (nI 0)), (0, .ref (ad 0)), (1, .int (nI k))]) dX6_countHidingReasons_13 (pc' := 14) rfl rfl (by decide) rfl ?_
    refine yy_aload_n C 1 dX6_countHidingReasons_14 (pc' := 15) rfl rfl rfl ?_
    refine yy_iload_n C 2 dX6_countHidingReasons_15 (pc' := 16) rfl rfl rfl ?_
    refine yc_i (yr_V C (As := [.int (nI k)]) (rest := []) lk_X6_181 cd_X6_isHiddenBySpan im_X6_isHiddenBySpan se_X6_isHiddenBySpan (mX6_isHiddenBySpan l G B0 ad F (S) k (by omega) (by exact hI)) ⟨by decide, by decide⟩ ⟨by decide, by decide⟩ 0 rfl rfl rfl rfl (Nat.le_of_ble_eq_true rfl) dX6_countHidingReasons_16) (pc' := 19) rfl (fun r2 _ hw2 => ?_)
    subst hw2
    refine yb_if_eq C dX6_countHidingReasons_19 (pc' := 22) rfl (tgt := 26) (by decide) (fun c_19 => ?_) (fun c_19 => ?_)
    · skip
      refine yy_iconst C (v := (nI 0)) dX6_countHidingReasons_26 (pc' := 27) rfl (by decide) ?_
      refine yy_istore_n C (L' := [(3, .int (nI 0)), (2, .int (nI 0)), (0, .ref (ad 0)), (1, .int (nI k))]) dX6_countHidingReasons_27 (pc' := 28) rfl rfl (by decide) rfl ?_
      refine yy_iload_n C 1 dX6_countHidingReasons_28 (pc' := 29) rfl rfl rfl ?_
      refine yy_iload_n C 0 dX6_countHidingReasons_29 (pc' := 30) rfl rfl rfl ?_
      refine yy_iadd C (v := (nI 0)) dX6_countHidingReasons_30 (pc' := 31) rfl (nI_add 0 0) ?_
      subst hQ
      exact ye_i C hr (vp_nar_int _) () dX6_countHidingReasons_31 rfl (by decide) (by decide) (by rw [c_5, c_19]; rfl)
    · skip
      refine yy_iconst C (v := (nI 1)) dX6_countHidingReasons_22 (pc' := 23) rfl (by decide) ?_
      refine yy_goto C (tgt := 27) dX6_countHidingReasons_23 (by decide) ?_
      refine yy_istore_n C (L' := [(3, .int (nI 1)), (2, .int (nI 0)), (0, .ref (ad 0)), (1, .int (nI k))]) dX6_countHidingReasons_27 (pc' := 28) rfl rfl (by decide) rfl ?_
      refine yy_iload_n C 1 dX6_countHidingReasons_28 (pc' := 29) rfl rfl rfl ?_
      refine yy_iload_n C 0 dX6_countHidingReasons_29 (pc' := 30) rfl rfl rfl ?_
      refine yy_iadd C (v := (nI (0 + 1))) dX6_countHidingReasons_30 (pc' := 31) rfl (nI_add 0 1) ?_
      subst hQ
      exact ye_i C hr (vp_nar_int _) () dX6_countHidingReasons_31 rfl (by decide) (by decide) (by rw [c_5, c_19]; rfl)
  · skip
    refine yy_iconst C (v := (nI 1)) dX6_countHidingReasons_8 (pc' := 9) rfl (by decide) ?_
    refine yy_goto C (tgt := 13) dX6_countHidingReasons_9 (by decide) ?_
    refine yy_istore_n C (L' := [(2, .int (nI 1)), (0, .ref (ad 0)), (1, .int (nI k))]) dX6_countHidingReasons_13 (pc' := 14) rfl rfl (by decide) rfl ?_
    refine yy_aload_n C 1 dX6_countHidingReasons_14 (pc' := 15) rfl rfl rfl ?_
    refine yy_iload_n C 2 dX6_countHidingReasons_15 (pc' := 16) rfl rfl rfl ?_
    refine yc_i (yr_V C (As := [.int (nI k)]) (rest := []) lk_X6_181 cd_X6_isHiddenBySpan im_X6_isHiddenBySpan se_X6_isHiddenBySpan (mX6_isHiddenBySpan l G B0 ad F (S) k (by omega) (by exact hI)) ⟨by decide, by decide⟩ ⟨by decide, by decide⟩ 0 rfl rfl rfl rfl (Nat.le_of_ble_eq_true rfl) dX6_countHidingReasons_16) (pc' := 19) rfl (fun r2 _ hw2 => ?_)
    subst hw2
    refine yb_if_eq C dX6_countHidingReasons_19 (pc' := 22) rfl (tgt := 26) (by decide) (fun c_19 => ?_) (fun c_19 => ?_)
    · skip
      refine yy_iconst C (v := (nI 0)) dX6_countHidingReasons_26 (pc' := 27) rfl (by decide) ?_
      refine yy_istore_n C (L' := [(3, .int (nI 0)), (2, .int (nI 1)), (0, .ref (ad 0)), (1, .int (nI k))]) dX6_countHidingReasons_27 (pc' := 28) rfl rfl (by decide) rfl ?_
      refine yy_iload_n C 1 dX6_countHidingReasons_28 (pc' := 29) rfl rfl rfl ?_
      refine yy_iload_n C 0 dX6_countHidingReasons_29 (pc' := 30) rfl rfl rfl ?_
      refine yy_iadd C (v := (nI 1)) dX6_countHidingReasons_30 (pc' := 31) rfl (nI_add 1 0) ?_
      subst hQ
      exact ye_i C hr (vp_nar_int _) () dX6_countHidingReasons_31 rfl (by decide) (by decide) (by rw [c_5, c_19]; rfl)
    · skip
      refine yy_iconst C (v := (nI 1)) dX6_countHidingReasons_22 (pc' := 23) rfl (by decide) ?_
      refine yy_goto C (tgt := 27) dX6_countHidingReasons_23 (by decide) ?_
      refine yy_istore_n C (L' := [(3, .int (nI 1)), (2, .int (nI 1)), (0, .ref (ad 0)), (1, .int (nI k))]) dX6_countHidingReasons_27 (pc' := 28) rfl rfl (by decide) rfl ?_
      refine yy_iload_n C 1 dX6_countHidingReasons_28 (pc' := 29) rfl rfl rfl ?_
      refine yy_iload_n C 0 dX6_countHidingReasons_29 (pc' := 30) rfl rfl rfl ?_
      refine yy_iadd C (v := (nI (1 + 1))) dX6_countHidingReasons_30 (pc' := 31) rfl (nI_add 1 1) ?_
      subst hQ
      exact ye_i C hr (vp_nar_int _) () dX6_countHidingReasons_31 rfl (by decide) (by decide) (by rw [c_5, c_19]; rfl)
