abbrev BU : Type := Nat × Nat × (Nat → Int32)
abbrev TT : Type := (Nat → Nat) × Nat
def tcat (x y : TT) : TT := (sb_cat x.1 x.2 y.1, x.2 + y.2)
def tch (c : Nat) : TT := (fun _ => c, 1)
/-- the builder's bytes hold the text x -/
def BO (x : TT) (b : BU) : Prop := x.2 ≤ b.2.1 ∧ b.2.1 ≤ 1000 ∧ sb_Lat x.1 x.2 b.2.2 ∧ sb_Fit b.2.2
def ncap (q m : Nat) : Nat := m + max (q - m) (m + 2)
theorem m1i {p : Nat} (h : 0 < p) : nI p + Int32.ofInt (-1) = nI (p - 1) := by
  rw [show Int32.ofInt (-1) = -1 from by decide]
  exact sb_m1 h
theorem sub_le0 {q m : Nat} (hq : q < 2 ^ 30) (hm : m < 2 ^ 30) : nI q - nI m ≤ 0 ↔ q ≤ m := by
  rw [Int32.le_iff_toInt_le, pk_sub_toInt hq hm, Int32.toInt_zero]
  omega
theorem BO.keep {x : TT} {b : BU} (h : BO x b) {v m : Nat} {a' : Nat → Int32} (hx : x.2 ≤ m) (hm : m ≤ 1000) (hk : ∀ j, j < x.2 → a' j = b.2.2 j) (hf : sb_Fit a') : BO x (v, m, a') :=
  ⟨hx, hm, sb_latKeep h.2.2.1 hk, hf⟩
theorem BO.put {x y : TT} {b : BU} (h : BO x b) {v m : Nat} {a' : Nat → Int32} (hx : x.2 + y.2 ≤ m) (hm : m ≤ 1000) (hk : ∀ j, j < x.2 → a' j = b.2.2 j) (hs : ∀ i, i < y.2 → y.1 i < 256 ∧ a' (x.2 + i) = sb_b (y.1 i)) (hf : sb_Fit a') : BO (tcat x y) (v, m, a') :=
  ⟨hx, hm, sb_latPut h.2.2.1 hk hs, hf⟩
theorem BO.putc {x : TT} {b : BU} (h : BO x b) {c : Nat} (hc : c < 256) (hx : x.2 + 1 ≤ b.2.1) : BO (tcat x (tch c)) (b.1, b.2.1, upd b.2.2 x.2 (sb_b c)) :=
  h.put (y := tch c) hx h.2.1 (fun j hj => pk_un (by omega)) (fun i hi => by
    have h0 : i = 0 := Nat.lt_one_iff.mp hi
    subst h0
    exact ⟨hc, pk_us⟩) (sb_fitU h.2.2.2 (sb_fitB c))
/-- an int's letters: a natural, or one of -1 .. -9 -/
def tI (v : Int32) : TT := if v < 0 then (fun i => if i = 0 then 45 else 48 + ix (-v) % 10, 2) else (sb_dec (ix v), sb_dg (ix v))
def smI (v : Int32) : Prop := (∃ k, k < 100000 ∧ v = nI k) ∨ ∃ k, 1 ≤ k ∧ k ≤ 9 ∧ v = -nI k
theorem neg_nI {k : Nat} (h1 : 1 ≤ k) (h2 : k < 2 ^ 31) : -nI k < 0 := by
  rw [Int32.lt_iff_toInt_lt, sb_negT h2, Int32.toInt_zero]
  omega
theorem tI_nn {k : Nat} (hk : k < 2 ^ 31) : tI (nI k) = (sb_dec k, sb_dg k) := by
  rw [tI, if_neg (nI_pos hk), ix_nI (by omega)]
theorem tI_ng {k : Nat} (h1 : 1 ≤ k) (h2 : k < 2 ^ 31) : tI (-nI k) = (fun i => if i = 0 then 45 else 48 + k % 10, 2) := by
  rw [tI, if_pos (neg_nI h1 h2), Int32.neg_neg, ix_nI (by omega)]
theorem tI_len {v : Int32} (h : smI v) : (tI v).2 ≤ 5 := by
  rcases h with ⟨k, hk, rfl⟩ | ⟨k, h1, h2, rfl⟩
  · rw [tI_nn (by omega)]
    show sb_dg k ≤ 5
    unfold sb_dg
    (repeat' split) <;> omega
  · rw [tI_ng h1 (by omega)]
    show 2 ≤ 5
    decide
theorem tbO_b : ∀ j, j < 100 → tbO j = nI (48 + j % 10) ∧ vp_nar .byte (tbO j) = tbO j ∧ tbO j = sb_b (48 + j % 10) := by decide +kernel
theorem tbT_b : ∀ j, j < 100 → vp_nar .byte (tbT j) = tbT j ∧ tbT j = sb_b (48 + j / 10) := by decide +kernel
theorem nl_100 {k : Nat} (hk : k < 2 ^ 31) : (-100 : Int32) < -nI k ↔ k < 100 := (show (-100 : Int32) < -nI k ↔ -nI 100 < -nI k from Iff.rfl).trans (sb_nlt (by decide) hk)
theorem nl_9 {k : Nat} (hk : k < 2 ^ 31) : (-9 : Int32) ≤ -nI k ↔ k ≤ 9 := (show (-9 : Int32) ≤ -nI k ↔ -nI 9 ≤ -nI k from Iff.rfl).trans (sb_nle (by decide) hk)
/-- what is written from the right end E on: the letters of k below place e -/
def WR (k E e : Nat) (a : Nat → Int32) : Prop := ∀ i, i < e → a (E - 1 - i) = sb_b (48 + k / 10 ^ i % 10)
theorem WR.two {k E e p : Nat} {a : Nat → Int32} {x y : Nat} (h : WR k E e a) (hE : e + 2 ≤ E) (hp : p = E - e) (hx : x = k / 10 ^ e % 10) (hy : y = k / 10 ^ (e + 1) % 10) : WR k E (e + 2) (upd (upd a (p - 1) (sb_b (48 + x))) (p - 1 - 1) (sb_b (48 + y))) := by
  subst hp hx hy
  intro i hi
  by_cases h1 : i < e
  · rw [pk_un (by omega), pk_un (by omega)]
    exact h i h1
  · obtain rfl | rfl : i = e ∨ i = e + 1 := by omega
    · rw [pk_un (by omega), show E - 1 - i = E - i - 1 by omega, pk_us]
    · rw [show E - 1 - (e + 1) = E - e - 1 - 1 by omega, pk_us]
theorem WR.one {k E e p : Nat} {a : Nat → Int32} {x : Nat} (h : WR k E e a) (hE : e + 1 ≤ E) (hp : p = E - e) (hx : x = k / 10 ^ e % 10) : WR k E (e + 1) (upd a (p - 1) (sb_b (48 + x))) := by
  subst hp hx
  intro i hi
  by_cases h1 : i < e
  · rw [pk_un (by omega)]
    exact h i h1
  · obtain rfl : i = e := by omega
    rw [show E - 1 - i = E - i - 1 by omega, pk_us]
theorem WR.dec {k n d : Nat} {a : Nat → Int32} (hd : d = sb_dg k) (h : WR k (n + sb_dg k) d a) : ∀ i, i < sb_dg k → sb_dec k i < 256 ∧ a (n + i) = sb_b (sb_dec k i) := fun i hi => by
  subst hd
  have h9 := h (sb_dg k - 1 - i) (by omega)
  rw [show n + sb_dg k - 1 - (sb_dg k - 1 - i) = n + i by omega] at h9
  exact ⟨by unfold sb_dec; omega, h9⟩
theorem dg_ge {k : Nat} : 1 ≤ sb_dg k := (sb_dg_in k).1
theorem dg_1 {k : Nat} (h : k < 10) : sb_dg k = 1 := if_pos h
theorem dg_2 {k : Nat} (h : ¬ k < 10) (h2 : k < 100) : sb_dg k = 2 := by rw [sb_dg, if_neg h, if_pos h2]
theorem pm_1_0 {α : Type} (c0_ c1_ : α) (t_ : List α) : List.Perm (c0_ :: c1_ :: t_) (c1_ :: c0_ :: t_) := by
  have h : List.Perm [c0_, c1_] [c1_, c0_] := perm_at (x := [c0_, c1_]) [1, 0] (by rw [show List.length [c0_, c1_] = 2 from rfl]; decide +kernel) rfl
  exact List.Perm.append_right t_ h

theorem pm_2_0_1 {α : Type} (c0_ c1_ c2_ : α) (t_ : List α) : List.Perm (c0_ :: c1_ :: c2_ :: t_) (c2_ :: c0_ :: c1_ :: t_) := by
  have h : List.Perm [c0_, c1_, c2_] [c2_, c0_, c1_] := perm_at (x := [c0_, c1_, c2_]) [2, 0, 1] (by rw [show List.length [c0_, c1_, c2_] = 3 from rfl]; decide +kernel) rfl
  exact List.Perm.append_right t_ h
abbrev rJ9_max_7cf53 : Room := { frames := 0, cells := 0, slots := 0, locals := 0 }
set_option maxHeartbeats 4000000 in
set_option maxRecDepth 100000 in
theorem mJ9_max_7cf53 (l : Launch) (G : gG) (B0 : Nat) (w : va_W) (x y : Nat) (hx : x < 2 ^ 31) (hy : y < 2 ^ 31) : Met l yJ9_max_7cf53 (Cond.code yJ9_max_7cf53 cJ9_max_7cf53 2 (some .int) :: WG) rJ9_max_7cf53 (va_Pc [.int (nI x), .int (nI y)] (PR G B0 (w))) (va_Qi (fun (r : Int32) (_ : Unit) => r = nI (max x y)) (fun (_ : Unit) (t_ : State) => va_P G.1 vwCl (w) t_.heap ∧ va_D (fun q => B0 ≤ q) (w)) (fun q => B0 ≤ q)) rJ9_max_7cf53.cells rJ9_max_7cf53.slots (fun q => B0 ≤ q) := by
  refine metF_of RJ9 [(0, .int (nI x)), (1, .int (nI y))] rfl (by decide +kernel) (Nat.le_of_ble_eq_true rfl) rfl ?_
  intro p e s m args below meth c C hr hnm
  refine yq ?_
  intro QQ hQ
  refine yy_iload_n C 0 dJ9_max_7cf53_0 (pc' := 1) rfl rfl rfl ?_
  refine yy_iload_n C 1 dJ9_max_7cf53_1 (pc' := 2) rfl rfl rfl ?_
  refine yn_icmp_lt C (by omega) (by omega) dJ9_max_7cf53_2 (pc' := 5) rfl (tgt := 9) (by decide) (fun c_2 => ?_) (fun c_2 => ?_)
  · skip
    refine yy_iload_n C 1 dJ9_max_7cf53_9 (pc' := 10) rfl rfl rfl ?_
    subst hQ
    exact ye_i C hr (vp_nar_int _) () dJ9_max_7cf53_10 rfl (by decide) (by decide) (congrArg nI (by omega))
  · skip
    refine yy_iload_n C 0 dJ9_max_7cf53_5 (pc' := 6) rfl rfl rfl ?_
    refine yy_goto C (tgt := 10) dJ9_max_7cf53_6 (by decide) ?_
    subst hQ
    exact ye_i C hr (vp_nar_int _) () dJ9_max_7cf53_10 rfl (by decide) (by decide) (congrArg nI (by omega))

abbrev rJ9_min_7cf53 : Room := { frames := 0, cells := 0, slots := 0, locals := 0 }
set_option maxHeartbeats 4000000 in
set_option maxRecDepth 100000 in
theorem mJ9_min_7cf53 (l : Launch) (G : gG) (B0 : Nat) (w : va_W) (x y : Nat) (hx : x < 2 ^ 31) (hy : y < 2 ^ 31) : Met l yJ9_min_7cf53 (Cond.code yJ9_min_7cf53 cJ9_min_7cf53 2 (some .int) :: WG) rJ9_min_7cf53 (va_Pc [.int (nI x), .int (nI y)] (PR G B0 (w))) (va_Qi (fun (r : Int32) (_ : Unit) => r = nI (min x y)) (fun (_ : Unit) (t_ : State) => va_P G.1 vwCl (w) t_.heap ∧ va_D (fun q => B0 ≤ q) (w)) (fun q => B0 ≤ q)) rJ9_min_7cf53.cells rJ9_min_7cf53.slots (fun q => B0 ≤ q) := by
  refine metF_of RJ9 [(0, .int (nI x)), (1, .int (nI y))] rfl (by decide +kernel) (Nat.le_of_ble_eq_true rfl) rfl ?_
  intro p e s m args below meth c C hr hnm
  refine yq ?_
  intro QQ hQ
  refine yy_iload_n C 0 dJ9_min_7cf53_0 (pc' := 1) rfl rfl rfl ?_
  refine yy_iload_n C 1 dJ9_min_7cf53_1 (pc' := 2) rfl rfl rfl ?_
  refine yn_icmp_gt C (by omega) (by omega) dJ9_min_7cf53_2 (pc' := 5) rfl (tgt := 9) (by decide) (fun c_2 => ?_) (fun c_2 => ?_)
  · skip
    refine yy_iload_n C 1 dJ9_min_7cf53_9 (pc' := 10) rfl rfl rfl ?_
    subst hQ
    exact ye_i C hr (vp_nar_int _) () dJ9_min_7cf53_10 rfl (by decide) (by decide) (congrArg nI (by omega))
  · skip
    refine yy_iload_n C 0 dJ9_min_7cf53_5 (pc' := 6) rfl rfl rfl ?_
    refine yy_goto C (tgt := 10) dJ9_min_7cf53_6 (by decide) ?_
    subst hQ
    exact ye_i C hr (vp_nar_int _) () dJ9_min_7cf53_10 rfl (by decide) (by decide) (congrArg nI (by omega))

abbrev rJ8_newLength_cabcc : Room := { frames := 1, cells := 0, slots := 0, locals := 21 }
set_option maxHeartbeats 4000000 in
set_option maxRecDepth 100000 in
theorem mJ8_newLength_cabcc (l : Launch) (G : gG) (B0 : Nat) (w : va_W) (q m_ : Nat) (hm : m_ ≤ 1000) (hq : q < 500) (hmq : m_ < q) : Met l yJ8_newLength_cabcc (Cond.code yJ8_newLength_cabcc cJ8_newLength_cabcc 4 (some .int) :: WG) rJ8_newLength_cabcc (va_Pc [.int (nI m_), .int (nI (q - m_)), .int (nI (m_ + 2))] (PR G B0 (w))) (va_Qi (fun (r : Int32) (_ : Unit) => r = nI (ncap q m_)) (fun (_ : Unit) (t_ : State) => va_P G.1 vwCl (w) t_.heap ∧ va_D (fun q => B0 ≤ q) (w)) (fun q => B0 ≤ q)) rJ8_newLength_cabcc.cells rJ8_newLength_cabcc.slots (fun q => B0 ≤ q) := by
  refine met_of RJ8 [(0, .int (nI m_)), (1, .int (nI (q - m_))), (2, .int (nI (m_ + 2)))] rfl (by decide) (Nat.le_of_ble_eq_true rfl) rfl ?_
  intro p e s m args below meth c C hr hnm
  refine yq ?_
  intro QQ hQ
  refine yy_iload_n C 0 dJ8_newLength_cabcc_0 (pc' := 1) rfl rfl rfl ?_
  refine yy_iload_n C 1 dJ8_newLength_cabcc_1 (pc' := 2) rfl rfl rfl ?_
  refine yy_iload_n C 2 dJ8_newLength_cabcc_2 (pc' := 3) rfl rfl rfl ?_
  refine yc_i (yr_S C (n := 2) (As := [.int (nI (q - m_)), .int (nI (m_ + 2))]) (rest := [.int (nI m_)]) lk_J8_194 cd_J9_max_7cf53 st_J9_max_7cf53 (mJ9_max_7cf53 l G B0 w (q - m_) (m_ + 2) (by omega) (by omega)) ⟨by decide, by decide⟩ ⟨by decide, by decide⟩ rfl rfl (Nat.le_of_ble_eq_true rfl) dJ8_newLength_cabcc_3) (pc' := 6) rfl (fun r1 _ hw1 => ?_)
  subst hw1
  refine yy_iadd C (v := (nI (m_ + (max (q - m_) (m_ + 2))))) dJ8_newLength_cabcc_6 (pc' := 7) rfl (nI_add m_ (max (q - m_) (m_ + 2))) ?_
  refine yy_istore_n C (L' := [(3, .int (nI (m_ + (max (q - m_) (m_ + 2))))), (0, .int (nI m_)), (1, .int (nI (q - m_))), (2, .int (nI (m_ + 2)))]) dJ8_newLength_cabcc_7 (pc' := 8) rfl rfl (by decide) rfl ?_
  refine yy_iconst C (v := (nI 0)) dJ8_newLength_cabcc_8 (pc' := 9) rfl (by decide) ?_
  refine yy_iload_n C 0 dJ8_newLength_cabcc_9 (pc' := 10) rfl rfl rfl ?_
  refine yn_icmp_ge C (by decide) (by omega) dJ8_newLength_cabcc_10 (pc' := 13) rfl (tgt := 21) (by decide) (fun c_10 => ?_) (fun c_10 => ?_)
  · skip
    exact absurd c_10 (by omega)
  · skip
    refine yy_iload_n C 0 dJ8_newLength_cabcc_13 (pc' := 14) rfl rfl rfl ?_
    refine yy_ldci C (v := (nI 2147483639)) dJ8_newLength_cabcc_14 (pc' := 16) rfl li_J8_200 ?_
    refine yn_icmp_gt C (by omega) (by decide) dJ8_newLength_cabcc_16 (pc' := 19) rfl (tgt := 21) (by decide) (fun c_16 => ?_) (fun c_16 => ?_)
    · skip
      exact absurd c_16 (by omega)
    · skip
      refine yy_iload_n C 0 dJ8_newLength_cabcc_19 (pc' := 20) rfl rfl rfl ?_
      subst hQ
      exact ye_i C hr (vp_nar_int _) () dJ8_newLength_cabcc_20 rfl (by decide) (by decide) rfl

abbrev rJ5_newCapacity_0f7a4 : Room := { frames := 2, cells := 0, slots := 0, locals := 44 }
set_option maxHeartbeats 4000000 in
set_option maxRecDepth 100000 in
theorem mJ5_newCapacity_0f7a4 (l : Launch) (G : gG) (B0 : Nat) (sb : Nat) (x : TT) (b : BU) (F : va_W) (q : Nat) (hm : b.2.1 ≤ 1000) (hq : q < 500) (hmq : b.2.1 < q) : Met l yJ5_newCapacity_0f7a4 (Cond.code yJ5_newCapacity_0f7a4 cJ5_newCapacity_0f7a4 6 (some .int) :: WG) rJ5_newCapacity_0f7a4 (va_Pc [.ref (sb), .int (nI q)] (PR G B0 (((sb, .inr (1, [.ref (b.1), .int (nI 0), .int (nI 0), .int (nI x.2)])) :: (b.1, .inl (G.2.2.2.1, b.2.1, .inl b.2.2)) :: F)))) (va_Qi (fun (r : Int32) (_ : Unit) => r = nI (ncap q b.2.1)) (fun (_ : Unit) (t_ : State) => va_P G.1 vwCl (((sb, .inr (1, [.ref (b.1), .int (nI 0), .int (nI 0), .int (nI x.2)])) :: (b.1, .inl (G.2.2.2.1, b.2.1, .inl b.2.2)) :: F)) t_.heap ∧ va_D (fun q => B0 ≤ q) (((sb, .inr (1, [.ref (b.1), .int (nI 0), .int (nI 0), .int (nI x.2)])) :: (b.1, .inl (G.2.2.2.1, b.2.1, .inl b.2.2)) :: F))) (fun q => B0 ≤ q)) rJ5_newCapacity_0f7a4.cells rJ5_newCapacity_0f7a4.slots (fun q => B0 ≤ q) := by
  refine met_of RJ5 [(0, .ref (sb)), (1, .int (nI q))] rfl (by decide) (Nat.le_of_ble_eq_true rfl) rfl ?_
  intro p e s m args below meth c C hr hnm
  refine yq ?_
  intro QQ hQ
  refine yy_aload_n C 0 dJ5_newCapacity_0f7a4_0 (pc' := 1) rfl rfl rfl ?_
  refine yy_get C (v := .ref (b.1)) fk_J5_15 0 dJ5_newCapacity_0f7a4_1 (pc' := 4) rfl rfl rfl ?_
  refine yy_alenB C 1 dJ5_newCapacity_0f7a4_4 (pc' := 5) rfl rfl ?_
  refine yy_istore_n C (L' := [(2, .int (nI b.2.1)), (0, .ref (sb)), (1, .int (nI q))]) dJ5_newCapacity_0f7a4_5 (pc' := 6) rfl rfl (by decide) rfl ?_
  refine yy_iload_n C 2 dJ5_newCapacity_0f7a4_6 (pc' := 7) rfl rfl rfl ?_
  refine yy_aload_n C 1 dJ5_newCapacity_0f7a4_7 (pc' := 8) rfl rfl rfl ?_
  refine yy_get C (v := .int (nI 0)) fk_J5_22 0 dJ5_newCapacity_0f7a4_8 (pc' := 11) rfl rfl rfl ?_
  refine yy_ishl C (v := (nI q)) dJ5_newCapacity_0f7a4_11 (pc' := 12) rfl (sb_shl0 (nI q)) ?_
  refine yy_istore_n C (L' := [(3, .int (nI q)), (2, .int (nI b.2.1)), (0, .ref (sb)), (1, .int (nI q))]) dJ5_newCapacity_0f7a4_12 (pc' := 13) rfl rfl (by decide) rfl ?_
  refine yy_iload_n C 0 dJ5_newCapacity_0f7a4_13 (pc' := 14) rfl rfl rfl ?_
  refine yy_iload_n C 1 dJ5_newCapacity_0f7a4_14 (pc' := 15) rfl rfl rfl ?_
  refine yy_isub C (v := (nI (q - b.2.1))) dJ5_newCapacity_0f7a4_15 (pc' := 16) rfl (pk_sub (a := q) (b := b.2.1) (by omega)) ?_
  refine yy_istore C (L' := [(4, .int (nI (q - b.2.1))), (3, .int (nI q)), (2, .int (nI b.2.1)), (0, .ref (sb)), (1, .int (nI q))]) dJ5_newCapacity_0f7a4_16 (pc' := 18) rfl (by decide) rfl ?_
  refine yy_iload_n C 2 dJ5_newCapacity_0f7a4_18 (pc' := 19) rfl rfl rfl ?_
  refine yy_iload C 0 dJ5_newCapacity_0f7a4_19 (pc' := 21) rfl rfl ?_
  refine yy_iload_n C 2 dJ5_newCapacity_0f7a4_21 (pc' := 22) rfl rfl rfl ?_
  refine yy_iconst C (v := (nI 2)) dJ5_newCapacity_0f7a4_22 (pc' := 23) rfl (by decide) ?_
  refine yy_aload_n C 3 dJ5_newCapacity_0f7a4_23 (pc' := 24) rfl rfl rfl ?_
  refine yy_get C (v := .int (nI 0)) fk_J5_22 0 dJ5_newCapacity_0f7a4_24 (pc' := 27) rfl rfl rfl ?_
  refine yy_ishl C (v := (nI 2)) dJ5_newCapacity_0f7a4_27 (pc' := 28) rfl (sb_shl0 (nI 2)) ?_
  refine yy_iadd C (v := (nI (b.2.1 + 2))) dJ5_newCapacity_0f7a4_28 (pc' := 29) rfl (nI_add b.2.1 2) ?_
  refine yc_i (yr_S C (n := 3) (As := [.int (nI b.2.1), .int (nI (q - b.2.1)), .int (nI (b.2.1 + 2))]) (rest := []) lk_J5_114 cd_J8_newLength_cabcc st_J8_newLength_cabcc (mJ8_newLength_cabcc l G B0 ((sb, .inr (1, [.ref (b.1), .int (nI 0), .int (nI 0), .int (nI x.2)])) :: (b.1, .inl (G.2.2.2.1, b.2.1, .inl b.2.2)) :: F) q b.2.1 (by omega) (by omega) (by omega)) ⟨by decide, by decide⟩ ⟨by decide, by decide⟩ rfl rfl (Nat.le_of_ble_eq_true rfl) dJ5_newCapacity_0f7a4_29) (pc' := 32) rfl (fun r1 _ hw1 => ?_)
  subst hw1
  refine yy_istore C (L' := [(5, .int (nI (ncap q b.2.1))), (4, .int (nI (q - b.2.1))), (3, .int (nI q)), (2, .int (nI b.2.1)), (0, .ref (sb)), (1, .int (nI q))]) dJ5_newCapacity_0f7a4_32 (pc' := 34) rfl (by decide) rfl ?_
  refine yy_iload C 0 dJ5_newCapacity_0f7a4_34 (pc' := 36) rfl rfl ?_
  refine yy_ldci C (v := (nI 2147483647)) dJ5_newCapacity_0f7a4_36 (pc' := 38) rfl li_J5_39 ?_
  refine yn_icmp_ne C (by unfold ncap; omega) (by decide) dJ5_newCapacity_0f7a4_38 (pc' := 41) rfl (tgt := 51) (by decide) (fun c_38 => ?_) (fun c_38 => ?_)
  · skip
    refine yy_iload C 0 dJ5_newCapacity_0f7a4_51 (pc' := 53) rfl rfl ?_
    refine yy_aload_n C 4 dJ5_newCapacity_0f7a4_53 (pc' := 54) rfl rfl rfl ?_
    refine yy_get C (v := .int (nI 0)) fk_J5_22 0 dJ5_newCapacity_0f7a4_54 (pc' := 57) rfl rfl rfl ?_
    refine yy_ishr C (v := (nI (ncap q b.2.1))) dJ5_newCapacity_0f7a4_57 (pc' := 58) rfl (sb_shr0 (nI (ncap q b.2.1))) ?_
    subst hQ
    exact ye_i C hr (vp_nar_int _) () dJ5_newCapacity_0f7a4_58 rfl (by decide) (by decide) rfl
  · skip
    exact absurd c_38 (by unfold ncap; omega)

abbrev rJ7_copyOf_9075b : Room := { frames := 1, cells := 1, slots := 1000, locals := 40 }
set_option maxHeartbeats 4000000 in
set_option maxRecDepth 100000 in
theorem mJ7_copyOf_9075b (l : Launch) (G : gG) (B0 : Nat) (av m_ q : Nat) (a : Nat → Int32) (F : va_W) (hmq : m_ < q) (hq : q ≤ 1000) (hf : sb_Fit a) : Met l yJ7_copyOf_9075b (Cond.code yJ7_copyOf_9075b cJ7_copyOf_9075b 3 (some (.array .byte)) :: WG) rJ7_copyOf_9075b (va_Pc [.ref (av), .int (nI q)] (PR G B0 (((av, .inl (G.2.2.2.1, m_, .inl a)) :: F)))) (va_Qr (fun (u : Nat) => True) (fun (u : Nat) (a_ : Nat) (t_ : State) => a_ = u ∧ va_P G.1 vwCl (((u, .inl (G.2.2.2.1, q, .inl (va_cpy a (fun _ => 0) 0 0 (min m_ q)))) :: (av, .inl (G.2.2.2.1, m_, .inl a)) :: F)) t_.heap ∧ va_D (fun q => B0 ≤ q) (((u, .inl (G.2.2.2.1, q, .inl (va_cpy a (fun _ => 0) 0 0 (min m_ q)))) :: (av, .inl (G.2.2.2.1, m_, .inl a)) :: F))) (fun q => B0 ≤ q)) rJ7_copyOf_9075b.cells rJ7_copyOf_9075b.slots (fun q => B0 ≤ q) := by
  refine met_of RJ7 [(0, .ref (av)), (1, .int (nI q))] rfl (by decide) (Nat.le_of_ble_eq_true rfl) rfl ?_
  intro p e s m args below meth c C hr hnm
  refine yq ?_
  intro QQ hQ
  refine yy_iload_n C 1 dJ7_copyOf_9075b_0 (pc' := 1) rfl rfl rfl ?_
  refine yy_aload_n C 0 dJ7_copyOf_9075b_1 (pc' := 2) rfl rfl rfl ?_
  refine yy_alenB C 0 dJ7_copyOf_9075b_2 (pc' := 3) rfl rfl ?_
  refine yn_icmp_ne C (by omega) (by omega) dJ7_copyOf_9075b_3 (pc' := 6) rfl (tgt := 14) (by decide) (fun c_3 => ?_) (fun c_3 => ?_)
  · skip
    refine yy_iload_n C 1 dJ7_copyOf_9075b_14 (pc' := 15) rfl rfl rfl ?_
    refine yy_newaB C (N := q) ac_byte dJ7_copyOf_9075b_15 (pc' := 17) rfl (by omega) (by show q * 1 ≤ 536870912; omega) (Nat.le_of_ble_eq_true rfl) (show 0 + q ≤ 1000 by omega) (fun q1 => ?_)
    refine yy_widen (cs2 := 1) (ss2 := 1000) (Nat.le_refl _) (by omega) ?_
    refine yy_astore_n C (L' := [(2, .ref (q1)), (0, .ref (av)), (1, .int (nI q))]) dJ7_copyOf_9075b_17 (pc' := 18) rfl rfl (by decide) rfl ?_
    refine yy_aload_n C 1 dJ7_copyOf_9075b_18 (pc' := 19) rfl rfl rfl ?_
    refine yy_iconst C (v := (nI 0)) dJ7_copyOf_9075b_19 (pc' := 20) rfl (by decide) ?_
    refine yy_aload_n C 0 dJ7_copyOf_9075b_20 (pc' := 21) rfl rfl rfl ?_
    refine yy_iconst C (v := (nI 0)) dJ7_copyOf_9075b_21 (pc' := 22) rfl (by decide) ?_
    refine yy_aload_n C 1 dJ7_copyOf_9075b_22 (pc' := 23) rfl rfl rfl ?_
    refine yy_alenB C 1 dJ7_copyOf_9075b_23 (pc' := 24) rfl rfl ?_
    refine yy_iload_n C 2 dJ7_copyOf_9075b_24 (pc' := 25) rfl rfl rfl ?_
    refine yc_i (yr_S C (n := 2) (As := [.int (nI m_), .int (nI q)]) (rest := [.int (nI 0), .ref (q1), .int (nI 0), .ref (av)]) lk_J7_304 cd_J9_min_7cf53 st_J9_min_7cf53 (mJ9_min_7cf53 l G B0 ((q1, .inl (G.2.2.2.1, q, .inl (fun _ => 0))) :: (av, .inl (G.2.2.2.1, m_, .inl a)) :: F) m_ q (by omega) (by omega)) ⟨by decide, by decide⟩ ⟨by decide, by decide⟩ rfl rfl (Nat.le_of_ble_eq_true rfl) dJ7_copyOf_9075b_25) (pc' := 28) rfl (fun r1 _ hw1 => ?_)
    subst hw1
    refine yy_copyB C (w' := ((q1, .inl (G.2.2.2.1, q, .inl (va_cpy a (fun _ => 0) 0 0 (min m_ q)))) :: (av, .inl (G.2.2.2.1, m_, .inl a)) :: F)) (sp := 0) (dp := 0) (n := min m_ q) lx_J7_150 nt_copy st_copy ii_sys 1 0 dJ7_copyOf_9075b_28 (pc' := 31) rfl rfl rfl (by omega) (by omega) (by omega) (by omega) (fun i _ => hf _) (by decide) (by decide) rfl ?_
    refine yy_aload_n C 0 dJ7_copyOf_9075b_31 (pc' := 32) rfl rfl rfl ?_
    subst hQ
    exact ye_r C hr (Or.inr ⟨_, rfl⟩) q1 dJ7_copyOf_9075b_32 rfl (by decide) (by decide) trivial
  · skip
    exact absurd c_3 (by omega)

abbrev rJ5_ensureCapacityInternal_d00df : Room := { frames := 3, cells := 1, slots := 1000, locals := 69 }
set_option maxHeartbeats 4000000 in
set_option maxRecDepth 100000 in
theorem mJ5_ensureCapacityInternal_d00df (l : Launch) (G : gG) (B0 : Nat) (sb : Nat) (x : TT) (b : BU) (F : va_W) (q : Nat) (h : BO x b) (hq : q < 500) : Met l yJ5_ensureCapacityInternal_d00df (Cond.code yJ5_ensureCapacityInternal_d00df cJ5_ensureCapacityInternal_d00df 3 none :: WG) rJ5_ensureCapacityInternal_d00df (va_Pc [.ref (sb), .int (nI q)] (PR G B0 (((sb, .inr (1, [.ref (b.1), .int (nI 0), .int (nI 0), .int (nI x.2)])) :: (b.1, .inl (G.2.2.2.1, b.2.1, .inl b.2.2)) :: F)))) (va_Qv (fun (u : BU) => BO x u ∧ q ≤ u.2.1) (fun (u : BU) (t_ : State) => va_P G.1 vwCl (((sb, .inr (1, [.ref (u.1), .int (nI 0), .int (nI 0), .int (nI x.2)])) :: (u.1, .inl (G.2.2.2.1, u.2.1, .inl u.2.2)) :: F)) t_.heap ∧ va_D (fun q => B0 ≤ q) (((sb, .inr (1, [.ref (u.1), .int (nI 0), .int (nI 0), .int (nI x.2)])) :: (u.1, .inl (G.2.2.2.1, u.2.1, .inl u.2.2)) :: F))) (fun q => B0 ≤ q)) rJ5_ensureCapacityInternal_d00df.cells rJ5_ensureCapacityInternal_d00df.slots (fun q => B0 ≤ q) := by
  refine met_of RJ5 [(0, .ref (sb)), (1, .int (nI q))] rfl (by decide) (Nat.le_of_ble_eq_true rfl) rfl ?_
  intro p e s m args below meth c C hr hnm
  refine yq ?_
  intro QQ hQ
  have hx := h.1
  have hm := h.2.1
  refine yy_aload_n C 0 dJ5_ensureCapacityInternal_d00df_0 (pc' := 1) rfl rfl rfl ?_
  refine yy_get C (v := .ref (b.1)) fk_J5_15 0 dJ5_ensureCapacityInternal_d00df_1 (pc' := 4) rfl rfl rfl ?_
  refine yy_alenB C 1 dJ5_ensureCapacityInternal_d00df_4 (pc' := 5) rfl rfl ?_
  refine yy_aload_n C 0 dJ5_ensureCapacityInternal_d00df_5 (pc' := 6) rfl rfl rfl ?_
  refine yy_get C (v := .int (nI 0)) fk_J5_22 0 dJ5_ensureCapacityInternal_d00df_6 (pc' := 9) rfl rfl rfl ?_
  refine yy_ishr C (v := (nI b.2.1)) dJ5_ensureCapacityInternal_d00df_9 (pc' := 10) rfl (sb_shr0 (nI b.2.1)) ?_
  refine yy_istore_n C (L' := [(2, .int (nI b.2.1)), (0, .ref (sb)), (1, .int (nI q))]) dJ5_ensureCapacityInternal_d00df_10 (pc' := 11) rfl rfl (by decide) rfl ?_
  refine yy_iload_n C 2 dJ5_ensureCapacityInternal_d00df_11 (pc' := 12) rfl rfl rfl ?_
  refine yy_iload_n C 0 dJ5_ensureCapacityInternal_d00df_12 (pc' := 13) rfl rfl rfl ?_
  refine yy_isub C (v := ((nI q) - (nI b.2.1))) dJ5_ensureCapacityInternal_d00df_13 (pc' := 14) rfl rfl ?_
  refine yy_if_le C dJ5_ensureCapacityInternal_d00df_14 (pc' := 17) rfl (tgt := 38) (by decide) (fun c_14 => ?_) (fun c_14 => ?_)
  · skip
    subst hQ
    exact ye_v C hr b dJ5_ensureCapacityInternal_d00df_38 rfl (by decide) (by decide) ⟨h, (sub_le0 (by omega) (by omega)).mp c_14⟩
  · skip
    have hmq : b.2.1 < q := Nat.not_le.mp (fun z => c_14 ((sub_le0 (by omega) (by omega)).mpr z))
    refine yy_aload_n C 1 dJ5_ensureCapacityInternal_d00df_17 (pc' := 18) rfl rfl rfl ?_
    refine yy_aload_n C 1 dJ5_ensureCapacityInternal_d00df_18 (pc' := 19) rfl rfl rfl ?_
    refine yy_get C (v := .ref (b.1)) fk_J5_15 0 dJ5_ensureCapacityInternal_d00df_19 (pc' := 22) rfl rfl rfl ?_
    refine yy_aload_n C 1 dJ5_ensureCapacityInternal_d00df_22 (pc' := 23) rfl rfl rfl ?_
    refine yy_iload_n C 2 dJ5_ensureCapacityInternal_d00df_23 (pc' := 24) rfl rfl rfl ?_
    refine yc_i (yr_U C (n := 1) (As := [.int (nI q)]) (rest := [.ref (b.1), .ref (sb)]) (x := yJ5_newCapacity_0f7a4) (owner := yJ5_newCapacity_0f7a4.cls) (Cn := RJ4) ly_J5_104 ii_J5 ⟨by decide, by decide, by decide +kernel⟩ sm_J5_newCapacity_0f7a4 im_J5_newCapacity_0f7a4 cd_J5_newCapacity_0f7a4 cd_J5_newCapacity_0f7a4 im_J5_newCapacity_0f7a4 (C.2.2.2.2.1 _ sx_J5_newCapacity_0f7a4) (mJ5_newCapacity_0f7a4 l G B0 sb x b F q (by omega) (by omega) (by omega)) ⟨by decide, by decide⟩ ⟨by decide, by decide⟩ 0 rfl rfl rfl rfl (Nat.le_of_ble_eq_true rfl) dJ5_ensureCapacityInternal_d00df_24) (pc' := 27) rfl (fun r1 _ hw1 => ?_)
    subst hw1
    refine yy_aload_n C 1 dJ5_ensureCapacityInternal_d00df_27 (pc' := 28) rfl rfl rfl ?_
    refine yy_get C (v := .int (nI 0)) fk_J5_22 0 dJ5_ensureCapacityInternal_d00df_28 (pc' := 31) rfl rfl rfl ?_
    refine yy_ishl C (v := (nI (ncap q b.2.1))) dJ5_ensureCapacityInternal_d00df_31 (pc' := 32) rfl (sb_shl0 (nI (ncap q b.2.1))) ?_
    refine yy_perm (w' := ((b.1, .inl (G.2.2.2.1, b.2.1, .inl b.2.2)) :: (sb, .inr (1, [.ref (b.1), .int (nI 0), .int (nI 0), .int (nI x.2)])) :: F)) (pm_1_0 _ _ _) ?_
    refine yc_r (yr_S C (n := 2) (As := [.ref (b.1), .int (nI (ncap q b.2.1))]) (rest := [.ref (sb)]) lk_J5_108 cd_J7_copyOf_9075b st_J7_copyOf_9075b (mJ7_copyOf_9075b l G B0 b.1 b.2.1 (ncap q b.2.1) b.2.2 ((sb, .inr (1, [.ref (b.1), .int (nI 0), .int (nI 0), .int (nI x.2)])) :: F) (by unfold ncap; omega) (by unfold ncap; omega) h.2.2.2) ⟨by decide, by decide⟩ ⟨by decide, by decide⟩ rfl rfl (Nat.le_of_ble_eq_true rfl) dJ5_ensureCapacityInternal_d00df_32) (pc' := 35) rfl (fun u1 hw2 => ?_)
    refine yy_put C (w' := ((u1, .inl (G.2.2.2.1, ncap q b.2.1, .inl (va_cpy b.2.2 (fun _ => 0) 0 0 (min b.2.1 (ncap q b.2.1))))) :: (b.1, .inl (G.2.2.2.1, b.2.1, .inl b.2.2)) :: (sb, .inr (1, [.ref (u1), .int (nI 0), .int (nI 0), .int (nI x.2)])) :: F)) fk_J5_15 fpJ4 rfl 2 dJ5_ensureCapacityInternal_d00df_35 (pc' := 38) rfl rfl rfl rfl (Nat.le_of_ble_eq_true rfl) rfl ?_
    refine yy_perm (w' := ((sb, .inr (1, [.ref (u1), .int (nI 0), .int (nI 0), .int (nI x.2)])) :: (u1, .inl (G.2.2.2.1, ncap q b.2.1, .inl (va_cpy b.2.2 (fun _ => 0) 0 0 (min b.2.1 (ncap q b.2.1))))) :: (b.1, .inl (G.2.2.2.1, b.2.1, .inl b.2.2)) :: F)) (pm_2_0_1 _ _ _ _) ?_
    refine yy_drop (w' := ((sb, .inr (1, [.ref (u1), .int (nI 0), .int (nI 0), .int (nI x.2)])) :: (u1, .inl (G.2.2.2.1, ncap q b.2.1, .inl (va_cpy b.2.2 (fun _ => 0) 0 0 (min b.2.1 (ncap q b.2.1))))) :: F)) (List.Sublist.cons_cons _ (List.Sublist.cons_cons _ (List.Sublist.cons _ (List.Sublist.refl _)))) ?_
    subst hQ
    exact ye_v C hr (u1, ncap q b.2.1, va_cpy b.2.2 (fun _ => 0) 0 0 (min b.2.1 (ncap q b.2.1))) dJ5_ensureCapacityInternal_d00df_38 rfl (by decide) (by decide) ⟨h.keep (by unfold ncap; omega) (by unfold ncap; omega) (fun j hj => sb_cpy0 (by unfold ncap; omega)) (sb_fitC h.2.2.2 sb_fit0), (by show q ≤ ncap q b.2.1; unfold ncap; omega)⟩

abbrev rJ5_isLatin1_aae02 : Room := { frames := 0, cells := 0, slots := 0, locals := 0 }
set_option maxHeartbeats 4000000 in
set_option maxRecDepth 100000 in
theorem mJ5_isLatin1_aae02 (l : Launch) (G : gG) (B0 : Nat) (sb : Nat) (n_ : Nat) (b : BU) (F : va_W) : Met l yJ5_isLatin1_aae02 (Cond.code yJ5_isLatin1_aae02 cJ5_isLatin1_aae02 1 (some .boolean) :: WG) rJ5_isLatin1_aae02 (va_Pc [.ref (sb)] (PR G B0 (((sb, .inr (1, [.ref (b.1), .int (nI 0), .int (nI 0), .int (nI n_)])) :: (b.1, .inl (G.2.2.2.1, b.2.1, .inl b.2.2)) :: F)))) (va_Qi (fun (r : Int32) (_ : Unit) => r = nI 1) (fun (_ : Unit) (t_ : State) => va_P G.1 vwCl (((sb, .inr (1, [.ref (b.1), .int (nI 0), .int (nI 0), .int (nI n_)])) :: (b.1, .inl (G.2.2.2.1, b.2.1, .inl b.2.2)) :: F)) t_.heap ∧ va_D (fun q => B0 ≤ q) (((sb, .inr (1, [.ref (b.1), .int (nI 0), .int (nI 0), .int (nI n_)])) :: (b.1, .inl (G.2.2.2.1, b.2.1, .inl b.2.2)) :: F))) (fun q => B0 ≤ q)) rJ5_isLatin1_aae02.cells rJ5_isLatin1_aae02.slots (fun q => B0 ≤ q) := by
  refine met_of RJ5 [(0, .ref (sb))] rfl (by decide) (Nat.le_of_ble_eq_true rfl) rfl ?_
  intro p e s m args below meth c C hr hnm
  refine yq ?_
  intro QQ hQ
  refine yy_gets C (v := .int (nI 1)) (cSV C).1 sk_J5_18 rfl dJ5_isLatin1_aae02_0 (pc' := 3) rfl ?_
  refine yy_if_eq C dJ5_isLatin1_aae02_3 (pc' := 6) rfl (tgt := 17) (by decide) (fun c_3 => ?_) (fun c_3 => ?_)
  · skip
    exact absurd c_3 (by decide)
  · skip
    refine yy_aload_n C 0 dJ5_isLatin1_aae02_6 (pc' := 7) rfl rfl rfl ?_
    refine yy_get C (v := .int (nI 0)) fk_J5_22 0 dJ5_isLatin1_aae02_7 (pc' := 10) rfl rfl rfl ?_
    refine yy_if_ne C dJ5_isLatin1_aae02_10 (pc' := 13) rfl (tgt := 17) (by decide) (fun c_10 => ?_) (fun c_10 => ?_)
    · skip
      exact absurd c_10 (by decide)
    · skip
      refine yy_iconst C (v := (nI 1)) dJ5_isLatin1_aae02_13 (pc' := 14) rfl (by decide) ?_
      refine yy_goto C (tgt := 18) dJ5_isLatin1_aae02_14 (by decide) ?_
      subst hQ
      exact ye_i C hr rfl () dJ5_isLatin1_aae02_18 rfl (by decide) (by decide) rfl

abbrev rJ1_canEncode_fc78d : Room := { frames := 0, cells := 0, slots := 0, locals := 0 }
set_option maxHeartbeats 4000000 in
set_option maxRecDepth 100000 in
theorem mJ1_canEncode_fc78d (l : Launch) (G : gG) (B0 : Nat) (w : va_W) (c_ : Nat) (hc : c_ ≤ 255) : Met l yJ1_canEncode_fc78d (Cond.code yJ1_canEncode_fc78d cJ1_canEncode_fc78d 1 (some .boolean) :: WG) rJ1_canEncode_fc78d (va_Pc [.int (nI c_)] (PR G B0 (w))) (va_Qi (fun (r : Int32) (_ : Unit) => r = nI 1) (fun (_ : Unit) (t_ : State) => va_P G.1 vwCl (w) t_.heap ∧ va_D (fun q => B0 ≤ q) (w)) (fun q => B0 ≤ q)) rJ1_canEncode_fc78d.cells rJ1_canEncode_fc78d.slots (fun q => B0 ≤ q) := by
  refine met_of RJ1 [(0, .int (nI c_))] rfl (by decide) (Nat.le_of_ble_eq_true rfl) rfl ?_
  intro p e s m args below meth c C hr hnm
  refine yq ?_
  intro QQ hQ
  refine yy_iload_n C 0 dJ1_canEncode_fc78d_0 (pc' := 1) rfl rfl rfl ?_
  refine yy_sipush C (v := (nI 255)) dJ1_canEncode_fc78d_1 (pc' := 4) rfl (by decide) ?_
  refine yn_icmp_gt C (by omega) (by decide) dJ1_canEncode_fc78d_4 (pc' := 7) rfl (tgt := 11) (by decide) (fun c_4 => ?_) (fun c_4 => ?_)
  · skip
    exact absurd c_4 (by omega)
  · skip
    refine yy_iconst C (v := (nI 1)) dJ1_canEncode_fc78d_7 (pc' := 8) rfl (by decide) ?_
    refine yy_goto C (tgt := 12) dJ1_canEncode_fc78d_8 (by decide) ?_
    subst hQ
    exact ye_i C hr rfl () dJ1_canEncode_fc78d_12 rfl (by decide) (by decide) rfl

abbrev rJ5_append_3fe6f : Room := { frames := 4, cells := 1, slots := 1000, locals := 91 }
set_option maxHeartbeats 4000000 in
set_option maxRecDepth 100000 in
theorem mJ5_append_3fe6f (l : Launch) (G : gG) (B0 : Nat) (sb : Nat) (x : TT) (b : BU) (F : va_W) (c_ : Nat) (hc : c_ < 128) (h : BO x b) (hq : x.2 + 1 < 500) : Met l yJ5_append_3fe6f (Cond.code yJ5_append_3fe6f cJ5_append_3fe6f 2 (some (.object "java/lang/AbstractStringBuilder")) :: WG) rJ5_append_3fe6f (va_Pc [.ref (sb), .int (nI c_)] (PR G B0 (((sb, .inr (1, [.ref (b.1), .int (nI 0), .int (nI 0), .int (nI x.2)])) :: (b.1, .inl (G.2.2.2.1, b.2.1, .inl b.2.2)) :: F)))) (va_Qr (fun (u : BU) => BO (tcat x (tch c_)) u) (fun (u : BU) (a_ : Nat) (t_ : State) => a_ = sb ∧ va_P G.1 vwCl (((sb, .inr (1, [.ref (u.1), .int (nI 0), .int (nI 0), .int (nI ((tcat x (tch c_)).2))])) :: (u.1, .inl (G.2.2.2.1, u.2.1, .inl u.2.2)) :: F)) t_.heap ∧ va_D (fun q => B0 ≤ q) (((sb, .inr (1, [.ref (u.1), .int (nI 0), .int (nI 0), .int (nI ((tcat x (tch c_)).2))])) :: (u.1, .inl (G.2.2.2.1, u.2.1, .inl u.2.2)) :: F))) (fun q => B0 ≤ q)) rJ5_append_3fe6f.cells rJ5_append_3fe6f.slots (fun q => B0 ≤ q) := by
  refine met_of RJ5 [(0, .ref (sb)), (1, .int (nI c_))] rfl (by decide) (Nat.le_of_ble_eq_true rfl) rfl ?_
  intro p e s m args below meth c C hr hnm
  refine yq ?_
  intro QQ hQ
  refine yy_aload_n C 0 dJ5_append_3fe6f_0 (pc' := 1) rfl rfl rfl ?_
  refine yy_aload_n C 0 dJ5_append_3fe6f_1 (pc' := 2) rfl rfl rfl ?_
  refine yy_get C (v := .int (nI x.2)) fk_J5_79 0 dJ5_append_3fe6f_2 (pc' := 5) rfl rfl rfl ?_
  refine yy_iconst C (v := (nI 1)) dJ5_append_3fe6f_5 (pc' := 6) rfl (by decide) ?_
  refine yy_iadd C (v := (nI (x.2 + 1))) dJ5_append_3fe6f_6 (pc' := 7) rfl (nI_add x.2 1) ?_
  refine yc_v (yr_U C (n := 1) (As := [.int (nI (x.2 + 1))]) (rest := []) (x := yJ5_ensureCapacityInternal_d00df) (owner := yJ5_ensureCapacityInternal_d00df.cls) (Cn := RJ4) ly_J5_100 ii_J5 ⟨by decide, by decide, by decide +kernel⟩ sm_J5_ensureCapacityInternal_d00df im_J5_ensureCapacityInternal_d00df cd_J5_ensureCapacityInternal_d00df cd_J5_ensureCapacityInternal_d00df im_J5_ensureCapacityInternal_d00df (C.2.2.2.2.1 _ sx_J5_ensureCapacityInternal_d00df) (mJ5_ensureCapacityInternal_d00df l G B0 sb x b F (x.2 + 1) h (by omega)) ⟨by decide, by decide⟩ ⟨by decide, by decide⟩ 0 rfl rfl rfl rfl (Nat.le_of_ble_eq_true rfl) dJ5_append_3fe6f_7) (pc' := 10) rfl (fun u1 hw1 => ?_)
  obtain ⟨hB1, hB2⟩ := hw1
  refine yy_aload_n C 0 dJ5_append_3fe6f_10 (pc' := 11) rfl rfl rfl ?_
  refine yc_i (yr_U C (n := 0) (As := []) (rest := []) (x := yJ5_isLatin1_aae02) (owner := yJ5_isLatin1_aae02.cls) (Cn := RJ4) ly_J5_83 ii_J5 ⟨by decide, by decide, by decide +kernel⟩ sm_J5_isLatin1_aae02 im_J5_isLatin1_aae02 cd_J5_isLatin1_aae02 cd_J5_isLatin1_aae02 im_J5_isLatin1_aae02 (C.2.2.2.2.1 _ sx_J5_isLatin1_aae02) (mJ5_isLatin1_aae02 l G B0 sb x.2 u1 F) ⟨by decide, by decide⟩ ⟨by decide, by decide⟩ 0 rfl rfl rfl rfl (Nat.le_of_ble_eq_true rfl) dJ5_append_3fe6f_11) (pc' := 14) rfl (fun r2 _ hw2 => ?_)
  subst hw2
  refine yy_if_eq C dJ5_append_3fe6f_14 (pc' := 17) rfl (tgt := 45) (by decide) (fun c_14 => ?_) (fun c_14 => ?_)
  · skip
    exact absurd c_14 (by decide)
  · skip
    refine yy_iload_n C 1 dJ5_append_3fe6f_17 (pc' := 18) rfl rfl rfl ?_
    refine yc_i (yr_S C (n := 1) (As := [.int (nI c_)]) (rest := []) lk_J5_191 cd_J1_canEncode_fc78d st_J1_canEncode_fc78d (mJ1_canEncode_fc78d l G B0 ((sb, .inr (1, [.ref (u1.1), .int (nI 0), .int (nI 0), .int (nI x.2)])) :: (u1.1, .inl (G.2.2.2.1, u1.2.1, .inl u1.2.2)) :: F) c_ (by omega)) ⟨by decide, by decide⟩ ⟨by decide, by decide⟩ rfl rfl (Nat.le_of_ble_eq_true rfl) dJ5_append_3fe6f_18) (pc' := 21) rfl (fun r3 _ hw3 => ?_)
    subst hw3
    refine yy_if_eq C dJ5_append_3fe6f_21 (pc' := 24) rfl (tgt := 45) (by decide) (fun c_21 => ?_) (fun c_21 => ?_)
    · skip
      exact absurd c_21 (by decide)
    · skip
      refine yy_aload_n C 0 dJ5_append_3fe6f_24 (pc' := 25) rfl rfl rfl ?_
      refine yy_get C (v := .ref (u1.1)) fk_J5_15 0 dJ5_append_3fe6f_25 (pc' := 28) rfl rfl rfl ?_
      refine yy_aload_n C 0 dJ5_append_3fe6f_28 (pc' := 29) rfl rfl rfl ?_
      refine yy_dup C dJ5_append_3fe6f_29 (pc' := 30) rfl rfl ?_
      refine yy_get C (v := .int (nI x.2)) fk_J5_79 0 dJ5_append_3fe6f_30 (pc' := 33) rfl rfl rfl ?_
      refine yy_dup_x1 C dJ5_append_3fe6f_33 (pc' := 34) rfl rfl rfl ?_
      refine yy_iconst C (v := (nI 1)) dJ5_append_3fe6f_34 (pc' := 35) rfl (by decide) ?_
      refine yy_iadd C (v := (nI (x.2 + 1))) dJ5_append_3fe6f_35 (pc' := 36) rfl (nI_add x.2 1) ?_
      refine yy_put C (w' := ((sb, .inr (1, [.ref (u1.1), .int (nI 0), .int (nI 0), .int (nI (x.2 + 1))])) :: (u1.1, .inl (G.2.2.2.1, u1.2.1, .inl u1.2.2)) :: F)) fk_J5_79 fpJ4 rfl 0 dJ5_append_3fe6f_36 (pc' := 39) rfl rfl rfl rfl (Nat.le_of_ble_eq_true rfl) rfl ?_
      refine yy_iload_n C 1 dJ5_append_3fe6f_39 (pc' := 40) rfl rfl rfl ?_
      refine yy_i2b C (v := (sb_b c_)) dJ5_append_3fe6f_40 (pc' := 41) rfl rfl ?_
      refine yy_bast C (w' := ((sb, .inr (1, [.ref (u1.1), .int (nI 0), .int (nI 0), .int (nI (x.2 + 1))])) :: (u1.1, .inl (G.2.2.2.1, u1.2.1, .inl (upd u1.2.2 x.2 (sb_b c_)))) :: F)) 1 dJ5_append_3fe6f_41 (pc' := 42) rfl rfl (by omega) (by have := hB1.2.1; omega) (pk_vb _) rfl ?_
      refine yy_goto C (tgt := 75) dJ5_append_3fe6f_42 (by decide) ?_
      refine yy_aload_n C 0 dJ5_append_3fe6f_75 (pc' := 76) rfl rfl rfl ?_
      subst hQ
      exact ye_r C hr (Or.inl ⟨_, rfl⟩) (u1.1, u1.2.1, upd u1.2.2 x.2 (sb_b c_)) dJ5_append_3fe6f_76 rfl (by decide) (by decide) (hB1.putc (by omega) (by omega))

abbrev rJ4_append_cf468 : Room := { frames := 5, cells := 1, slots := 1000, locals := 112 }
set_option maxHeartbeats 4000000 in
set_option maxRecDepth 100000 in
theorem mJ4_append_cf468 (l : Launch) (G : gG) (B0 : Nat) (sb : Nat) (x : TT) (b : BU) (F : va_W) (c_ : Nat) (hc : c_ < 128) (h : BO x b) (hq : x.2 + 1 < 500) : Met l yJ4_append_cf468 (Cond.code yJ4_append_cf468 cJ4_append_cf468 2 (some (.object "java/lang/StringBuilder")) :: WG) rJ4_append_cf468 (va_Pc [.ref (sb), .int (nI c_)] (PR G B0 (((sb, .inr (1, [.ref (b.1), .int (nI 0), .int (nI 0), .int (nI x.2)])) :: (b.1, .inl (G.2.2.2.1, b.2.1, .inl b.2.2)) :: F)))) (va_Qr (fun (u : BU) => BO (tcat x (tch c_)) u) (fun (u : BU) (a_ : Nat) (t_ : State) => a_ = sb ∧ va_P G.1 vwCl (((sb, .inr (1, [.ref (u.1), .int (nI 0), .int (nI 0), .int (nI ((tcat x (tch c_)).2))])) :: (u.1, .inl (G.2.2.2.1, u.2.1, .inl u.2.2)) :: F)) t_.heap ∧ va_D (fun q => B0 ≤ q) (((sb, .inr (1, [.ref (u.1), .int (nI 0), .int (nI 0), .int (nI ((tcat x (tch c_)).2))])) :: (u.1, .inl (G.2.2.2.1, u.2.1, .inl u.2.2)) :: F))) (fun q => B0 ≤ q)) rJ4_append_cf468.cells rJ4_append_cf468.slots (fun q => B0 ≤ q) := by
  refine met_of RJ4 [(0, .ref (sb)), (1, .int (nI c_))] rfl (by decide) (Nat.le_of_ble_eq_true rfl) rfl ?_
  intro p e s m args below meth c C hr hnm
  refine yq ?_
  intro QQ hQ
  refine yy_aload_n C 0 dJ4_append_cf468_0 (pc' := 1) rfl rfl rfl ?_
  refine yy_iload_n C 1 dJ4_append_cf468_1 (pc' := 2) rfl rfl rfl ?_
  refine yc_r (yr_SU C (n := 1) (As := [.int (nI c_)]) (rest := []) ly_J4_50 ii_J5 ⟨by decide, by decide +kernel⟩ sm_J5_append_3fe6f su_J4 cd_J5_append_3fe6f im_J5_append_3fe6f (mJ5_append_3fe6f l G B0 sb x b F c_ hc h hq) ⟨by decide, by decide⟩ ⟨by decide, by decide⟩ 0 rfl rfl rfl rfl (Nat.le_of_ble_eq_true rfl) dJ4_append_cf468_2) (pc' := 5) rfl (fun u1 hw1 => ?_)
  refine yy_pop C dJ4_append_cf468_5 (pc' := 6) rfl rfl ?_
  refine yy_aload_n C 0 dJ4_append_cf468_6 (pc' := 7) rfl rfl rfl ?_
  subst hQ
  exact ye_r C hr (Or.inl ⟨_, rfl⟩) u1 dJ4_append_cf468_7 rfl (by decide) (by decide) hw1
