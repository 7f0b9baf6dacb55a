def cdShare (n : Nat) : Nat := if n = 0 then 1 else 0
def jnS (S : SA) (a b t : Nat) : SA := sJ (sJ (sN S 4 (S.1 4 + 1)) 1 (vp_updL (S.2.2 1) (S.1 4) (lN (2 ^ a ||| 2 ^ b)))) 2 (vp_updL (S.2.2 2) (S.1 4) (lN (2 ^ t)))
def grS (S : SA) : Nat → SA
  | 0 => S
  | i + 1 => sJ (grS S i) 0 (vp_updL ((grS S i).2.2 0) i (lN (cloA (grS S i) (mk ((grS S i).2.2 0 i)))))
def lgS (S : SA) (a k : Nat) : SA := sI (sI (sN S 5 (S.1 5 + 1)) 13 (upd (S.2.1 13) (S.1 5) (nI a))) 14 (upd (S.2.1 14) (S.1 5) (nI k))
def giS (S : SA) (a k : Nat) : SA := sJ (sI (sN (lgS S a k) 9 (S.1 9 + S.1 8)) 0 (upd (S.2.1 0) a (S.2.1 0 a + nI (S.1 8)))) 0 (vp_updL (S.2.2 0) a (lN (cloA S (mk (S.2.2 0 a) ||| 2 ^ k))))
def gvB (T : SA) (a : Nat) (d : Int32) (k : Nat) : Bool := decide (T.2.1 2 k = d) && freeB T a k
def gvS (S : SA) (a : Nat) (d : Int32) : Nat → SA
  | 0 => S
  | i + 1 => if gvB (gvS S a d i) a d i = true then giS (gvS S a d i) a i else gvS S a d i
def gvC (S : SA) (a : Nat) (d : Int32) : Nat → Nat
  | 0 => 0
  | i + 1 => if gvB (gvS S a d i) a d i = true then gvC S a d i + 1 else gvC S a d i
theorem gv_t {S : SA} {a : Nat} {d : Int32} {i : Nat} (h : gvB (gvS S a d i) a d i = true) : gvS S a d (i + 1) = giS (gvS S a d i) a i ∧ gvC S a d (i + 1) = gvC S a d i + 1 := ⟨by rw [gvS, if_pos h], by rw [gvC, if_pos h]⟩
theorem gv_f {S : SA} {a : Nat} {d : Int32} {i : Nat} (h : gvB (gvS S a d i) a d i = false) : gvS S a d (i + 1) = gvS S a d i ∧ gvC S a d (i + 1) = gvC S a d i := ⟨by rw [gvS, if_neg (by simp [h])], by rw [gvC, if_neg (by simp [h])]⟩
theorem mk_upL {f : Nat → Int64} {i x : Nat} (hx : x < 2 ^ 40) {P : Nat → Nat → Prop} (h1 : P i x) (h2 : ∀ j, ¬ j = i → P j (mk (f j))) (j : Nat) : P j (mk (vp_updL f i (lN x) j)) := by
  by_cases h : j = i
  · subst h
    rw [vp_updL, if_pos rfl, mk_lN (Nat.lt_trans hx (by decide))]
    exact h1
  · rw [vp_updL, if_neg h]
    exact h2 j h
theorem ix_up {f : Nat → Int32} {i x : Nat} (hx : x < 2 ^ 32) {P : Nat → Nat → Prop} (h1 : P i x) (h2 : ∀ j, ¬ j = i → P j (ix (f j))) (j : Nat) : P j (ix (upd f i (nI x) j)) := by
  by_cases h : j = i
  · subst h
    rw [upd, if_pos rfl, ix_nI hx]
    exact h1
  · rw [upd, if_neg h]
    exact h2 j h
theorem IA_gr {S : SA} (hI : IA S) : ∀ i, i ≤ 5 → IA (grS S i)
  | 0, _ => hI
  | i + 1, h => by
    obtain ⟨i0, i1, i2, i3, i4, i5, i6, i7, i8, iJ, iH, iG, iQ⟩ := IA_gr hI i (by omega)
    refine ⟨i0, i1, i2, i3, i4, i5, i6, i7, i8, iJ, ?_, iG, iQ⟩
    have hc : cloA (grS S i) (mk ((grS S i).2.2 0 i)) < 2 ^ 40 := clo_lt (iH i (by omega)) (fun j hj => (iJ j hj).2)
    exact mk_upL (P := fun a y => a < 5 → y < 2 ^ 40) hc (fun _ => hc) (fun j _ hj => iH j hj)
theorem IA_gi {S : SA} (hI : IA S) {a k : Nat} (ha : a < 5) (hk : k < 40) (hg : S.1 5 < 200) : IA (giS S a k) := by
  obtain ⟨i0, i1, i2, i3, i4, i5, i6, i7, i8, iJ, iH, iG, iQ⟩ := hI
  have hc : cloA S (mk (S.2.2 0 a) ||| 2 ^ k) < 2 ^ 40 := clo_lt (Nat.or_lt_two_pow (iH a ha) (bit40 hk)) (fun j hj => (iJ j hj).2)
  refine ⟨i0, i1, i2, i3, i4, ?_, i6, i7, i8, iJ, ?_, ?_, iQ⟩
  · show S.1 5 + 1 ≤ 200
    omega
  · exact mk_upL (P := fun a y => a < 5 → y < 2 ^ 40) hc (fun _ => hc) (fun j _ hj => iH j hj)
  · exact ix_up (P := fun j y => j < S.1 5 + 1 → y < 40) (by omega) (fun _ => hk) (fun j h1 h2 => iG j (by omega))
abbrev rX1_appendDocument : Room := { frames := 6, cells := 1, slots := 6, locals := 92 }
set_option maxHeartbeats 4000000 in
set_option maxRecDepth 100000 in
theorem mX1_appendDocument (l : Launch) (hl0 : l.stackTraces = false) (G : gG) (B0 : Nat) (ad : Nat → Nat) (F : va_W) (S : SA) (hI : IA S) : vy_Met l yX1_appendDocument (Cond.code yX1_appendDocument cX1_appendDocument 1 (some .int) :: WG) rX1_appendDocument (va_Pc [.ref (ad 1)] (PR G B0 (wA G ad S ++ F))) (va_Qi (fun (r : Int32) (_ : Unit) => cdAddDoc (S.1 0) = 0 ∧ r = nI (S.1 0)) (fun (_ : Unit) (t_ : State) => va_P G.1 vwCl (wA G ad (sN S 0 (S.1 0 + 1)) ++ F) t_.heap ∧ va_D (fun q => B0 ≤ q) (wA G ad (sN S 0 (S.1 0 + 1)) ++ F)) (fun q => B0 ≤ q)) (vx_X (fun _ : Unit => True) (fun (E : String) (_ : Unit) (t_ : State) => (E = "java/lang/IllegalStateException" ∧ cdAddDoc (S.1 0) = 1) ∧ va_P G.1 vwCl (wA G ad S ++ F) t_.heap ∧ va_D (fun q => B0 ≤ q) (wA G ad S ++ F)) (fun q => B0 ≤ q)) rX1_appendDocument.cells rX1_appendDocument.slots (fun q => B0 ≤ q) := by
  refine xmet_of RX1 [(0, .ref (ad 1))] rfl (by decide) (Nat.le_of_ble_eq_true rfl) rfl ?_
  intro p e s m args below meth c C hr hnm hno
  refine yq ?_
  intro QQ hQ
  obtain ⟨i0, i1, i2, i3, i4, i5, i6, i7, i8, iJ, iH, iG, iQ⟩ := id hI
  refine yy_aload_n C 0 dX1_appendDocument_0 (pc' := 1) rfl rfl rfl ?_
  refine yy_get C (v := .int (nI (S.1 0))) fk_X1_24 1 dX1_appendDocument_1 (pc' := 4) rfl rfl rfl ?_
  refine yy_bipush C (v := (nI 8)) dX1_appendDocument_4 (pc' := 6) rfl (by decide) ?_
  refine yn_icmp_lt C (by omega) (by decide) dX1_appendDocument_6 (pc' := 9) rfl (tgt := 19) (by decide) (fun c_6 => ?_) (fun c_6 => ?_)
  · skip
    refine yy_aload_n C 0 dX1_appendDocument_19 (pc' := 20) rfl rfl rfl ?_
    refine yy_dup C dX1_appendDocument_20 (pc' := 21) rfl rfl ?_
    refine yy_get C (v := .int (nI (S.1 0))) fk_X1_24 1 dX1_appendDocument_21 (pc' := 24) rfl rfl rfl ?_
    refine yy_iconst C (v := (nI 1)) dX1_appendDocument_24 (pc' := 25) rfl (by decide) ?_
    refine yy_iadd C (v := (nI ((S.1 0) + 1))) dX1_appendDocument_25 (pc' := 26) rfl (nI_add (S.1 0) 1) ?_
    refine yy_put C (w' := wA G ad (sN S 0 ((S.1 0) + 1)) ++ F) fk_X1_24 fpX1 rfl 1 dX1_appendDocument_26 (pc' := 29) rfl rfl rfl rfl (Nat.le_of_ble_eq_true rfl) rfl ?_
    refine yy_aload_n C 0 dX1_appendDocument_29 (pc' := 30) rfl rfl rfl ?_
    refine yy_get C (v := .int (nI ((S.1 0) + 1))) fk_X1_24 1 dX1_appendDocument_30 (pc' := 33) rfl rfl rfl ?_
    refine yy_iconst C (v := (nI 1)) dX1_appendDocument_33 (pc' := 34) rfl (by decide) ?_
    refine yy_isub C (v := (nI (S.1 0))) dX1_appendDocument_34 (pc' := 35) rfl (pk_sub (a := (S.1 0) + 1) (b := 1) (by omega)) ?_
    subst hQ
    exact xe_i C hr (vp_nar_int _) () dX1_appendDocument_35 rfl (by decide) (by decide) ⟨by rw [cdAddDoc, if_neg (by omega)], rfl⟩
  · skip
    subst hQ
    exact xe_throwS C hl0 th_X1_28_32 hno (is := 30) (text := "there are 8 documents") (by decide +kernel) dX1_appendDocument_9 dX1_appendDocument_12 dX1_appendDocument_13 dX1_appendDocument_15 dX1_appendDocument_18 () rfl ⟨rfl, by rw [cdAddDoc, if_pos (by omega)]⟩ (by decide) (by decide) (by decide) (by decide) (by decide) (by decide)

abbrev rX1_append : Room := { frames := 6, cells := 1, slots := 6, locals := 92 }
set_option maxHeartbeats 4000000 in
set_option maxRecDepth 100000 in
theorem mX1_append (l : Launch) (hl0 : l.stackTraces = false) (G : gG) (B0 : Nat) (ad : Nat → Nat) (F : va_W) (S : SA) (j : Nat) (v : Int32) (hj : j < 8) (hI : IA S) : vy_Met l yX1_append (Cond.code yX1_append cX1_append 3 (some .int) :: WG) rX1_append (va_Pc [.ref (ad 1), .int (nI j), .int v] (PR G B0 (wA G ad S ++ F))) (va_Qi (fun (r : Int32) (_ : Unit) => S.1 1 < 40 ∧ r = nI (S.1 1)) (fun (_ : Unit) (t_ : State) => va_P G.1 vwCl (wA G ad (sN (sI (sI (sI (sI S 1 (upd (S.2.1 1) j ((S.2.1 1) j + nI 1))) 2 (upd (S.2.1 2) (S.1 1) (nI j))) 3 (upd (S.2.1 3) (S.1 1) ((S.2.1 1) j))) 4 (upd (S.2.1 4) (S.1 1) v)) 1 (S.1 1 + 1)) ++ F) t_.heap ∧ va_D (fun q => B0 ≤ q) (wA G ad (sN (sI (sI (sI (sI S 1 (upd (S.2.1 1) j ((S.2.1 1) j + nI 1))) 2 (upd (S.2.1 2) (S.1 1) (nI j))) 3 (upd (S.2.1 3) (S.1 1) ((S.2.1 1) j))) 4 (upd (S.2.1 4) (S.1 1) v)) 1 (S.1 1 + 1)) ++ F)) (fun q => B0 ≤ q)) (vx_X (fun _ : Unit => True) (fun (E : String) (_ : Unit) (t_ : State) => (E = "java/lang/IllegalStateException" ∧ S.1 1 = 40) ∧ va_P G.1 vwCl (wA G ad S ++ F) t_.heap ∧ va_D (fun q => B0 ≤ q) (wA G ad S ++ F)) (fun q => B0 ≤ q)) rX1_append.cells rX1_append.slots (fun q => B0 ≤ q) := by
  refine xmet_of RX1 [(0, .ref (ad 1)), (1, .int (nI j)), (2, .int v)] rfl (by decide) (Nat.le_of_ble_eq_true rfl) rfl ?_
  intro p e s m args below meth c C hr hnm hno
  refine yq ?_
  intro QQ hQ
  obtain ⟨i0, i1, i2, i3, i4, i5, i6, i7, i8, iJ, iH, iG, iQ⟩ := id hI
  refine yy_aload_n C 0 dX1_append_0 (pc' := 1) rfl rfl rfl ?_
  refine yy_get C (v := .int (nI (S.1 1))) fk_X1_35 1 dX1_append_1 (pc' := 4) rfl rfl rfl ?_
  refine yy_bipush C (v := (nI 40)) dX1_append_4 (pc' := 6) rfl (by decide) ?_
  refine yn_icmp_lt C (by omega) (by decide) dX1_append_6 (pc' := 9) rfl (tgt := 19) (by decide) (fun c_6 => ?_) (fun c_6 => ?_)
  · skip
    refine yy_aload_n C 0 dX1_append_19 (pc' := 20) rfl rfl rfl ?_
    refine yy_get C (v := .ref (ad 10)) fk_X1_15 1 dX1_append_20 (pc' := 23) rfl rfl rfl ?_
    refine yy_aload_n C 0 dX1_append_23 (pc' := 24) rfl rfl rfl ?_
    refine yy_get C (v := .int (nI (S.1 1))) fk_X1_35 1 dX1_append_24 (pc' := 27) rfl rfl rfl ?_
    refine yy_iload_n C 1 dX1_append_27 (pc' := 28) rfl rfl rfl ?_
    refine yy_iast C (w' := wA G ad (sI S 2 (upd (S.2.1 2) (S.1 1) (nI j))) ++ F) 10 dX1_append_28 (pc' := 29) rfl rfl (by omega) (by decide) rfl ?_
    refine yy_aload_n C 0 dX1_append_29 (pc' := 30) rfl rfl rfl ?_
    refine yy_get C (v := .ref (ad 11)) fk_X1_18 1 dX1_append_30 (pc' := 33) rfl rfl rfl ?_
    refine yy_aload_n C 0 dX1_append_33 (pc' := 34) rfl rfl rfl ?_
    refine yy_get C (v := .int (nI (S.1 1))) fk_X1_35 1 dX1_append_34 (pc' := 37) rfl rfl rfl ?_
    refine yy_aload_n C 0 dX1_append_37 (pc' := 38) rfl rfl rfl ?_
    refine yy_get C (v := .ref (ad 9)) fk_X1_9 1 dX1_append_38 (pc' := 41) rfl rfl rfl ?_
    refine yy_iload_n C 1 dX1_append_41 (pc' := 42) rfl rfl rfl ?_
    refine yy_iald C 9 dX1_append_42 (pc' := 43) rfl rfl (by omega) (by decide) ?_
    refine yy_iast C (w' := wA G ad (sI (sI S 2 (upd (S.2.1 2) (S.1 1) (nI j))) 3 (upd (S.2.1 3) (S.1 1) ((S.2.1 1) j))) ++ F) 11 dX1_append_43 (pc' := 44) rfl rfl (by omega) (by decide) rfl ?_
    refine yy_aload_n C 0 dX1_append_44 (pc' := 45) rfl rfl rfl ?_
    refine yy_get C (v := .ref (ad 12)) fk_X1_21 1 dX1_append_45 (pc' := 48) rfl rfl rfl ?_
    refine yy_aload_n C 0 dX1_append_48 (pc' := 49) rfl rfl rfl ?_
    refine yy_get C (v := .int (nI (S.1 1))) fk_X1_35 1 dX1_append_49 (pc' := 52) rfl rfl rfl ?_
    refine yy_iload_n C 2 dX1_append_52 (pc' := 53) rfl rfl rfl ?_
    refine yy_iast C (w' := wA G ad (sI (sI (sI S 2 (upd (S.2.1 2) (S.1 1) (nI j))) 3 (upd (S.2.1 3) (S.1 1) ((S.2.1 1) j))) 4 (upd (S.2.1 4) (S.1 1) v)) ++ F) 12 dX1_append_53 (pc' := 54) rfl rfl (by omega) (by decide) rfl ?_
    refine yy_aload_n C 0 dX1_append_54 (pc' := 55) rfl rfl rfl ?_
    refine yy_get C (v := .ref (ad 9)) fk_X1_9 1 dX1_append_55 (pc' := 58) rfl rfl rfl ?_
    refine yy_iload_n C 1 dX1_append_58 (pc' := 59) rfl rfl rfl ?_
    refine yy_dup2 C dX1_append_59 (pc' := 60) rfl rfl rfl ?_
    refine yy_iald C 9 dX1_append_60 (pc' := 61) rfl rfl (by omega) (by decide) ?_
    refine yy_iconst C (v := (nI 1)) dX1_append_61 (pc' := 62) rfl (by decide) ?_
    refine yy_iadd C (v := (((S.2.1 1) j) + (nI 1))) dX1_append_62 (pc' := 63) rfl rfl ?_
    refine yy_iast C (w' := wA G ad (sI (sI (sI (sI S 1 (upd (S.2.1 1) j (((S.2.1 1) j) + (nI 1)))) 2 (upd (S.2.1 2) (S.1 1) (nI j))) 3 (upd (S.2.1 3) (S.1 1) ((S.2.1 1) j))) 4 (upd (S.2.1 4) (S.1 1) v)) ++ F) 9 dX1_append_63 (pc' := 64) rfl rfl (by omega) (by decide) rfl ?_
    refine yy_aload_n C 0 dX1_append_64 (pc' := 65) rfl rfl rfl ?_
    refine yy_dup C dX1_append_65 (pc' := 66) rfl rfl ?_
    refine yy_get C (v := .int (nI (S.1 1))) fk_X1_35 1 dX1_append_66 (pc' := 69) rfl rfl rfl ?_
    refine yy_iconst C (v := (nI 1)) dX1_append_69 (pc' := 70) rfl (by decide) ?_
    refine yy_iadd C (v := (nI ((S.1 1) + 1))) dX1_append_70 (pc' := 71) rfl (nI_add (S.1 1) 1) ?_
    refine yy_put C (w' := wA G ad (sN (sI (sI (sI (sI S 1 (upd (S.2.1 1) j (((S.2.1 1) j) + (nI 1)))) 2 (upd (S.2.1 2) (S.1 1) (nI j))) 3 (upd (S.2.1 3) (S.1 1) ((S.2.1 1) j))) 4 (upd (S.2.1 4) (S.1 1) v)) 1 ((S.1 1) + 1)) ++ F) fk_X1_35 fpX1 rfl 1 dX1_append_71 (pc' := 74) rfl rfl rfl rfl (Nat.le_of_ble_eq_true rfl) rfl ?_
    refine yy_aload_n C 0 dX1_append_74 (pc' := 75) rfl rfl rfl ?_
    refine yy_get C (v := .int (nI ((S.1 1) + 1))) fk_X1_35 1 dX1_append_75 (pc' := 78) rfl rfl rfl ?_
    refine yy_iconst C (v := (nI 1)) dX1_append_78 (pc' := 79) rfl (by decide) ?_
    refine yy_isub C (v := (nI (S.1 1))) dX1_append_79 (pc' := 80) rfl (pk_sub (a := (S.1 1) + 1) (b := 1) (by omega)) ?_
    subst hQ
    exact xe_i C hr (vp_nar_int _) () dX1_append_80 rfl (by decide) (by decide) ⟨by omega, rfl⟩
  · skip
    subst hQ
    exact xe_throwS C hl0 th_X1_28_32 hno (is := 38) (text := "there are 40 lines") (by decide +kernel) dX1_append_9 dX1_append_12 dX1_append_13 dX1_append_15 dX1_append_18 () rfl ⟨rfl, by omega⟩ (by decide) (by decide) (by decide) (by decide) (by decide) (by decide)

abbrev rX4_append : Room := { frames := 6, cells := 1, slots := 6, locals := 92 }
set_option maxHeartbeats 4000000 in
set_option maxRecDepth 100000 in
theorem mX4_append (l : Launch) (hl0 : l.stackTraces = false) (G : gG) (B0 : Nat) (ad : Nat → Nat) (F : va_W) (S : SA) (f g t : Int32) (hI : IA S) : vy_Met l yX4_append (Cond.code yX4_append cX4_append 4 (some .int) :: WG) rX4_append (va_Pc [.ref (ad 2), .int f, .int g, .int t] (PR G B0 (wA G ad S ++ F))) (va_Qi (fun (r : Int32) (_ : Unit) => S.1 2 < 8 ∧ r = nI (S.1 2)) (fun (_ : Unit) (t_ : State) => va_P G.1 vwCl (wA G ad (sN (sI (sI (sI S 5 (upd (S.2.1 5) (S.1 2) f)) 6 (upd (S.2.1 6) (S.1 2) g)) 7 (upd (S.2.1 7) (S.1 2) t)) 2 (S.1 2 + 1)) ++ F) t_.heap ∧ va_D (fun q => B0 ≤ q) (wA G ad (sN (sI (sI (sI S 5 (upd (S.2.1 5) (S.1 2) f)) 6 (upd (S.2.1 6) (S.1 2) g)) 7 (upd (S.2.1 7) (S.1 2) t)) 2 (S.1 2 + 1)) ++ F)) (fun q => B0 ≤ q)) (vx_X (fun _ : Unit => True) (fun (E : String) (_ : Unit) (t_ : State) => (E = "java/lang/IllegalStateException" ∧ S.1 2 = 8) ∧ va_P G.1 vwCl (wA G ad S ++ F) t_.heap ∧ va_D (fun q => B0 ≤ q) (wA G ad S ++ F)) (fun q => B0 ≤ q)) rX4_append.cells rX4_append.slots (fun q => B0 ≤ q) := by
  refine xmet_of RX4 [(0, .ref (ad 2)), (1, .int f), (2, .int g), (3, .int t)] rfl (by decide) (Nat.le_of_ble_eq_true rfl) rfl ?_
  intro p e s m args below meth c C hr hnm hno
  refine yq ?_
  intro QQ hQ
  obtain ⟨i0, i1, i2, i3, i4, i5, i6, i7, i8, iJ, iH, iG, iQ⟩ := id hI
  refine yy_aload_n C 0 dX4_append_0 (pc' := 1) rfl rfl rfl ?_
  refine yy_get C (v := .int (nI (S.1 2))) fk_X4_21 2 dX4_append_1 (pc' := 4) rfl rfl rfl ?_
  refine yy_bipush C (v := (nI 8)) dX4_append_4 (pc' := 6) rfl (by decide) ?_
  refine yn_icmp_lt C (by omega) (by decide) dX4_append_6 (pc' := 9) rfl (tgt := 19) (by decide) (fun c_6 => ?_) (fun c_6 => ?_)
  · skip
    refine yy_aload_n C 0 dX4_append_19 (pc' := 20) rfl rfl rfl ?_
    refine yy_get C (v := .ref (ad 13)) fk_X4_9 2 dX4_append_20 (pc' := 23) rfl rfl rfl ?_
    refine yy_aload_n C 0 dX4_append_23 (pc' := 24) rfl rfl rfl ?_
    refine yy_get C (v := .int (nI (S.1 2))) fk_X4_21 2 dX4_append_24 (pc' := 27) rfl rfl rfl ?_
    refine yy_iload_n C 1 dX4_append_27 (pc' := 28) rfl rfl rfl ?_
    refine yy_iast C (w' := wA G ad (sI S 5 (upd (S.2.1 5) (S.1 2) f)) ++ F) 13 dX4_append_28 (pc' := 29) rfl rfl (by omega) (by decide) rfl ?_
    refine yy_aload_n C 0 dX4_append_29 (pc' := 30) rfl rfl rfl ?_
    refine yy_get C (v := .ref (ad 14)) fk_X4_15 2 dX4_append_30 (pc' := 33) rfl rfl rfl ?_
    refine yy_aload_n C 0 dX4_append_33 (pc' := 34) rfl rfl rfl ?_
    refine yy_get C (v := .int (nI (S.1 2))) fk_X4_21 2 dX4_append_34 (pc' := 37) rfl rfl rfl ?_
    refine yy_iload_n C 2 dX4_append_37 (pc' := 38) rfl rfl rfl ?_
    refine yy_iast C (w' := wA G ad (sI (sI S 5 (upd (S.2.1 5) (S.1 2) f)) 6 (upd (S.2.1 6) (S.1 2) g)) ++ F) 14 dX4_append_38 (pc' := 39) rfl rfl (by omega) (by decide) rfl ?_
    refine yy_aload_n C 0 dX4_append_39 (pc' := 40) rfl rfl rfl ?_
    refine yy_get C (v := .ref (ad 15)) fk_X4_18 2 dX4_append_40 (pc' := 43) rfl rfl rfl ?_
    refine yy_aload_n C 0 dX4_append_43 (pc' := 44) rfl rfl rfl ?_
    refine yy_get C (v := .int (nI (S.1 2))) fk_X4_21 2 dX4_append_44 (pc' := 47) rfl rfl rfl ?_
    refine yy_iload_n C 3 dX4_append_47 (pc' := 48) rfl rfl rfl ?_
    refine yy_iast C (w' := wA G ad (sI (sI (sI S 5 (upd (S.2.1 5) (S.1 2) f)) 6 (upd (S.2.1 6) (S.1 2) g)) 7 (upd (S.2.1 7) (S.1 2) t)) ++ F) 15 dX4_append_48 (pc' := 49) rfl rfl (by omega) (by decide) rfl ?_
    refine yy_aload_n C 0 dX4_append_49 (pc' := 50) rfl rfl rfl ?_
    refine yy_dup C dX4_append_50 (pc' := 51) rfl rfl ?_
    refine yy_get C (v := .int (nI (S.1 2))) fk_X4_21 2 dX4_append_51 (pc' := 54) rfl rfl rfl ?_
    refine yy_iconst C (v := (nI 1)) dX4_append_54 (pc' := 55) rfl (by decide) ?_
    refine yy_iadd C (v := (nI ((S.1 2) + 1))) dX4_append_55 (pc' := 56) rfl (nI_add (S.1 2) 1) ?_
    refine yy_put C (w' := wA G ad (sN (sI (sI (sI S 5 (upd (S.2.1 5) (S.1 2) f)) 6 (upd (S.2.1 6) (S.1 2) g)) 7 (upd (S.2.1 7) (S.1 2) t)) 2 ((S.1 2) + 1)) ++ F) fk_X4_21 fpX4 rfl 2 dX4_append_56 (pc' := 59) rfl rfl rfl rfl (Nat.le_of_ble_eq_true rfl) rfl ?_
    refine yy_aload_n C 0 dX4_append_59 (pc' := 60) rfl rfl rfl ?_
    refine yy_get C (v := .int (nI ((S.1 2) + 1))) fk_X4_21 2 dX4_append_60 (pc' := 63) rfl rfl rfl ?_
    refine yy_iconst C (v := (nI 1)) dX4_append_63 (pc' := 64) rfl (by decide) ?_
    refine yy_isub C (v := (nI (S.1 2))) dX4_append_64 (pc' := 65) rfl (pk_sub (a := (S.1 2) + 1) (b := 1) (by omega)) ?_
    subst hQ
    exact xe_i C hr (vp_nar_int _) () dX4_append_65 rfl (by decide) (by decide) ⟨by omega, rfl⟩
  · skip
    subst hQ
    exact xe_throwS C hl0 th_X4_25_29 hno (is := 27) (text := "there are 8 rules") (by decide +kernel) dX4_append_9 dX4_append_12 dX4_append_13 dX4_append_15 dX4_append_18 () rfl ⟨rfl, by omega⟩ (by decide) (by decide) (by decide) (by decide) (by decide) (by decide)

abbrev rX5_append : Room := { frames := 6, cells := 1, slots := 6, locals := 92 }
set_option maxHeartbeats 4000000 in
set_option maxRecDepth 100000 in
theorem mX5_append (l : Launch) (hl0 : l.stackTraces = false) (G : gG) (B0 : Nat) (ad : Nat → Nat) (F : va_W) (S : SA) (d f g t : Int32) (hI : IA S) : vy_Met l yX5_append (Cond.code yX5_append cX5_append 5 (some .int) :: WG) rX5_append (va_Pc [.ref (ad 3), .int d, .int f, .int g, .int t] (PR G B0 (wA G ad S ++ F))) (va_Qi (fun (r : Int32) (_ : Unit) => S.1 3 < 12 ∧ r = nI (S.1 3)) (fun (_ : Unit) (t_ : State) => va_P G.1 vwCl (wA G ad (sN (sI (sI (sI (sI S 8 (upd (S.2.1 8) (S.1 3) d)) 9 (upd (S.2.1 9) (S.1 3) f)) 10 (upd (S.2.1 10) (S.1 3) g)) 11 (upd (S.2.1 11) (S.1 3) t)) 3 (S.1 3 + 1)) ++ F) t_.heap ∧ va_D (fun q => B0 ≤ q) (wA G ad (sN (sI (sI (sI (sI S 8 (upd (S.2.1 8) (S.1 3) d)) 9 (upd (S.2.1 9) (S.1 3) f)) 10 (upd (S.2.1 10) (S.1 3) g)) 11 (upd (S.2.1 11) (S.1 3) t)) 3 (S.1 3 + 1)) ++ F)) (fun q => B0 ≤ q)) (vx_X (fun _ : Unit => True) (fun (E : String) (_ : Unit) (t_ : State) => (E = "java/lang/IllegalStateException" ∧ S.1 3 = 12) ∧ va_P G.1 vwCl (wA G ad S ++ F) t_.heap ∧ va_D (fun q => B0 ≤ q) (wA G ad S ++ F)) (fun q => B0 ≤ q)) rX5_append.cells rX5_append.slots (fun q => B0 ≤ q) := by
  refine xmet_of RX5 [(0, .ref (ad 3)), (1, .int d), (2, .int f), (3, .int g), (4, .int t)] rfl (by decide) (Nat.le_of_ble_eq_true rfl) rfl ?_
  intro p e s m args below meth c C hr hnm hno
  refine yq ?_
  intro QQ hQ
  obtain ⟨i0, i1, i2, i3, i4, i5, i6, i7, i8, iJ, iH, iG, iQ⟩ := id hI
  refine yy_aload_n C 0 dX5_append_0 (pc' := 1) rfl rfl rfl ?_
  refine yy_get C (v := .int (nI (S.1 3))) fk_X5_24 3 dX5_append_1 (pc' := 4) rfl rfl rfl ?_
  refine yy_bipush C (v := (nI 12)) dX5_append_4 (pc' := 6) rfl (by decide) ?_
  refine yn_icmp_lt C (by omega) (by decide) dX5_append_6 (pc' := 9) rfl (tgt := 19) (by decide) (fun c_6 => ?_) (fun c_6 => ?_)
  · skip
    refine yy_aload_n C 0 dX5_append_19 (pc' := 20) rfl rfl rfl ?_
    refine yy_get C (v := .ref (ad 16)) fk_X5_9 3 dX5_append_20 (pc' := 23) rfl rfl rfl ?_
    refine yy_aload_n C 0 dX5_append_23 (pc' := 24) rfl rfl rfl ?_
    refine yy_get C (v := .int (nI (S.1 3))) fk_X5_24 3 dX5_append_24 (pc' := 27) rfl rfl rfl ?_
    refine yy_iload_n C 1 dX5_append_27 (pc' := 28) rfl rfl rfl ?_
    refine yy_iast C (w' := wA G ad (sI S 8 (upd (S.2.1 8) (S.1 3) d)) ++ F) 16 dX5_append_28 (pc' := 29) rfl rfl (by omega) (by decide) rfl ?_
    refine yy_aload_n C 0 dX5_append_29 (pc' := 30) rfl rfl rfl ?_
    refine yy_get C (v := .ref (ad 17)) fk_X5_15 3 dX5_append_30 (pc' := 33) rfl rfl rfl ?_
    refine yy_aload_n C 0 dX5_append_33 (pc' := 34) rfl rfl rfl ?_
    refine yy_get C (v := .int (nI (S.1 3))) fk_X5_24 3 dX5_append_34 (pc' := 37) rfl rfl rfl ?_
    refine yy_iload_n C 2 dX5_append_37 (pc' := 38) rfl rfl rfl ?_
    refine yy_iast C (w' := wA G ad (sI (sI S 8 (upd (S.2.1 8) (S.1 3) d)) 9 (upd (S.2.1 9) (S.1 3) f)) ++ F) 17 dX5_append_38 (pc' := 39) rfl rfl (by omega) (by decide) rfl ?_
    refine yy_aload_n C 0 dX5_append_39 (pc' := 40) rfl rfl rfl ?_
    refine yy_get C (v := .ref (ad 18)) fk_X5_18 3 dX5_append_40 (pc' := 43) rfl rfl rfl ?_
    refine yy_aload_n C 0 dX5_append_43 (pc' := 44) rfl rfl rfl ?_
    refine yy_get C (v := .int (nI (S.1 3))) fk_X5_24 3 dX5_append_44 (pc' := 47) rfl rfl rfl ?_
    refine yy_iload_n C 3 dX5_append_47 (pc' := 48) rfl rfl rfl ?_
    refine yy_iast C (w' := wA G ad (sI (sI (sI S 8 (upd (S.2.1 8) (S.1 3) d)) 9 (upd (S.2.1 9) (S.1 3) f)) 10 (upd (S.2.1 10) (S.1 3) g)) ++ F) 18 dX5_append_48 (pc' := 49) rfl rfl (by omega) (by decide) rfl ?_
    refine yy_aload_n C 0 dX5_append_49 (pc' := 50) rfl rfl rfl ?_
    refine yy_get C (v := .ref (ad 19)) fk_X5_21 3 dX5_append_50 (pc' := 53) rfl rfl rfl ?_
    refine yy_aload_n C 0 dX5_append_53 (pc' := 54) rfl rfl rfl ?_
    refine yy_get C (v := .int (nI (S.1 3))) fk_X5_24 3 dX5_append_54 (pc' := 57) rfl rfl rfl ?_
    refine yy_iload C 4 dX5_append_57 (pc' := 59) rfl rfl ?_
    refine yy_iast C (w' := wA G ad (sI (sI (sI (sI S 8 (upd (S.2.1 8) (S.1 3) d)) 9 (upd (S.2.1 9) (S.1 3) f)) 10 (upd (S.2.1 10) (S.1 3) g)) 11 (upd (S.2.1 11) (S.1 3) t)) ++ F) 19 dX5_append_59 (pc' := 60) rfl rfl (by omega) (by decide) rfl ?_
    refine yy_aload_n C 0 dX5_append_60 (pc' := 61) rfl rfl rfl ?_
    refine yy_dup C dX5_append_61 (pc' := 62) rfl rfl ?_
    refine yy_get C (v := .int (nI (S.1 3))) fk_X5_24 3 dX5_append_62 (pc' := 65) rfl rfl rfl ?_
    refine yy_iconst C (v := (nI 1)) dX5_append_65 (pc' := 66) rfl (by decide) ?_
    refine yy_iadd C (v := (nI ((S.1 3) + 1))) dX5_append_66 (pc' := 67) rfl (nI_add (S.1 3) 1) ?_
    refine yy_put C (w' := wA G ad (sN (sI (sI (sI (sI S 8 (upd (S.2.1 8) (S.1 3) d)) 9 (upd (S.2.1 9) (S.1 3) f)) 10 (upd (S.2.1 10) (S.1 3) g)) 11 (upd (S.2.1 11) (S.1 3) t)) 3 ((S.1 3) + 1)) ++ F) fk_X5_24 fpX5 rfl 3 dX5_append_67 (pc' := 70) rfl rfl rfl rfl (Nat.le_of_ble_eq_true rfl) rfl ?_
    refine yy_aload_n C 0 dX5_append_70 (pc' := 71) rfl rfl rfl ?_
    refine yy_get C (v := .int (nI ((S.1 3) + 1))) fk_X5_24 3 dX5_append_71 (pc' := 74) rfl rfl rfl ?_
    refine yy_iconst C (v := (nI 1)) dX5_append_74 (pc' := 75) rfl (by decide) ?_
    refine yy_isub C (v := (nI (S.1 3))) dX5_append_75 (pc' := 76) rfl (pk_sub (a := (S.1 3) + 1) (b := 1) (by omega)) ?_
    subst hQ
    exact xe_i C hr (vp_nar_int _) () dX5_append_76 rfl (by decide) (by decide) ⟨by omega, rfl⟩
  · skip
    subst hQ
    exact xe_throwS C hl0 th_X5_28_32 hno (is := 30) (text := "there are 12 spans") (by decide +kernel) dX5_append_9 dX5_append_12 dX5_append_13 dX5_append_15 dX5_append_18 () rfl ⟨rfl, by omega⟩ (by decide) (by decide) (by decide) (by decide) (by decide) (by decide)

abbrev rX0_append : Room := { frames := 6, cells := 1, slots := 6, locals := 92 }
set_option maxHeartbeats 4000000 in
set_option maxRecDepth 100000 in
theorem mX0_append (l : Launch) (hl0 : l.stackTraces = false) (G : gG) (B0 : Nat) (ad : Nat → Nat) (F : va_W) (S : SA) (a b t : Nat) (ha : a < 40) (hb : b < 40) (ht : t < 40) (hI : IA S) : vy_Met l yX0_append (Cond.code yX0_append cX0_append 4 (some .int) :: WG) rX0_append (va_Pc [.ref (ad 4), .int (nI a), .int (nI b), .int (nI t)] (PR G B0 (wA G ad S ++ F))) (va_Qi (fun (r : Int32) (_ : Unit) => S.1 4 < 10 ∧ r = nI (S.1 4)) (fun (_ : Unit) (t_ : State) => va_P G.1 vwCl (wA G ad (sN (sJ (sJ S 1 (vp_updL (S.2.2 1) (S.1 4) (lN (2 ^ a ||| 2 ^ b)))) 2 (vp_updL (S.2.2 2) (S.1 4) (lN (2 ^ t)))) 4 (S.1 4 + 1)) ++ F) t_.heap ∧ va_D (fun q => B0 ≤ q) (wA G ad (sN (sJ (sJ S 1 (vp_updL (S.2.2 1) (S.1 4) (lN (2 ^ a ||| 2 ^ b)))) 2 (vp_updL (S.2.2 2) (S.1 4) (lN (2 ^ t)))) 4 (S.1 4 + 1)) ++ F)) (fun q => B0 ≤ q)) (vx_X (fun _ : Unit => True) (fun (E : String) (_ : Unit) (t_ : State) => (E = "java/lang/IllegalStateException" ∧ S.1 4 = 10) ∧ va_P G.1 vwCl (wA G ad S ++ F) t_.heap ∧ va_D (fun q => B0 ≤ q) (wA G ad S ++ F)) (fun q => B0 ≤ q)) rX0_append.cells rX0_append.slots (fun q => B0 ≤ q) := by
  refine xmet_of RX0 [(0, .ref (ad 4)), (1, .int (nI a)), (2, .int (nI b)), (3, .int (nI t))] rfl (by decide) (Nat.le_of_ble_eq_true rfl) rfl ?_
  intro p e s m args below meth c C hr hnm hno
  refine yq ?_
  intro QQ hQ
  obtain ⟨i0, i1, i2, i3, i4, i5, i6, i7, i8, iJ, iH, iG, iQ⟩ := id hI
  refine yy_aload_n C 0 dX0_append_0 (pc' := 1) rfl rfl rfl ?_
  refine yy_get C (v := .int (nI (S.1 4))) fk_X0_18 4 dX0_append_1 (pc' := 4) rfl rfl rfl ?_
  refine yy_bipush C (v := (nI 10)) dX0_append_4 (pc' := 6) rfl (by decide) ?_
  refine yn_icmp_lt C (by omega) (by decide) dX0_append_6 (pc' := 9) rfl (tgt := 19) (by decide) (fun c_6 => ?_) (fun c_6 => ?_)
  · skip
    refine yy_aload_n C 0 dX0_append_19 (pc' := 20) rfl rfl rfl ?_
    refine yy_get C (v := .ref (ad 20)) fk_X0_9 4 dX0_append_20 (pc' := 23) rfl rfl rfl ?_
    refine yy_aload_n C 0 dX0_append_23 (pc' := 24) rfl rfl rfl ?_
    refine yy_get C (v := .int (nI (S.1 4))) fk_X0_18 4 dX0_append_24 (pc' := 27) rfl rfl rfl ?_
    refine yy_iload_n C 1 dX0_append_27 (pc' := 28) rfl rfl rfl ?_
    refine yc_l (yr_SN C (As := [.int (nI a)]) (rest := [.int (nI (S.1 4)), .ref (ad 20)]) lk_X0_29 cd_X6_bitOf st_X6_bitOf (mX6_bitOf l G B0 (wA G ad S ++ F) a (by omega)) ⟨by decide, by decide⟩ ⟨by decide, by decide⟩ rfl rfl (Nat.le_of_ble_eq_true rfl) dX0_append_28) (pc' := 31) rfl (fun r1 _ hw1 => ?_)
    subst hw1
    refine yy_iload_n C 2 dX0_append_31 (pc' := 32) rfl rfl rfl ?_
    refine yc_l (yr_SN C (As := [.int (nI b)]) (rest := [.long (lN (2 ^ a)), .int (nI (S.1 4)), .ref (ad 20)]) lk_X0_29 cd_X6_bitOf st_X6_bitOf (mX6_bitOf l G B0 (wA G ad S ++ F) b (by omega)) ⟨by decide, by decide⟩ ⟨by decide, by decide⟩ rfl rfl (Nat.le_of_ble_eq_true rfl) dX0_append_32) (pc' := 35) rfl (fun r2 _ hw2 => ?_)
    subst hw2
    refine yy_lor C (v := (lN ((2 ^ a) ||| (2 ^ b)))) dX0_append_35 (pc' := 36) rfl (fb_orL (2 ^ a) (2 ^ b)) ?_
    refine yy_last C (w' := wA G ad (sJ S 1 (vp_updL (S.2.2 1) (S.1 4) (lN ((2 ^ a) ||| (2 ^ b))))) ++ F) 20 dX0_append_36 (pc' := 37) rfl rfl (by omega) (by decide) rfl ?_
    refine yy_aload_n C 0 dX0_append_37 (pc' := 38) rfl rfl rfl ?_
    refine yy_get C (v := .ref (ad 21)) fk_X0_15 4 dX0_append_38 (pc' := 41) rfl rfl rfl ?_
    refine yy_aload_n C 0 dX0_append_41 (pc' := 42) rfl rfl rfl ?_
    refine yy_get C (v := .int (nI (S.1 4))) fk_X0_18 4 dX0_append_42 (pc' := 45) rfl rfl rfl ?_
    refine yy_iload_n C 3 dX0_append_45 (pc' := 46) rfl rfl rfl ?_
    refine yc_l (yr_SN C (As := [.int (nI t)]) (rest := [.int (nI (S.1 4)), .ref (ad 21)]) lk_X0_29 cd_X6_bitOf st_X6_bitOf (mX6_bitOf l G B0 (wA G ad (sJ S 1 (vp_updL (S.2.2 1) (S.1 4) (lN ((2 ^ a) ||| (2 ^ b))))) ++ F) t (by omega)) ⟨by decide, by decide⟩ ⟨by decide, by decide⟩ rfl rfl (Nat.le_of_ble_eq_true rfl) dX0_append_46) (pc' := 49) rfl (fun r3 _ hw3 => ?_)
    subst hw3
    refine yy_last C (w' := wA G ad (sJ (sJ S 1 (vp_updL (S.2.2 1) (S.1 4) (lN ((2 ^ a) ||| (2 ^ b))))) 2 (vp_updL (S.2.2 2) (S.1 4) (lN (2 ^ t)))) ++ F) 21 dX0_append_49 (pc' := 50) rfl rfl (by omega) (by decide) rfl ?_
    refine yy_aload_n C 0 dX0_append_50 (pc' := 51) rfl rfl rfl ?_
    refine yy_dup C dX0_append_51 (pc' := 52) rfl rfl ?_
    refine yy_get C (v := .int (nI (S.1 4))) fk_X0_18 4 dX0_append_52 (pc' := 55) rfl rfl rfl ?_
    refine yy_iconst C (v := (nI 1)) dX0_append_55 (pc' := 56) rfl (by decide) ?_
    refine yy_iadd C (v := (nI ((S.1 4) + 1))) dX0_append_56 (pc' := 57) rfl (nI_add (S.1 4) 1) ?_
    refine yy_put C (w' := wA G ad (sN (sJ (sJ S 1 (vp_updL (S.2.2 1) (S.1 4) (lN ((2 ^ a) ||| (2 ^ b))))) 2 (vp_updL (S.2.2 2) (S.1 4) (lN (2 ^ t)))) 4 ((S.1 4) + 1)) ++ F) fk_X0_18 fpX0 rfl 4 dX0_append_57 (pc' := 60) rfl rfl rfl rfl (Nat.le_of_ble_eq_true rfl) rfl ?_
    refine yy_aload_n C 0 dX0_append_60 (pc' := 61) rfl rfl rfl ?_
    refine yy_get C (v := .int (nI ((S.1 4) + 1))) fk_X0_18 4 dX0_append_61 (pc' := 64) rfl rfl rfl ?_
    refine yy_iconst C (v := (nI 1)) dX0_append_64 (pc' := 65) rfl (by decide) ?_
    refine yy_isub C (v := (nI (S.1 4))) dX0_append_65 (pc' := 66) rfl (pk_sub (a := (S.1 4) + 1) (b := 1) (by omega)) ?_
    subst hQ
    exact xe_i C hr (vp_nar_int _) () dX0_append_66 rfl (by decide) (by decide) ⟨by omega, rfl⟩
  · skip
    subst hQ
    exact xe_throwS C hl0 th_X0_22_26 hno (is := 24) (text := "there are 10 joins") (by decide +kernel) dX0_append_9 dX0_append_12 dX0_append_13 dX0_append_15 dX0_append_18 () rfl ⟨rfl, by omega⟩ (by decide) (by decide) (by decide) (by decide) (by decide) (by decide)

abbrev rX3_append : Room := { frames := 6, cells := 1, slots := 6, locals := 92 }
set_option maxHeartbeats 4000000 in
set_option maxRecDepth 100000 in
theorem mX3_append (l : Launch) (hl0 : l.stackTraces = false) (G : gG) (B0 : Nat) (ad : Nat → Nat) (F : va_W) (S : SA) (a d : Int32) (t : Nat) (hI : IA S) : vy_Met l yX3_append (Cond.code yX3_append cX3_append 4 (some .int) :: WG) rX3_append (va_Pc [.ref (ad 6), .int a, .int d, .int (nI t)] (PR G B0 (wA G ad S ++ F))) (va_Qi (fun (r : Int32) (_ : Unit) => S.1 6 < 20 ∧ r = nI (S.1 6)) (fun (_ : Unit) (t_ : State) => va_P G.1 vwCl (wA G ad (sN (sI (sI (sI (sI S 15 (upd (S.2.1 15) (S.1 6) a)) 16 (upd (S.2.1 16) (S.1 6) d)) 17 (upd (S.2.1 17) (S.1 6) (nI 119))) 18 (upd (S.2.1 18) (S.1 6) (nI t))) 6 (S.1 6 + 1)) ++ F) t_.heap ∧ va_D (fun q => B0 ≤ q) (wA G ad (sN (sI (sI (sI (sI S 15 (upd (S.2.1 15) (S.1 6) a)) 16 (upd (S.2.1 16) (S.1 6) d)) 17 (upd (S.2.1 17) (S.1 6) (nI 119))) 18 (upd (S.2.1 18) (S.1 6) (nI t))) 6 (S.1 6 + 1)) ++ F)) (fun q => B0 ≤ q)) (vx_X (fun _ : Unit => True) (fun (E : String) (_ : Unit) (t_ : State) => (E = "java/lang/IllegalStateException" ∧ S.1 6 = 20) ∧ va_P G.1 vwCl (wA G ad S ++ F) t_.heap ∧ va_D (fun q => B0 ≤ q) (wA G ad S ++ F)) (fun q => B0 ≤ q)) rX3_append.cells rX3_append.slots (fun q => B0 ≤ q) := by
  refine xmet_of RX3 [(0, .ref (ad 6)), (1, .int a), (2, .int d), (3, .int (nI t))] rfl (by decide) (Nat.le_of_ble_eq_true rfl) rfl ?_
  intro p e s m args below meth c C hr hnm hno
  refine yq ?_
  intro QQ hQ
  obtain ⟨i0, i1, i2, i3, i4, i5, i6, i7, i8, iJ, iH, iG, iQ⟩ := id hI
  refine yy_aload_n C 0 dX3_append_0 (pc' := 1) rfl rfl rfl ?_
  refine yy_get C (v := .int (nI (S.1 6))) fk_X3_25 6 dX3_append_1 (pc' := 4) rfl rfl rfl ?_
  refine yy_bipush C (v := (nI 20)) dX3_append_4 (pc' := 6) rfl (by decide) ?_
  refine yn_icmp_lt C (by omega) (by decide) dX3_append_6 (pc' := 9) rfl (tgt := 19) (by decide) (fun c_6 => ?_) (fun c_6 => ?_)
  · skip
    refine yy_aload_n C 0 dX3_append_19 (pc' := 20) rfl rfl rfl ?_
    refine yy_get C (v := .ref (ad 24)) fk_X3_9 6 dX3_append_20 (pc' := 23) rfl rfl rfl ?_
    refine yy_aload_n C 0 dX3_append_23 (pc' := 24) rfl rfl rfl ?_
    refine yy_get C (v := .int (nI (S.1 6))) fk_X3_25 6 dX3_append_24 (pc' := 27) rfl rfl rfl ?_
    refine yy_iload_n C 1 dX3_append_27 (pc' := 28) rfl rfl rfl ?_
    refine yy_iast C (w' := wA G ad (sI S 15 (upd (S.2.1 15) (S.1 6) a)) ++ F) 24 dX3_append_28 (pc' := 29) rfl rfl (by omega) (by decide) rfl ?_
    refine yy_aload_n C 0 dX3_append_29 (pc' := 30) rfl rfl rfl ?_
    refine yy_get C (v := .ref (ad 25)) fk_X3_15 6 dX3_append_30 (pc' := 33) rfl rfl rfl ?_
    refine yy_aload_n C 0 dX3_append_33 (pc' := 34) rfl rfl rfl ?_
    refine yy_get C (v := .int (nI (S.1 6))) fk_X3_25 6 dX3_append_34 (pc' := 37) rfl rfl rfl ?_
    refine yy_iload_n C 2 dX3_append_37 (pc' := 38) rfl rfl rfl ?_
    refine yy_iast C (w' := wA G ad (sI (sI S 15 (upd (S.2.1 15) (S.1 6) a)) 16 (upd (S.2.1 16) (S.1 6) d)) ++ F) 25 dX3_append_38 (pc' := 39) rfl rfl (by omega) (by decide) rfl ?_
    refine yy_aload_n C 0 dX3_append_39 (pc' := 40) rfl rfl rfl ?_
    refine yy_get C (v := .ref (ad 26)) fk_X3_18 6 dX3_append_40 (pc' := 43) rfl rfl rfl ?_
    refine yy_aload_n C 0 dX3_append_43 (pc' := 44) rfl rfl rfl ?_
    refine yy_get C (v := .int (nI (S.1 6))) fk_X3_25 6 dX3_append_44 (pc' := 47) rfl rfl rfl ?_
    refine yy_bipush C (v := (nI 119)) dX3_append_47 (pc' := 49) rfl (by decide) ?_
    refine yy_cast C (w' := wA G ad (sI (sI (sI S 15 (upd (S.2.1 15) (S.1 6) a)) 16 (upd (S.2.1 16) (S.1 6) d)) 17 (upd (S.2.1 17) (S.1 6) (nI 119))) ++ F) 26 dX3_append_49 (pc' := 50) rfl rfl (by omega) (by decide) rfl rfl ?_
    refine yy_aload_n C 0 dX3_append_50 (pc' := 51) rfl rfl rfl ?_
    refine yy_get C (v := .ref (ad 27)) fk_X3_22 6 dX3_append_51 (pc' := 54) rfl rfl rfl ?_
    refine yy_aload_n C 0 dX3_append_54 (pc' := 55) rfl rfl rfl ?_
    refine yy_get C (v := .int (nI (S.1 6))) fk_X3_25 6 dX3_append_55 (pc' := 58) rfl rfl rfl ?_
    refine yy_iload_n C 3 dX3_append_58 (pc' := 59) rfl rfl rfl ?_
    refine yy_iast C (w' := wA G ad (sI (sI (sI (sI S 15 (upd (S.2.1 15) (S.1 6) a)) 16 (upd (S.2.1 16) (S.1 6) d)) 17 (upd (S.2.1 17) (S.1 6) (nI 119))) 18 (upd (S.2.1 18) (S.1 6) (nI t))) ++ F) 27 dX3_append_59 (pc' := 60) rfl rfl (by omega) (by decide) rfl ?_
    refine yy_aload_n C 0 dX3_append_60 (pc' := 61) rfl rfl rfl ?_
    refine yy_dup C dX3_append_61 (pc' := 62) rfl rfl ?_
    refine yy_get C (v := .int (nI (S.1 6))) fk_X3_25 6 dX3_append_62 (pc' := 65) rfl rfl rfl ?_
    refine yy_iconst C (v := (nI 1)) dX3_append_65 (pc' := 66) rfl (by decide) ?_
    refine yy_iadd C (v := (nI ((S.1 6) + 1))) dX3_append_66 (pc' := 67) rfl (nI_add (S.1 6) 1) ?_
    refine yy_put C (w' := wA G ad (sN (sI (sI (sI (sI S 15 (upd (S.2.1 15) (S.1 6) a)) 16 (upd (S.2.1 16) (S.1 6) d)) 17 (upd (S.2.1 17) (S.1 6) (nI 119))) 18 (upd (S.2.1 18) (S.1 6) (nI t))) 6 ((S.1 6) + 1)) ++ F) fk_X3_25 fpX3 rfl 6 dX3_append_67 (pc' := 70) rfl rfl rfl rfl (Nat.le_of_ble_eq_true rfl) rfl ?_
    refine yy_aload_n C 0 dX3_append_70 (pc' := 71) rfl rfl rfl ?_
    refine yy_get C (v := .int (nI ((S.1 6) + 1))) fk_X3_25 6 dX3_append_71 (pc' := 74) rfl rfl rfl ?_
    refine yy_iconst C (v := (nI 1)) dX3_append_74 (pc' := 75) rfl (by decide) ?_
    refine yy_isub C (v := (nI (S.1 6))) dX3_append_75 (pc' := 76) rfl (pk_sub (a := (S.1 6) + 1) (b := 1) (by omega)) ?_
    subst hQ
    exact xe_i C hr (vp_nar_int _) () dX3_append_76 rfl (by decide) (by decide) ⟨by omega, rfl⟩
  · skip
    subst hQ
    exact xe_throwS C hl0 th_X3_29_33 hno (is := 31) (text := "there are 20 requests") (by decide +kernel) dX3_append_9 dX3_append_12 dX3_append_13 dX3_append_15 dX3_append_18 () rfl ⟨rfl, by omega⟩ (by decide) (by decide) (by decide) (by decide) (by decide) (by decide)

abbrev rX2_append : Room := { frames := 0, cells := 0, slots := 0, locals := 0 }
set_option maxHeartbeats 4000000 in
set_option maxRecDepth 100000 in
theorem mX2_append (l : Launch) (G : gG) (B0 : Nat) (ad : Nat → Nat) (F : va_W) (S : SA) (a k : Nat) (hg : S.1 5 < 200) (hI : IA S) : Met l yX2_append (Cond.code yX2_append cX2_append 3 none :: WG) rX2_append (va_Pc [.ref (ad 5), .int (nI a), .int (nI k)] (PR G B0 (wA G ad S ++ F))) (va_Qv (fun (_ : Unit) => True) (fun (_ : Unit) (t_ : State) => va_P G.1 vwCl (wA G ad (sN (sI (sI S 13 (upd (S.2.1 13) (S.1 5) (nI a))) 14 (upd (S.2.1 14) (S.1 5) (nI k))) 5 (S.1 5 + 1)) ++ F) t_.heap ∧ va_D (fun q => B0 ≤ q) (wA G ad (sN (sI (sI S 13 (upd (S.2.1 13) (S.1 5) (nI a))) 14 (upd (S.2.1 14) (S.1 5) (nI k))) 5 (S.1 5 + 1)) ++ F)) (fun q => B0 ≤ q)) rX2_append.cells rX2_append.slots (fun q => B0 ≤ q) := by
  refine met_of RX2 [(0, .ref (ad 5)), (1, .int (nI a)), (2, .int (nI k))] rfl (by decide) (Nat.le_of_ble_eq_true rfl) rfl ?_
  intro p e s m args below meth c C hr hnm
  refine yq ?_
  intro QQ hQ
  obtain ⟨i0, i1, i2, i3, i4, i5, i6, i7, i8, iJ, iH, iG, iQ⟩ := id hI
  refine yy_aload_n C 0 dX2_append_0 (pc' := 1) rfl rfl rfl ?_
  refine yy_get C (v := .int (nI (S.1 5))) fk_X2_18 5 dX2_append_1 (pc' := 4) rfl rfl rfl ?_
  refine yy_sipush C (v := (nI 200)) dX2_append_4 (pc' := 7) rfl (by decide) ?_
  refine yn_icmp_lt C (by omega) (by decide) dX2_append_7 (pc' := 10) rfl (tgt := 11) (by decide) (fun c_7 => ?_) (fun c_7 => ?_)
  · skip
    refine yy_aload_n C 0 dX2_append_11 (pc' := 12) rfl rfl rfl ?_
    refine yy_get C (v := .ref (ad 22)) fk_X2_9 5 dX2_append_12 (pc' := 15) rfl rfl rfl ?_
    refine yy_aload_n C 0 dX2_append_15 (pc' := 16) rfl rfl rfl ?_
    refine yy_get C (v := .int (nI (S.1 5))) fk_X2_18 5 dX2_append_16 (pc' := 19) rfl rfl rfl ?_
    refine yy_iload_n C 1 dX2_append_19 (pc' := 20) rfl rfl rfl ?_
    refine yy_iast C (w' := wA G ad (sI S 13 (upd (S.2.1 13) (S.1 5) (nI a))) ++ F) 22 dX2_append_20 (pc' := 21) rfl rfl (by omega) (by decide) rfl ?_
    refine yy_aload_n C 0 dX2_append_21 (pc' := 22) rfl rfl rfl ?_
    refine yy_get C (v := .ref (ad 23)) fk_X2_15 5 dX2_append_22 (pc' := 25) rfl rfl rfl ?_
    refine yy_aload_n C 0 dX2_append_25 (pc' := 26) rfl rfl rfl ?_
    refine yy_get C (v := .int (nI (S.1 5))) fk_X2_18 5 dX2_append_26 (pc' := 29) rfl rfl rfl ?_
    refine yy_iload_n C 2 dX2_append_29 (pc' := 30) rfl rfl rfl ?_
    refine yy_iast C (w' := wA G ad (sI (sI S 13 (upd (S.2.1 13) (S.1 5) (nI a))) 14 (upd (S.2.1 14) (S.1 5) (nI k))) ++ F) 23 dX2_append_30 (pc' := 31) rfl rfl (by omega) (by decide) rfl ?_
    refine yy_aload_n C 0 dX2_append_31 (pc' := 32) rfl rfl rfl ?_
    refine yy_dup C dX2_append_32 (pc' := 33) rfl rfl ?_
    refine yy_get C (v := .int (nI (S.1 5))) fk_X2_18 5 dX2_append_33 (pc' := 36) rfl rfl rfl ?_
    refine yy_iconst C (v := (nI 1)) dX2_append_36 (pc' := 37) rfl (by decide) ?_
    refine yy_iadd C (v := (nI ((S.1 5) + 1))) dX2_append_37 (pc' := 38) rfl (nI_add (S.1 5) 1) ?_
    refine yy_put C (w' := wA G ad (sN (sI (sI S 13 (upd (S.2.1 13) (S.1 5) (nI a))) 14 (upd (S.2.1 14) (S.1 5) (nI k))) 5 ((S.1 5) + 1)) ++ F) fk_X2_18 fpX2 rfl 5 dX2_append_38 (pc' := 41) rfl rfl rfl rfl (Nat.le_of_ble_eq_true rfl) rfl ?_
    subst hQ
    exact ye_v C hr () dX2_append_41 rfl (by decide) (by decide) trivial
  · skip
    exact absurd hg c_7

abbrev rX6_growAllHeld : Room := { frames := 2, cells := 0, slots := 0, locals := 52 }
set_option maxHeartbeats 4000000 in
set_option maxRecDepth 100000 in
theorem mX6_growAllHeld (l : Launch) (G : gG) (B0 : Nat) (ad : Nat → Nat) (F : va_W) (S : SA) (hI : IA S) : Met l yX6_growAllHeld (Cond.code yX6_growAllHeld cX6_growAllHeld 2 none :: WG) rX6_growAllHeld (va_Pc [.ref (ad 0)] (PR G B0 (wA G ad S ++ F))) (va_Qv (fun (_ : Unit) => True) (fun (_ : Unit) (t_ : State) => va_P G.1 vwCl (wA G ad (grS S 5) ++ F) t_.heap ∧ va_D (fun q => B0 ≤ q) (wA G ad (grS S 5) ++ F)) (fun q => B0 ≤ q)) rX6_growAllHeld.cells rX6_growAllHeld.slots (fun q => B0 ≤ q) := by
  refine met_of RX6 [(0, .ref (ad 0))] rfl (by decide) (Nat.le_of_ble_eq_true rfl) rfl ?_
  intro p e s m args below meth c C hr hnm
  refine yq ?_
  intro QQ hQ
  obtain ⟨i0, i1, i2, i3, i4, i5, i6, i7, i8, iJ, iH, iG, iQ⟩ := id hI
  refine yy_iconst C (v := (nI 0)) dX6_growAllHeld_0 (pc' := 1) rfl (by decide) ?_
  refine yy_istore_n C (L' := [(1, .int (nI 0)), (0, .ref (ad 0))]) dX6_growAllHeld_1 (pc' := 2) rfl rfl (by decide) rfl ?_
  have lp_2 : ∀ (f_ : Nat) (i : Nat), (hi : i ≤ 5) → 5 - i < f_ → YY p l e rX6_growAllHeld s m args below meth c G B0 2 QQ 2 [(1, .int (nI i)), (0, .ref (ad 0))] [] (wA G ad (grS S i) ++ F) 0 0 := by
    intro f_
    induction f_ with
    | zero => intro i hi hf_; exact absurd hf_ (Nat.not_lt_zero _)
    | succ f_ ih =>
      intro i hi hf_
      refine yy_iload_n C 0 dX6_growAllHeld_2 (pc' := 3) rfl rfl rfl ?_
      refine yy_iconst C (v := (nI 5)) dX6_growAllHeld_3 (pc' := 4) rfl (by decide) ?_
      refine yn_icmp_ge C (by omega) (by decide) dX6_growAllHeld_4 (pc' := 7) rfl (tgt := 32) (by decide) (fun c_4 => ?_) (fun c_4 => ?_)
      · skip
        obtain rfl : i = 5 := by omega
        subst hQ
        exact ye_v C hr () dX6_growAllHeld_32 rfl (by decide) (by decide) trivial
      · skip
        have hIi := IA_gr hI i hi
        obtain ⟨g0, g1, g2, g3, g4, g5, g6, g7, g8, gJ, gH, gG, gQ⟩ := id hIi
        refine yy_aload_n C 1 dX6_growAllHeld_7 (pc' := 8) rfl rfl rfl ?_
        refine yy_get C (v := .ref (ad 7)) fk_X6_51 0 dX6_growAllHeld_8 (pc' := 11) rfl rfl rfl ?_
        refine yy_iload_n C 0 dX6_growAllHeld_11 (pc' := 12) rfl rfl rfl ?_
        refine yy_aload_n C 1 dX6_growAllHeld_12 (pc' := 13) rfl rfl rfl ?_
        refine yy_get C (v := .ref (ad 4)) fk_X6_33 0 dX6_growAllHeld_13 (pc' := 16) rfl rfl rfl ?_
        refine yy_aload_n C 1 dX6_growAllHeld_16 (pc' := 17) rfl rfl rfl ?_
        refine yy_get C (v := .ref (ad 7)) fk_X6_51 0 dX6_growAllHeld_17 (pc' := 20) rfl rfl rfl ?_
        refine yy_iload_n C 0 dX6_growAllHeld_20 (pc' := 21) rfl rfl rfl ?_
        refine yy_lald C 7 dX6_growAllHeld_21 (pc' := 22) rfl rfl (by omega) (by decide) ?_
        refine yy_mk ?_
        refine yc_l (yr_V C (As := [.long (lN (mk (((grS S i).2.2 0) i)))]) (rest := [.int (nI i), .ref (ad 7)]) lk_X6_157 cd_X0_closure im_X0_closure se_X0_closure (mX0_closure l G B0 ad F (grS S i) ((mk (((grS S i).2.2 0) i))) (gH i (by omega)) hIi) ⟨by decide, by decide⟩ ⟨by decide, by decide⟩ 4 rfl rfl rfl rfl (Nat.le_of_ble_eq_true rfl) dX6_growAllHeld_22) (pc' := 25) rfl (fun r1 _ hw1 => ?_)
        subst hw1
        refine yy_last C (w' := wA G ad (sJ (grS S i) 0 (vp_updL ((grS S i).2.2 0) i (lN (cloA (grS S i) (mk (((grS S i).2.2 0) i)))))) ++ F) 7 dX6_growAllHeld_25 (pc' := 26) rfl rfl (by omega) (by decide) rfl ?_
        refine yy_iinc C (v := (nI (i + 1))) (L' := [(1, .int (nI (i + 1))), (0, .ref (ad 0))]) 0 dX6_growAllHeld_26 (pc' := 29) rfl rfl (nI_add i 1) (by decide) rfl ?_
        refine yy_goto C (tgt := 2) dX6_growAllHeld_29 (by decide) ?_
        refine yy_loc [0, 1] rfl ?_
        exact ih (i + 1) (by omega) (by omega)
  refine yy_loc (L' := [(1, .int (nI 0)), (0, .ref (ad 0))]) [0, 1] rfl ?_
  exact lp_2 (5 - 0 + 1) 0 (Nat.zero_le _) (by omega)

abbrev rX6_give : Room := { frames := 2, cells := 0, slots := 0, locals := 52 }
set_option maxHeartbeats 4000000 in
set_option maxRecDepth 100000 in
theorem mX6_give (l : Launch) (G : gG) (B0 : Nat) (ad : Nat → Nat) (F : va_W) (S : SA) (a k : Nat) (ha : a < 5) (hk : k < 40) (hg : S.1 5 < 200) (hI : IA S) : Met l yX6_give (Cond.code yX6_give cX6_give 3 none :: WG) rX6_give (va_Pc [.ref (ad 0), .int (nI a), .int (nI k)] (PR G B0 (wA G ad S ++ F))) (va_Qv (fun (_ : Unit) => True) (fun (_ : Unit) (t_ : State) => va_P G.1 vwCl (wA G ad (giS S a k) ++ F) t_.heap ∧ va_D (fun q => B0 ≤ q) (wA G ad (giS S a k) ++ F)) (fun q => B0 ≤ q)) rX6_give.cells rX6_give.slots (fun q => B0 ≤ q) := by
  refine met_of RX6 [(0, .ref (ad 0)), (1, .int (nI a)), (2, .int (nI k))] rfl (by decide) (Nat.le_of_ble_eq_true rfl) rfl ?_
  intro p e s m args below meth c C hr hnm
  refine yq ?_
  intro QQ hQ
  obtain ⟨i0, i1, i2, i3, i4, i5, i6, i7, i8, iJ, iH, iG, iQ⟩ := id hI
  have hI2 : IA (lgS S a k) := ⟨i0, i1, i2, i3, i4, (show S.1 5 + 1 ≤ 200 by omega), i6, i7, i8, iJ, iH, ix_up (P := fun j y => j < S.1 5 + 1 → y < 40) (by omega) (fun _ => hk) (fun j h1 h2 => iG j (by omega)), iQ⟩
  refine yy_aload_n C 0 dX6_give_0 (pc' := 1) rfl rfl rfl ?_
  refine yy_get C (v := .ref (ad 5)) fk_X6_40 0 dX6_give_1 (pc' := 4) rfl rfl rfl ?_
  refine yy_iload_n C 1 dX6_give_4 (pc' := 5) rfl rfl rfl ?_
  refine yy_iload_n C 2 dX6_give_5 (pc' := 6) rfl rfl rfl ?_
  refine yc_v (yr_V C (As := [.int (nI a), .int (nI k)]) (rest := []) lk_X6_282 cd_X2_append im_X2_append se_X2_append (mX2_append l G B0 ad F (S) a k (by exact hg) (by exact hI)) ⟨by decide, by decide⟩ ⟨by decide, by decide⟩ 5 rfl rfl rfl rfl (Nat.le_of_ble_eq_true rfl) dX6_give_6) (pc' := 9) rfl (fun _ hw1 => ?_)
  refine yy_aload_n C 0 dX6_give_9 (pc' := 10) rfl rfl rfl ?_
  refine yy_get C (v := .ref (ad 7)) fk_X6_51 0 dX6_give_10 (pc' := 13) rfl rfl rfl ?_
  refine yy_iload_n C 1 dX6_give_13 (pc' := 14) rfl rfl rfl ?_
  refine yy_aload_n C 0 dX6_give_14 (pc' := 15) rfl rfl rfl ?_
  refine yy_get C (v := .ref (ad 4)) fk_X6_33 0 dX6_give_15 (pc' := 18) rfl rfl rfl ?_
  refine yy_aload_n C 0 dX6_give_18 (pc' := 19) rfl rfl rfl ?_
  refine yy_get C (v := .ref (ad 7)) fk_X6_51 0 dX6_give_19 (pc' := 22) rfl rfl rfl ?_
  refine yy_iload_n C 1 dX6_give_22 (pc' := 23) rfl rfl rfl ?_
  refine yy_lald C 7 dX6_give_23 (pc' := 24) rfl rfl (by omega) (by decide) ?_
  refine yy_mk ?_
  refine yy_iload_n C 2 dX6_give_24 (pc' := 25) rfl rfl rfl ?_
  refine yc_l (yr_S C (As := [.int (nI k)]) (rest := [.long (lN (mk ((S.2.2 0) a))), .ref (ad 4), .int (nI a), .ref (ad 7)]) lk_X6_271 cd_X6_bitOf st_X6_bitOf (mX6_bitOf l G B0 (wA G ad (sN (sI (sI S 13 (upd (S.2.1 13) (S.1 5) (nI a))) 14 (upd (S.2.1 14) (S.1 5) (nI k))) 5 (S.1 5 + 1)) ++ F) k (by omega)) ⟨by decide, by decide⟩ ⟨by decide, by decide⟩ rfl rfl (Nat.le_of_ble_eq_true rfl) dX6_give_25) (pc' := 28) rfl (fun r2 _ hw2 => ?_)
  subst hw2
  refine yy_lor C (v := (lN ((mk ((S.2.2 0) a)) ||| (2 ^ k)))) dX6_give_28 (pc' := 29) rfl (fb_orL (mk ((S.2.2 0) a)) (2 ^ k)) ?_
  refine yc_l (yr_V C (As := [.long (lN ((mk ((S.2.2 0) a)) ||| (2 ^ k)))]) (rest := [.int (nI a), .ref (ad 7)]) lk_X6_157 cd_X0_closure im_X0_closure se_X0_closure (mX0_closure l G B0 ad F (sN (sI (sI S 13 (upd (S.2.1 13) (S.1 5) (nI a))) 14 (upd (S.2.1 14) (S.1 5) (nI k))) 5 (S.1 5 + 1)) (((mk ((S.2.2 0) a)) ||| (2 ^ k))) (Nat.or_lt_two_pow (iH a ha) (bit40 hk)) (by exact hI2)) ⟨by decide, by decide⟩ ⟨by decide, by decide⟩ 4 rfl rfl rfl rfl (Nat.le_of_ble_eq_true rfl) dX6_give_29) (pc' := 32) rfl (fun r3 _ hw3 => ?_)
  subst hw3
  refine yy_last C (w' := wA G ad (sN (sJ (sI (sI S 13 (upd (S.2.1 13) (S.1 5) (nI a))) 14 (upd (S.2.1 14) (S.1 5) (nI k))) 0 (vp_updL (S.2.2 0) a (lN (cloA (sN (sI (sI S 13 (upd (S.2.1 13) (S.1 5) (nI a))) 14 (upd (S.2.1 14) (S.1 5) (nI k))) 5 (S.1 5 + 1)) ((mk ((S.2.2 0) a)) ||| (2 ^ k)))))) 5 (S.1 5 + 1)) ++ F) 7 dX6_give_32 (pc' := 33) rfl rfl (by omega) (by decide) rfl ?_
  refine yy_aload_n C 0 dX6_give_33 (pc' := 34) rfl rfl rfl ?_
  refine yy_get C (v := .ref (ad 8)) fk_X6_55 0 dX6_give_34 (pc' := 37) rfl rfl rfl ?_
  refine yy_iload_n C 1 dX6_give_37 (pc' := 38) rfl rfl rfl ?_
  refine yy_dup2 C dX6_give_38 (pc' := 39) rfl rfl rfl ?_
  refine yy_iald C 8 dX6_give_39 (pc' := 40) rfl rfl (by omega) (by decide) ?_
  refine yy_aload_n C 0 dX6_give_40 (pc' := 41) rfl rfl rfl ?_
  refine yy_get C (v := .int (nI (S.1 8))) fk_X6_59 0 dX6_give_41 (pc' := 44) rfl rfl rfl ?_
  refine yy_iadd C (v := (((S.2.1 0) a) + (nI (S.1 8)))) dX6_give_44 (pc' := 45) rfl rfl ?_
  refine yy_iast C (w' := wA G ad (sN (sJ (sI (sI (sI S 0 (upd (S.2.1 0) a (((S.2.1 0) a) + (nI (S.1 8))))) 13 (upd (S.2.1 13) (S.1 5) (nI a))) 14 (upd (S.2.1 14) (S.1 5) (nI k))) 0 (vp_updL (S.2.2 0) a (lN (cloA (sN (sI (sI S 13 (upd (S.2.1 13) (S.1 5) (nI a))) 14 (upd (S.2.1 14) (S.1 5) (nI k))) 5 (S.1 5 + 1)) ((mk ((S.2.2 0) a)) ||| (2 ^ k)))))) 5 (S.1 5 + 1)) ++ F) 8 dX6_give_45 (pc' := 46) rfl rfl (by omega) (by decide) rfl ?_
  refine yy_aload_n C 0 dX6_give_46 (pc' := 47) rfl rfl rfl ?_
  refine yy_dup C dX6_give_47 (pc' := 48) rfl rfl ?_
  refine yy_get C (v := .long (lN (S.1 9))) fk_X6_232 0 dX6_give_48 (pc' := 51) rfl rfl rfl ?_
  refine yy_aload_n C 0 dX6_give_51 (pc' := 52) rfl rfl rfl ?_
  refine yy_get C (v := .int (nI (S.1 8))) fk_X6_59 0 dX6_give_52 (pc' := 55) rfl rfl rfl ?_
  refine yy_i2l C (v := (lN (S.1 8))) dX6_give_55 (pc' := 56) rfl (nI_l (by omega)) ?_
  refine yy_ladd C (v := (lN ((S.1 9) + (S.1 8)))) dX6_give_56 (pc' := 57) rfl (lN_add (S.1 9) (S.1 8)) ?_
  refine yy_put C (w' := wA G ad (sN (sN (sJ (sI (sI (sI S 0 (upd (S.2.1 0) a (((S.2.1 0) a) + (nI (S.1 8))))) 13 (upd (S.2.1 13) (S.1 5) (nI a))) 14 (upd (S.2.1 14) (S.1 5) (nI k))) 0 (vp_updL (S.2.2 0) a (lN (cloA (sN (sI (sI S 13 (upd (S.2.1 13) (S.1 5) (nI a))) 14 (upd (S.2.1 14) (S.1 5) (nI k))) 5 (S.1 5 + 1)) ((mk ((S.2.2 0) a)) ||| (2 ^ k)))))) 5 (S.1 5 + 1)) 9 ((S.1 9) + (S.1 8))) ++ F) fk_X6_232 fpX6 rfl 0 dX6_give_57 (pc' := 60) rfl rfl rfl rfl (Nat.le_of_ble_eq_true rfl) rfl ?_
  subst hQ
  exact ye_v C hr () dX6_give_60 rfl (by decide) (by decide) trivial
