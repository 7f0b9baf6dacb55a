theorem rule_ok {f g t : Int32} {d : Nat} (h1 : vOK f = true) (h2 : vOK g = true) (h3 : (!decide (g < f)) = true) (h4 : inB t (nI d) (nI 9999) = true) : (vOK f && inB g f (nI 9999) && inB t (nI d) (nI 9999)) = true := by
  simp only [vOK, inB, Bool.and_eq_true] at *
  exact ⟨⟨h1, h3, h2.2⟩, h4⟩
theorem rule_n1 {f g t : Int32} {d : Nat} (h : vOK f = false) : (vOK f && inB g f (nI 9999) && inB t (nI d) (nI 9999)) = false := by simp [h]
theorem rule_n2 {f g t : Int32} {d : Nat} (h1 : vOK f = true) (h : vOK g = false) : (vOK f && inB g f (nI 9999) && inB t (nI d) (nI 9999)) = false := by
  have h2 : inB g f (nI 9999) = false := by
    cases hc : inB g f (nI 9999)
    · rfl
    · exfalso
      simp only [vOK, inB, Bool.and_eq_true, Bool.not_eq_true', decide_eq_false_iff_not, Int32.not_lt] at h1 hc
      have h3 : vOK g = true := by
        simp only [vOK, inB, Bool.and_eq_true, Bool.not_eq_true', decide_eq_false_iff_not, Int32.not_lt]
        exact ⟨Int32.le_trans h1.1 hc.1, hc.2⟩
      rw [h3] at h
      cases h
  simp [h2]
theorem rule_n3 {f g t : Int32} {d : Nat} (h : (!decide (g < f)) = false) : (vOK f && inB g f (nI 9999) && inB t (nI d) (nI 9999)) = false := by simp [inB, h]
theorem rule_n4 {b : Bool} {t : Int32} {d : Nat} (h : inB t (nI d) (nI 9999) = false) : (b && inB t (nI d) (nI 9999)) = false := by simp [h]
theorem span_ok {f g t : Int32} {d : Nat} (h1 : inB f 0 (nI 39) = true) (h2 : inB g 0 (nI 39) = true) (h3 : (!decide (g < f)) = true) (h4 : inB t (nI d) (nI 9999) = true) : (inB f 0 (nI 39) && inB g f (nI 39) && inB t (nI d) (nI 9999)) = true := by
  simp only [inB, Bool.and_eq_true] at *
  exact ⟨⟨h1, h3, h2.2⟩, h4⟩
theorem span_n1 {f g t : Int32} {d : Nat} (h : inB f 0 (nI 39) = false) : (inB f 0 (nI 39) && inB g f (nI 39) && inB t (nI d) (nI 9999)) = false := by simp [h]
theorem span_n2 {f g t : Int32} {d : Nat} (h1 : inB f 0 (nI 39) = true) (h : inB g 0 (nI 39) = false) : (inB f 0 (nI 39) && inB g f (nI 39) && inB t (nI d) (nI 9999)) = false := by
  have h2 : inB g f (nI 39) = false := by
    cases hc : inB g f (nI 39)
    · rfl
    · exfalso
      simp only [inB, Bool.and_eq_true, Bool.not_eq_true', decide_eq_false_iff_not, Int32.not_lt] at h1 hc
      have h3 : inB g 0 (nI 39) = true := by
        simp only [inB, Bool.and_eq_true, Bool.not_eq_true', decide_eq_false_iff_not, Int32.not_lt]
        exact ⟨Int32.le_trans h1.1 hc.1, hc.2⟩
      rw [h3] at h
      cases h
  simp [h2]
theorem span_n3 {f g t : Int32} {d : Nat} (h : (!decide (g < f)) = false) : (inB f 0 (nI 39) && inB g f (nI 39) && inB t (nI d) (nI 9999)) = false := by simp [inB, h]
theorem join_ne {a b t n : Nat} (h1 : ¬ a = b) (h2 : ¬ a = t) (h3 : ¬ b = t) (ha : a < n) (hb : b < n) (ht : t < n) (hn : n ≤ 40) : ¬ nI a = nI b ∧ ¬ nI a = nI t ∧ ¬ nI b = nI t := ⟨fun h => h1 ((nI_eq (by omega) (by omega)).mp h), fun h => h2 ((nI_eq (by omega) (by omega)).mp h), fun h => h3 ((nI_eq (by omega) (by omega)).mp h)⟩
theorem IA_jn {S : SA} (hI : IA S) {a b t : Nat} (hj : S.1 4 < 10) (ha : a < 40) (hb : b < 40) (ht : t < 40) : IA (jnS S a b t) := by
  obtain ⟨i0, i1, i2, i3, i4, i5, i6, i7, i8, iJ, iH, iG, iQ⟩ := hI
  refine ⟨i0, i1, i2, i3, ?_, i5, i6, i7, i8, ?_, iH, iG, iQ⟩
  · show S.1 4 + 1 ≤ 10
    omega
  · intro j hj2
    have hj3 : j < S.1 4 + 1 := hj2
    have h1 : 2 ^ a ||| 2 ^ b < 2 ^ 40 := Nat.or_lt_two_pow (bit40 ha) (bit40 hb)
    exact ⟨mk_upL (P := fun j y => j < S.1 4 + 1 → y < 2 ^ 40) h1 (fun _ => h1) (fun j h4 h5 => (iJ j (by omega)).1) j hj3, mk_upL (P := fun j y => j < S.1 4 + 1 → y < 2 ^ 40) (bit40 ht) (fun _ => bit40 ht) (fun j h4 h5 => (iJ j (by omega)).2) j hj3⟩
abbrev rX6_addDocument : Room := { frames := 7, cells := 1, slots := 6, locals := 112 }
set_option maxHeartbeats 4000000 in
set_option maxRecDepth 100000 in
theorem mX6_addDocument (l : Launch) (hl0 : l.stackTraces = false) (G : gG) (B0 : Nat) (ad : Nat → Nat) (F : va_W) (S : SA) (hI : IA S) : vy_Met l yX6_addDocument (Cond.code yX6_addDocument cX6_addDocument 1 (some .int) :: WG) rX6_addDocument (va_Pc [.ref (ad 0)] (PR G B0 (wA G ad S ++ F))) (va_Qi (fun (r : Int32) (_ : Unit) => cdAddDoc (S.1 0) = 0 ∧ r = nI (S.1 0)) (fun (_ : Unit) (t_ : State) => va_P G.1 vwCl (wA G ad (sN S 0 (S.1 0 + 1)) ++ F) t_.heap ∧ va_D (fun q => B0 ≤ q) (wA G ad (sN S 0 (S.1 0 + 1)) ++ F)) (fun q => B0 ≤ q)) (vx_X (fun _ : Unit => True) (fun (E : String) (_ : Unit) (t_ : State) => (E = "java/lang/IllegalStateException" ∧ cdAddDoc (S.1 0) = 1) ∧ va_P G.1 vwCl (wA G ad S ++ F) t_.heap ∧ va_D (fun q => B0 ≤ q) (wA G ad S ++ F)) (fun q => B0 ≤ q)) rX6_addDocument.cells rX6_addDocument.slots (fun q => B0 ≤ q) := by
  refine xmet_of RX6 [(0, .ref (ad 0))] rfl (by decide) (Nat.le_of_ble_eq_true rfl) rfl ?_
  intro p e s m args below meth c C hr hnm hno
  refine yq ?_
  intro QQ hQ
  obtain ⟨i0, i1, i2, i3, i4, i5, i6, i7, i8, iJ, iH, iG, iQ⟩ := id hI
  refine yy_aload_n C 0 dX6_addDocument_0 (pc' := 1) rfl rfl rfl ?_
  refine yy_get C (v := .ref (ad 1)) fk_X6_12 0 dX6_addDocument_1 (pc' := 4) rfl rfl rfl ?_
  refine xc_i (xr_V C (As := []) (rest := []) lk_X6_63 cd_X1_appendDocument im_X1_appendDocument se_X1_appendDocument (mX1_appendDocument l hl0 G B0 ad F (S) (by exact hI)) ⟨by decide, by decide⟩ ⟨by decide, by decide⟩ 1 rfl rfl rfl rfl (Nat.le_of_ble_eq_true rfl) dX6_addDocument_4) (pc' := 7) rfl (fun E _ hw1 => ?_) (fun r1 _ hw1 => ?_)
  · skip
    subst hQ; exact xe_out C hno () rfl hw1 (by decide) (by decide)
  obtain ⟨zn1, rfl⟩ := hw1
  subst hQ
  exact xe_i C hr (vp_nar_int _) () dX6_addDocument_7 rfl (by decide) (by decide) ⟨zn1, rfl⟩

abbrev rX6_addLine : Room := { frames := 7, cells := 1, slots := 6, locals := 114 }
set_option maxHeartbeats 4000000 in
set_option maxRecDepth 100000 in
theorem mX6_addLine (l : Launch) (hl0 : l.stackTraces = false) (G : gG) (B0 : Nat) (ad : Nat → Nat) (F : va_W) (S : SA) (d v : Int32) (hI : IA S) : vy_Met l yX6_addLine (Cond.code yX6_addLine cX6_addLine 3 (some .int) :: WG) rX6_addLine (va_Pc [.ref (ad 0), .int d, .int v] (PR G B0 (wA G ad S ++ F))) (va_Qi (fun (r : Int32) (u : Nat) => cdAddLine (S.1 0) (S.1 1) d v = 0 ∧ d = nI u ∧ u < S.1 0 ∧ r = nI (S.1 1)) (fun (u : Nat) (t_ : State) => va_P G.1 vwCl (wA G ad (sN (sI (sI (sI (sI S 1 (upd (S.2.1 1) u ((S.2.1 1) u + nI 1))) 2 (upd (S.2.1 2) (S.1 1) (nI u))) 3 (upd (S.2.1 3) (S.1 1) ((S.2.1 1) u))) 4 (upd (S.2.1 4) (S.1 1) v)) 1 (S.1 1 + 1)) ++ F) t_.heap ∧ va_D (fun q => B0 ≤ q) (wA G ad (sN (sI (sI (sI (sI S 1 (upd (S.2.1 1) u ((S.2.1 1) u + nI 1))) 2 (upd (S.2.1 2) (S.1 1) (nI u))) 3 (upd (S.2.1 3) (S.1 1) ((S.2.1 1) u))) 4 (upd (S.2.1 4) (S.1 1) v)) 1 (S.1 1 + 1)) ++ F)) (fun q => B0 ≤ q)) (vx_X (fun _ : Unit => True) (fun (E : String) (_ : Unit) (t_ : State) => ((E = "java/lang/IndexOutOfBoundsException" ∧ cdAddLine (S.1 0) (S.1 1) d v = 1) ∨ (E = "java/lang/IllegalArgumentException" ∧ cdAddLine (S.1 0) (S.1 1) d v = 2) ∨ (E = "java/lang/IllegalStateException" ∧ cdAddLine (S.1 0) (S.1 1) d v = 3)) ∧ va_P G.1 vwCl (wA G ad S ++ F) t_.heap ∧ va_D (fun q => B0 ≤ q) (wA G ad S ++ F)) (fun q => B0 ≤ q)) rX6_addLine.cells rX6_addLine.slots (fun q => B0 ≤ q) := by
  refine xmet_of RX6 [(0, .ref (ad 0)), (1, .int d), (2, .int v)] rfl (by decide) (Nat.le_of_ble_eq_true rfl) rfl ?_
  intro p e s m args below meth c C hr hnm hno
  refine yq ?_
  intro QQ hQ
  obtain ⟨i0, i1, i2, i3, i4, i5, i6, i7, i8, iJ, iH, iG, iQ⟩ := id hI
  refine yy_aload_n C 0 dX6_addLine_0 (pc' := 1) rfl rfl rfl ?_
  refine yy_iload_n C 1 dX6_addLine_1 (pc' := 2) rfl rfl rfl ?_
  refine xc_v (xr_V C (As := [.int d]) (rest := []) lk_X6_67 cd_X6_requireDocument im_X6_requireDocument se_X6_requireDocument (mX6_requireDocument l hl0 G B0 ad F (S) d (by exact hI)) ⟨by decide, by decide⟩ ⟨by decide, by decide⟩ 0 rfl rfl rfl rfl (Nat.le_of_ble_eq_true rfl) dX6_addLine_2) (pc' := 5) rfl (fun E _ hw1 => ?_) (fun _ hw1 => ?_)
  · skip
    obtain ⟨rfl, hx_⟩ := hw1
    subst hQ; exact xe_out C hno () rfl (by simp [hx_, cdAddLine]) (by decide) (by decide)
  have zn1 := hw1
  obtain ⟨jd, hjd, rfl⟩ := inR_of (by omega) zn1
  have ejd : ix (nI jd) = jd := ix_lt hjd (by omega)
  refine yy_iload_n C 2 dX6_addLine_5 (pc' := 6) rfl rfl rfl ?_
  refine xc_v (xr_S C (As := [.int v]) (rest := []) lk_X6_71 cd_X6_requireValue st_X6_requireValue (mX6_requireValue l hl0 G B0 (wA G ad S ++ F) v) ⟨by decide, by decide⟩ ⟨by decide, by decide⟩ rfl rfl (Nat.le_of_ble_eq_true rfl) dX6_addLine_6) (pc' := 9) rfl (fun E _ hw2 => ?_) (fun _ hw2 => ?_)
  · skip
    obtain ⟨rfl, hx_⟩ := hw2
    subst hQ; exact xe_out C hno () rfl (by simp [hx_, cdAddLine, zn1, ejd]) (by decide) (by decide)
  have zn2 := hw2
  refine yy_aload_n C 0 dX6_addLine_9 (pc' := 10) rfl rfl rfl ?_
  refine yy_get C (v := .ref (ad 1)) fk_X6_12 0 dX6_addLine_10 (pc' := 13) rfl rfl rfl ?_
  refine yy_iload_n C 1 dX6_addLine_13 (pc' := 14) rfl rfl rfl ?_
  refine yy_iload_n C 2 dX6_addLine_14 (pc' := 15) rfl rfl rfl ?_
  refine xc_i (xr_V C (As := [.int (nI jd), .int v]) (rest := []) lk_X6_74 cd_X1_append im_X1_append se_X1_append (mX1_append l hl0 G B0 ad F (S) jd v (by omega) (by exact hI)) ⟨by decide, by decide⟩ ⟨by decide, by decide⟩ 1 rfl rfl rfl rfl (Nat.le_of_ble_eq_true rfl) dX6_addLine_15) (pc' := 18) rfl (fun E _ hw3 => ?_) (fun r3 _ hw3 => ?_)
  · skip
    obtain ⟨rfl, hx_⟩ := hw3
    subst hQ; exact xe_out C hno () rfl (by simp [hx_, cdAddLine, zn1, ejd, zn2]) (by decide) (by decide)
  obtain ⟨zn3, rfl⟩ := hw3
  subst hQ
  exact xe_i C hr (vp_nar_int _) jd dX6_addLine_18 rfl (by decide) (by decide) ⟨by simp [cdAddLine, zn1, ejd, zn2, zn3]; omega, rfl, hjd, rfl⟩

abbrev rX6_rescan : Room := { frames := 7, cells := 1, slots := 6, locals := 113 }
set_option maxHeartbeats 4000000 in
set_option maxRecDepth 100000 in
theorem mX6_rescan (l : Launch) (hl0 : l.stackTraces = false) (G : gG) (B0 : Nat) (ad : Nat → Nat) (F : va_W) (S : SA) (x v : Int32) (hI : IA S) : vy_Met l yX6_rescan (Cond.code yX6_rescan cX6_rescan 4 (some .int) :: WG) rX6_rescan (va_Pc [.ref (ad 0), .int x, .int v] (PR G B0 (wA G ad S ++ F))) (va_Qi (fun (r : Int32) (u : Nat) => cdRescan (S.1 1) x v = 0 ∧ x = nI u ∧ u < S.1 1 ∧ r = S.2.1 4 u) (fun (u : Nat) (t_ : State) => va_P G.1 vwCl (wA G ad (sI S 4 (upd (S.2.1 4) u v)) ++ F) t_.heap ∧ va_D (fun q => B0 ≤ q) (wA G ad (sI S 4 (upd (S.2.1 4) u v)) ++ F)) (fun q => B0 ≤ q)) (vx_X (fun _ : Unit => True) (fun (E : String) (_ : Unit) (t_ : State) => ((E = "java/lang/IndexOutOfBoundsException" ∧ cdRescan (S.1 1) x v = 1) ∨ (E = "java/lang/IllegalArgumentException" ∧ cdRescan (S.1 1) x v = 2)) ∧ va_P G.1 vwCl (wA G ad S ++ F) t_.heap ∧ va_D (fun q => B0 ≤ q) (wA G ad S ++ F)) (fun q => B0 ≤ q)) rX6_rescan.cells rX6_rescan.slots (fun q => B0 ≤ q) := by
  refine xmet_of RX6 [(0, .ref (ad 0)), (1, .int x), (2, .int v)] rfl (by decide) (Nat.le_of_ble_eq_true rfl) rfl ?_
  intro p e s m args below meth c C hr hnm hno
  refine yq ?_
  intro QQ hQ
  obtain ⟨i0, i1, i2, i3, i4, i5, i6, i7, i8, iJ, iH, iG, iQ⟩ := id hI
  refine yy_aload_n C 0 dX6_rescan_0 (pc' := 1) rfl rfl rfl ?_
  refine yy_iload_n C 1 dX6_rescan_1 (pc' := 2) rfl rfl rfl ?_
  refine xc_v (xr_V C (As := [.int x]) (rest := []) lk_X6_78 cd_X6_requireLine im_X6_requireLine se_X6_requireLine (mX6_requireLine l hl0 G B0 ad F (S) x (by exact hI)) ⟨by decide, by decide⟩ ⟨by decide, by decide⟩ 0 rfl rfl rfl rfl (Nat.le_of_ble_eq_true rfl) dX6_rescan_2) (pc' := 5) rfl (fun E _ hw1 => ?_) (fun _ hw1 => ?_)
  · skip
    obtain ⟨rfl, hx_⟩ := hw1
    subst hQ; exact xe_out C hno () rfl (by simp [hx_, cdRescan]) (by decide) (by decide)
  have zn1 := hw1
  obtain ⟨jx, hjx, rfl⟩ := inR_of (by omega) zn1
  have ejx : ix (nI jx) = jx := ix_lt hjx (by omega)
  refine yy_iload_n C 2 dX6_rescan_5 (pc' := 6) rfl rfl rfl ?_
  refine xc_v (xr_S C (As := [.int v]) (rest := []) lk_X6_71 cd_X6_requireValue st_X6_requireValue (mX6_requireValue l hl0 G B0 (wA G ad S ++ F) v) ⟨by decide, by decide⟩ ⟨by decide, by decide⟩ rfl rfl (Nat.le_of_ble_eq_true rfl) dX6_rescan_6) (pc' := 9) rfl (fun E _ hw2 => ?_) (fun _ hw2 => ?_)
  · skip
    obtain ⟨rfl, hx_⟩ := hw2
    subst hQ; exact xe_out C hno () rfl (by simp [hx_, cdRescan, zn1, ejx]) (by decide) (by decide)
  have zn2 := hw2
  refine yy_aload_n C 0 dX6_rescan_9 (pc' := 10) rfl rfl rfl ?_
  refine yy_get C (v := .ref (ad 1)) fk_X6_12 0 dX6_rescan_10 (pc' := 13) rfl rfl rfl ?_
  refine yy_get C (v := .ref (ad 12)) fk_X6_81 1 dX6_rescan_13 (pc' := 16) rfl rfl rfl ?_
  refine yy_iload_n C 1 dX6_rescan_16 (pc' := 17) rfl rfl rfl ?_
  refine yy_iald C 12 dX6_rescan_17 (pc' := 18) rfl rfl (by omega) (by decide) ?_
  refine yy_istore_n C (L' := [(3, .int ((S.2.1 4) jx)), (0, .ref (ad 0)), (1, .int (nI jx)), (2, .int v)]) dX6_rescan_18 (pc' := 19) rfl rfl (by decide) rfl ?_
  refine yy_aload_n C 1 dX6_rescan_19 (pc' := 20) rfl rfl rfl ?_
  refine yy_get C (v := .ref (ad 1)) fk_X6_12 0 dX6_rescan_20 (pc' := 23) rfl rfl rfl ?_
  refine yy_get C (v := .ref (ad 12)) fk_X6_81 1 dX6_rescan_23 (pc' := 26) rfl rfl rfl ?_
  refine yy_iload_n C 2 dX6_rescan_26 (pc' := 27) rfl rfl rfl ?_
  refine yy_iload_n C 3 dX6_rescan_27 (pc' := 28) rfl rfl rfl ?_
  refine yy_iast C (w' := wA G ad (sI S 4 (upd (S.2.1 4) jx v)) ++ F) 12 dX6_rescan_28 (pc' := 29) rfl rfl (by omega) (by decide) rfl ?_
  refine yy_iload_n C 0 dX6_rescan_29 (pc' := 30) rfl rfl rfl ?_
  subst hQ
  exact xe_i C hr (vp_nar_int _) jx dX6_rescan_30 rfl (by decide) (by decide) ⟨by simp [cdRescan, zn1, ejx, zn2], rfl, hjx, rfl⟩

abbrev rX6_documentOf : Room := { frames := 7, cells := 1, slots := 6, locals := 113 }
set_option maxHeartbeats 4000000 in
set_option maxRecDepth 100000 in
theorem mX6_documentOf (l : Launch) (hl0 : l.stackTraces = false) (G : gG) (B0 : Nat) (ad : Nat → Nat) (F : va_W) (S : SA) (x : Int32) (hI : IA S) : vy_Met l yX6_documentOf (Cond.code yX6_documentOf cX6_documentOf 2 (some .int) :: WG) rX6_documentOf (va_Pc [.ref (ad 0), .int x] (PR G B0 (wA G ad S ++ F))) (va_Qi (fun (r : Int32) (_ : Unit) => cd1 (S.1 1) x = 0 ∧ r = S.2.1 2 (ix x)) (fun (_ : Unit) (t_ : State) => va_P G.1 vwCl (wA G ad S ++ F) t_.heap ∧ va_D (fun q => B0 ≤ q) (wA G ad S ++ F)) (fun q => B0 ≤ q)) (vx_X (fun _ : Unit => True) (fun (E : String) (_ : Unit) (t_ : State) => (E = "java/lang/IndexOutOfBoundsException" ∧ cd1 (S.1 1) x = 1) ∧ va_P G.1 vwCl (wA G ad S ++ F) t_.heap ∧ va_D (fun q => B0 ≤ q) (wA G ad S ++ F)) (fun q => B0 ≤ q)) rX6_documentOf.cells rX6_documentOf.slots (fun q => B0 ≤ q) := by
  refine xmet_of RX6 [(0, .ref (ad 0)), (1, .int x)] rfl (by decide) (Nat.le_of_ble_eq_true rfl) rfl ?_
  intro p e s m args below meth c C hr hnm hno
  refine yq ?_
  intro QQ hQ
  obtain ⟨i0, i1, i2, i3, i4, i5, i6, i7, i8, iJ, iH, iG, iQ⟩ := id hI
  refine yy_aload_n C 0 dX6_documentOf_0 (pc' := 1) rfl rfl rfl ?_
  refine yy_iload_n C 1 dX6_documentOf_1 (pc' := 2) rfl rfl rfl ?_
  refine xc_v (xr_V C (As := [.int x]) (rest := []) lk_X6_78 cd_X6_requireLine im_X6_requireLine se_X6_requireLine (mX6_requireLine l hl0 G B0 ad F (S) x (by exact hI)) ⟨by decide, by decide⟩ ⟨by decide, by decide⟩ 0 rfl rfl rfl rfl (Nat.le_of_ble_eq_true rfl) dX6_documentOf_2) (pc' := 5) rfl (fun E _ hw1 => ?_) (fun _ hw1 => ?_)
  · skip
    obtain ⟨rfl, hx_⟩ := hw1
    subst hQ; exact xe_out C hno () rfl (by simp [hx_, cd1]) (by decide) (by decide)
  have zn1 := hw1
  obtain ⟨jx, hjx, rfl⟩ := inR_of (by omega) zn1
  have ejx : ix (nI jx) = jx := ix_lt hjx (by omega)
  refine yy_aload_n C 0 dX6_documentOf_5 (pc' := 6) rfl rfl rfl ?_
  refine yy_get C (v := .ref (ad 1)) fk_X6_12 0 dX6_documentOf_6 (pc' := 9) rfl rfl rfl ?_
  refine yy_get C (v := .ref (ad 10)) fk_X6_84 1 dX6_documentOf_9 (pc' := 12) rfl rfl rfl ?_
  refine yy_iload_n C 1 dX6_documentOf_12 (pc' := 13) rfl rfl rfl ?_
  refine yy_iald C 10 dX6_documentOf_13 (pc' := 14) rfl rfl (by omega) (by decide) ?_
  subst hQ
  exact xe_i C hr (vp_nar_int _) () dX6_documentOf_14 rfl (by decide) (by decide) ⟨by simp [cd1, zn1, ejx], by rw [ejx]⟩

abbrev rX6_indexOf : Room := { frames := 7, cells := 1, slots := 6, locals := 113 }
set_option maxHeartbeats 4000000 in
set_option maxRecDepth 100000 in
theorem mX6_indexOf (l : Launch) (hl0 : l.stackTraces = false) (G : gG) (B0 : Nat) (ad : Nat → Nat) (F : va_W) (S : SA) (x : Int32) (hI : IA S) : vy_Met l yX6_indexOf (Cond.code yX6_indexOf cX6_indexOf 2 (some .int) :: WG) rX6_indexOf (va_Pc [.ref (ad 0), .int x] (PR G B0 (wA G ad S ++ F))) (va_Qi (fun (r : Int32) (_ : Unit) => cd1 (S.1 1) x = 0 ∧ r = S.2.1 3 (ix x)) (fun (_ : Unit) (t_ : State) => va_P G.1 vwCl (wA G ad S ++ F) t_.heap ∧ va_D (fun q => B0 ≤ q) (wA G ad S ++ F)) (fun q => B0 ≤ q)) (vx_X (fun _ : Unit => True) (fun (E : String) (_ : Unit) (t_ : State) => (E = "java/lang/IndexOutOfBoundsException" ∧ cd1 (S.1 1) x = 1) ∧ va_P G.1 vwCl (wA G ad S ++ F) t_.heap ∧ va_D (fun q => B0 ≤ q) (wA G ad S ++ F)) (fun q => B0 ≤ q)) rX6_indexOf.cells rX6_indexOf.slots (fun q => B0 ≤ q) := by
  refine xmet_of RX6 [(0, .ref (ad 0)), (1, .int x)] rfl (by decide) (Nat.le_of_ble_eq_true rfl) rfl ?_
  intro p e s m args below meth c C hr hnm hno
  refine yq ?_
  intro QQ hQ
  obtain ⟨i0, i1, i2, i3, i4, i5, i6, i7, i8, iJ, iH, iG, iQ⟩ := id hI
  refine yy_aload_n C 0 dX6_indexOf_0 (pc' := 1) rfl rfl rfl ?_
  refine yy_iload_n C 1 dX6_indexOf_1 (pc' := 2) rfl rfl rfl ?_
  refine xc_v (xr_V C (As := [.int x]) (rest := []) lk_X6_78 cd_X6_requireLine im_X6_requireLine se_X6_requireLine (mX6_requireLine l hl0 G B0 ad F (S) x (by exact hI)) ⟨by decide, by decide⟩ ⟨by decide, by decide⟩ 0 rfl rfl rfl rfl (Nat.le_of_ble_eq_true rfl) dX6_indexOf_2) (pc' := 5) rfl (fun E _ hw1 => ?_) (fun _ hw1 => ?_)
  · skip
    obtain ⟨rfl, hx_⟩ := hw1
    subst hQ; exact xe_out C hno () rfl (by simp [hx_, cd1]) (by decide) (by decide)
  have zn1 := hw1
  obtain ⟨jx, hjx, rfl⟩ := inR_of (by omega) zn1
  have ejx : ix (nI jx) = jx := ix_lt hjx (by omega)
  refine yy_aload_n C 0 dX6_indexOf_5 (pc' := 6) rfl rfl rfl ?_
  refine yy_get C (v := .ref (ad 1)) fk_X6_12 0 dX6_indexOf_6 (pc' := 9) rfl rfl rfl ?_
  refine yy_get C (v := .ref (ad 11)) fk_X6_87 1 dX6_indexOf_9 (pc' := 12) rfl rfl rfl ?_
  refine yy_iload_n C 1 dX6_indexOf_12 (pc' := 13) rfl rfl rfl ?_
  refine yy_iald C 11 dX6_indexOf_13 (pc' := 14) rfl rfl (by omega) (by decide) ?_
  subst hQ
  exact xe_i C hr (vp_nar_int _) () dX6_indexOf_14 rfl (by decide) (by decide) ⟨by simp [cd1, zn1, ejx], by rw [ejx]⟩

abbrev rX6_lines : Room := { frames := 7, cells := 1, slots := 6, locals := 113 }
set_option maxHeartbeats 4000000 in
set_option maxRecDepth 100000 in
theorem mX6_lines (l : Launch) (hl0 : l.stackTraces = false) (G : gG) (B0 : Nat) (ad : Nat → Nat) (F : va_W) (S : SA) (d : Int32) (hI : IA S) : vy_Met l yX6_lines (Cond.code yX6_lines cX6_lines 2 (some .int) :: WG) rX6_lines (va_Pc [.ref (ad 0), .int d] (PR G B0 (wA G ad S ++ F))) (va_Qi (fun (r : Int32) (_ : Unit) => cd1 (S.1 0) d = 0 ∧ r = S.2.1 1 (ix d)) (fun (_ : Unit) (t_ : State) => va_P G.1 vwCl (wA G ad S ++ F) t_.heap ∧ va_D (fun q => B0 ≤ q) (wA G ad S ++ F)) (fun q => B0 ≤ q)) (vx_X (fun _ : Unit => True) (fun (E : String) (_ : Unit) (t_ : State) => (E = "java/lang/IndexOutOfBoundsException" ∧ cd1 (S.1 0) d = 1) ∧ va_P G.1 vwCl (wA G ad S ++ F) t_.heap ∧ va_D (fun q => B0 ≤ q) (wA G ad S ++ F)) (fun q => B0 ≤ q)) rX6_lines.cells rX6_lines.slots (fun q => B0 ≤ q) := by
  refine xmet_of RX6 [(0, .ref (ad 0)), (1, .int d)] rfl (by decide) (Nat.le_of_ble_eq_true rfl) rfl ?_
  intro p e s m args below meth c C hr hnm hno
  refine yq ?_
  intro QQ hQ
  obtain ⟨i0, i1, i2, i3, i4, i5, i6, i7, i8, iJ, iH, iG, iQ⟩ := id hI
  refine yy_aload_n C 0 dX6_lines_0 (pc' := 1) rfl rfl rfl ?_
  refine yy_iload_n C 1 dX6_lines_1 (pc' := 2) rfl rfl rfl ?_
  refine xc_v (xr_V C (As := [.int d]) (rest := []) lk_X6_67 cd_X6_requireDocument im_X6_requireDocument se_X6_requireDocument (mX6_requireDocument l hl0 G B0 ad F (S) d (by exact hI)) ⟨by decide, by decide⟩ ⟨by decide, by decide⟩ 0 rfl rfl rfl rfl (Nat.le_of_ble_eq_true rfl) dX6_lines_2) (pc' := 5) rfl (fun E _ hw1 => ?_) (fun _ hw1 => ?_)
  · skip
    obtain ⟨rfl, hx_⟩ := hw1
    subst hQ; exact xe_out C hno () rfl (by simp [hx_, cd1]) (by decide) (by decide)
  have zn1 := hw1
  obtain ⟨jd, hjd, rfl⟩ := inR_of (by omega) zn1
  have ejd : ix (nI jd) = jd := ix_lt hjd (by omega)
  refine yy_aload_n C 0 dX6_lines_5 (pc' := 6) rfl rfl rfl ?_
  refine yy_get C (v := .ref (ad 1)) fk_X6_12 0 dX6_lines_6 (pc' := 9) rfl rfl rfl ?_
  refine yy_get C (v := .ref (ad 9)) fk_X6_90 1 dX6_lines_9 (pc' := 12) rfl rfl rfl ?_
  refine yy_iload_n C 1 dX6_lines_12 (pc' := 13) rfl rfl rfl ?_
  refine yy_iald C 9 dX6_lines_13 (pc' := 14) rfl rfl (by omega) (by decide) ?_
  subst hQ
  exact xe_i C hr (vp_nar_int _) () dX6_lines_14 rfl (by decide) (by decide) ⟨by simp [cd1, zn1, ejd], by rw [ejd]⟩

abbrev rX6_addRule : Room := { frames := 7, cells := 1, slots := 6, locals := 115 }
set_option maxHeartbeats 4000000 in
set_option maxRecDepth 100000 in
theorem mX6_addRule (l : Launch) (hl0 : l.stackTraces = false) (G : gG) (B0 : Nat) (ad : Nat → Nat) (F : va_W) (S : SA) (f g t : Int32) (hI : IA S) : vy_Met l yX6_addRule (Cond.code yX6_addRule cX6_addRule 4 (some .int) :: WG) rX6_addRule (va_Pc [.ref (ad 0), .int f, .int g, .int t] (PR G B0 (wA G ad S ++ F))) (va_Qi (fun (r : Int32) (_ : Unit) => cdAddRule (S.1 2) (S.1 7) f g t = 0 ∧ r = nI (S.1 2)) (fun (_ : Unit) (t_ : State) => va_P G.1 vwCl (wA G ad (sN (sI (sI (sI S 5 (upd (S.2.1 5) (S.1 2) f)) 6 (upd (S.2.1 6) (S.1 2) g)) 7 (upd (S.2.1 7) (S.1 2) t)) 2 (S.1 2 + 1)) ++ F) t_.heap ∧ va_D (fun q => B0 ≤ q) (wA G ad (sN (sI (sI (sI S 5 (upd (S.2.1 5) (S.1 2) f)) 6 (upd (S.2.1 6) (S.1 2) g)) 7 (upd (S.2.1 7) (S.1 2) t)) 2 (S.1 2 + 1)) ++ F)) (fun q => B0 ≤ q)) (vx_X (fun _ : Unit => True) (fun (E : String) (_ : Unit) (t_ : State) => ((E = "java/lang/IllegalArgumentException" ∧ cdAddRule (S.1 2) (S.1 7) f g t = 1) ∨ (E = "java/lang/IllegalStateException" ∧ cdAddRule (S.1 2) (S.1 7) f g t = 2)) ∧ va_P G.1 vwCl (wA G ad S ++ F) t_.heap ∧ va_D (fun q => B0 ≤ q) (wA G ad S ++ F)) (fun q => B0 ≤ q)) rX6_addRule.cells rX6_addRule.slots (fun q => B0 ≤ q) := by
  refine xmet_of RX6 [(0, .ref (ad 0)), (1, .int f), (2, .int g), (3, .int t)] rfl (by decide) (Nat.le_of_ble_eq_true rfl) rfl ?_
  intro p e s m args below meth c C hr hnm hno
  refine yq ?_
  intro QQ hQ
  obtain ⟨i0, i1, i2, i3, i4, i5, i6, i7, i8, iJ, iH, iG, iQ⟩ := id hI
  refine yy_iload_n C 1 dX6_addRule_0 (pc' := 1) rfl rfl rfl ?_
  refine xc_v (xr_S C (As := [.int f]) (rest := []) lk_X6_71 cd_X6_requireValue st_X6_requireValue (mX6_requireValue l hl0 G B0 (wA G ad S ++ F) f) ⟨by decide, by decide⟩ ⟨by decide, by decide⟩ rfl rfl (Nat.le_of_ble_eq_true rfl) dX6_addRule_1) (pc' := 4) rfl (fun E _ hw1 => ?_) (fun _ hw1 => ?_)
  · skip
    obtain ⟨rfl, hx_⟩ := hw1
    subst hQ; exact xe_out C hno () rfl (Or.inl ⟨rfl, by rw [cdAddRule, if_pos (rule_n1 hx_)]⟩) (by decide) (by decide)
  have zn1 := hw1
  refine yy_iload_n C 2 dX6_addRule_4 (pc' := 5) rfl rfl rfl ?_
  refine xc_v (xr_S C (As := [.int g]) (rest := []) lk_X6_71 cd_X6_requireValue st_X6_requireValue (mX6_requireValue l hl0 G B0 (wA G ad S ++ F) g) ⟨by decide, by decide⟩ ⟨by decide, by decide⟩ rfl rfl (Nat.le_of_ble_eq_true rfl) dX6_addRule_5) (pc' := 8) rfl (fun E _ hw2 => ?_) (fun _ hw2 => ?_)
  · skip
    obtain ⟨rfl, hx_⟩ := hw2
    subst hQ; exact xe_out C hno () rfl (Or.inl ⟨rfl, by rw [cdAddRule, if_pos (rule_n2 zn1 hx_)]⟩) (by decide) (by decide)
  have zn2 := hw2
  refine yy_iload_n C 1 dX6_addRule_8 (pc' := 9) rfl rfl rfl ?_
  refine yy_iload_n C 2 dX6_addRule_9 (pc' := 10) rfl rfl rfl ?_
  refine xc_v (xr_S C (As := [.int f, .int g]) (rest := []) lk_X6_93 cd_X6_requireRising st_X6_requireRising (mX6_requireRising l hl0 G B0 (wA G ad S ++ F) f g) ⟨by decide, by decide⟩ ⟨by decide, by decide⟩ rfl rfl (Nat.le_of_ble_eq_true rfl) dX6_addRule_10) (pc' := 13) rfl (fun E _ hw3 => ?_) (fun _ hw3 => ?_)
  · skip
    obtain ⟨rfl, hx_⟩ := hw3
    subst hQ; exact xe_out C hno () rfl (Or.inl ⟨rfl, by rw [cdAddRule, if_pos (rule_n3 hx_)]⟩) (by decide) (by decide)
  have zn3 := hw3
  refine yy_aload_n C 0 dX6_addRule_13 (pc' := 14) rfl rfl rfl ?_
  refine yy_iload_n C 3 dX6_addRule_14 (pc' := 15) rfl rfl rfl ?_
  refine xc_v (xr_V C (As := [.int t]) (rest := []) lk_X6_97 cd_X6_requireLastDay im_X6_requireLastDay se_X6_requireLastDay (mX6_requireLastDay l hl0 G B0 ad F (S) t (by exact hI)) ⟨by decide, by decide⟩ ⟨by decide, by decide⟩ 0 rfl rfl rfl rfl (Nat.le_of_ble_eq_true rfl) dX6_addRule_15) (pc' := 18) rfl (fun E _ hw4 => ?_) (fun _ hw4 => ?_)
  · skip
    obtain ⟨rfl, hx_⟩ := hw4
    subst hQ; exact xe_out C hno () rfl (Or.inl ⟨rfl, by rw [cdAddRule, if_pos (rule_n4 hx_)]⟩) (by decide) (by decide)
  have zn4 := hw4
  refine yy_aload_n C 0 dX6_addRule_18 (pc' := 19) rfl rfl rfl ?_
  refine yy_get C (v := .ref (ad 2)) fk_X6_19 0 dX6_addRule_19 (pc' := 22) rfl rfl rfl ?_
  refine yy_iload_n C 1 dX6_addRule_22 (pc' := 23) rfl rfl rfl ?_
  refine yy_iload_n C 2 dX6_addRule_23 (pc' := 24) rfl rfl rfl ?_
  refine yy_iload_n C 3 dX6_addRule_24 (pc' := 25) rfl rfl rfl ?_
  refine xc_i (xr_V C (As := [.int f, .int g, .int t]) (rest := []) lk_X6_100 cd_X4_append im_X4_append se_X4_append (mX4_append l hl0 G B0 ad F (S) f g t (by exact hI)) ⟨by decide, by decide⟩ ⟨by decide, by decide⟩ 2 rfl rfl rfl rfl (Nat.le_of_ble_eq_true rfl) dX6_addRule_25) (pc' := 28) rfl (fun E _ hw5 => ?_) (fun r5 _ hw5 => ?_)
  · skip
    obtain ⟨rfl, hx_⟩ := hw5
    subst hQ; exact xe_out C hno () rfl (Or.inr ⟨rfl, by rw [cdAddRule, if_neg (by rw [rule_ok zn1 zn2 zn3 zn4]; decide), if_pos hx_]⟩) (by decide) (by decide)
  obtain ⟨zn5, rfl⟩ := hw5
  subst hQ
  exact xe_i C hr (vp_nar_int _) () dX6_addRule_28 rfl (by decide) (by decide) ⟨by rw [cdAddRule, if_neg (by rw [rule_ok zn1 zn2 zn3 zn4]; decide), if_neg (by omega)], rfl⟩

abbrev rX6_addSpan : Room := { frames := 7, cells := 1, slots := 6, locals := 116 }
set_option maxHeartbeats 4000000 in
set_option maxRecDepth 100000 in
theorem mX6_addSpan (l : Launch) (hl0 : l.stackTraces = false) (G : gG) (B0 : Nat) (ad : Nat → Nat) (F : va_W) (S : SA) (d f g t : Int32) (hI : IA S) : vy_Met l yX6_addSpan (Cond.code yX6_addSpan cX6_addSpan 5 (some .int) :: WG) rX6_addSpan (va_Pc [.ref (ad 0), .int d, .int f, .int g, .int t] (PR G B0 (wA G ad S ++ F))) (va_Qi (fun (r : Int32) (_ : Unit) => cdAddSpan (S.1 0) (S.1 3) (S.1 7) d f g t = 0 ∧ r = nI (S.1 3)) (fun (_ : Unit) (t_ : State) => va_P G.1 vwCl (wA G ad (sN (sI (sI (sI (sI S 8 (upd (S.2.1 8) (S.1 3) d)) 9 (upd (S.2.1 9) (S.1 3) f)) 10 (upd (S.2.1 10) (S.1 3) g)) 11 (upd (S.2.1 11) (S.1 3) t)) 3 (S.1 3 + 1)) ++ F) t_.heap ∧ va_D (fun q => B0 ≤ q) (wA G ad (sN (sI (sI (sI (sI S 8 (upd (S.2.1 8) (S.1 3) d)) 9 (upd (S.2.1 9) (S.1 3) f)) 10 (upd (S.2.1 10) (S.1 3) g)) 11 (upd (S.2.1 11) (S.1 3) t)) 3 (S.1 3 + 1)) ++ F)) (fun q => B0 ≤ q)) (vx_X (fun _ : Unit => True) (fun (E : String) (_ : Unit) (t_ : State) => ((E = "java/lang/IndexOutOfBoundsException" ∧ cdAddSpan (S.1 0) (S.1 3) (S.1 7) d f g t = 1) ∨ (E = "java/lang/IllegalArgumentException" ∧ cdAddSpan (S.1 0) (S.1 3) (S.1 7) d f g t = 2) ∨ (E = "java/lang/IllegalStateException" ∧ cdAddSpan (S.1 0) (S.1 3) (S.1 7) d f g t = 3)) ∧ va_P G.1 vwCl (wA G ad S ++ F) t_.heap ∧ va_D (fun q => B0 ≤ q) (wA G ad S ++ F)) (fun q => B0 ≤ q)) rX6_addSpan.cells rX6_addSpan.slots (fun q => B0 ≤ q) := by
  refine xmet_of RX6 [(0, .ref (ad 0)), (1, .int d), (2, .int f), (3, .int g), (4, .int t)] rfl (by decide) (Nat.le_of_ble_eq_true rfl) rfl ?_
  intro p e s m args below meth c C hr hnm hno
  refine yq ?_
  intro QQ hQ
  obtain ⟨i0, i1, i2, i3, i4, i5, i6, i7, i8, iJ, iH, iG, iQ⟩ := id hI
  refine yy_aload_n C 0 dX6_addSpan_0 (pc' := 1) rfl rfl rfl ?_
  refine yy_iload_n C 1 dX6_addSpan_1 (pc' := 2) rfl rfl rfl ?_
  refine xc_v (xr_V C (As := [.int d]) (rest := []) lk_X6_67 cd_X6_requireDocument im_X6_requireDocument se_X6_requireDocument (mX6_requireDocument l hl0 G B0 ad F (S) d (by exact hI)) ⟨by decide, by decide⟩ ⟨by decide, by decide⟩ 0 rfl rfl rfl rfl (Nat.le_of_ble_eq_true rfl) dX6_addSpan_2) (pc' := 5) rfl (fun E _ hw1 => ?_) (fun _ hw1 => ?_)
  · skip
    obtain ⟨rfl, hx_⟩ := hw1
    subst hQ; exact xe_out C hno () rfl (Or.inl ⟨rfl, by rw [cdAddSpan, if_pos hx_]⟩) (by decide) (by decide)
  have zn1 := hw1
  refine yy_iload_n C 2 dX6_addSpan_5 (pc' := 6) rfl rfl rfl ?_
  refine xc_v (xr_S C (As := [.int f]) (rest := []) lk_X6_103 cd_X6_requireIndex st_X6_requireIndex (mX6_requireIndex l hl0 G B0 (wA G ad S ++ F) f) ⟨by decide, by decide⟩ ⟨by decide, by decide⟩ rfl rfl (Nat.le_of_ble_eq_true rfl) dX6_addSpan_6) (pc' := 9) rfl (fun E _ hw2 => ?_) (fun _ hw2 => ?_)
  · skip
    obtain ⟨rfl, hx_⟩ := hw2
    subst hQ; exact xe_out C hno () rfl (Or.inr (Or.inl ⟨rfl, by rw [cdAddSpan, if_neg (by rw [zn1]; decide), if_pos (span_n1 hx_)]⟩)) (by decide) (by decide)
  have zn2 := hw2
  refine yy_iload_n C 3 dX6_addSpan_9 (pc' := 10) rfl rfl rfl ?_
  refine xc_v (xr_S C (As := [.int g]) (rest := []) lk_X6_103 cd_X6_requireIndex st_X6_requireIndex (mX6_requireIndex l hl0 G B0 (wA G ad S ++ F) g) ⟨by decide, by decide⟩ ⟨by decide, by decide⟩ rfl rfl (Nat.le_of_ble_eq_true rfl) dX6_addSpan_10) (pc' := 13) rfl (fun E _ hw3 => ?_) (fun _ hw3 => ?_)
  · skip
    obtain ⟨rfl, hx_⟩ := hw3
    subst hQ; exact xe_out C hno () rfl (Or.inr (Or.inl ⟨rfl, by rw [cdAddSpan, if_neg (by rw [zn1]; decide), if_pos (span_n2 zn2 hx_)]⟩)) (by decide) (by decide)
  have zn3 := hw3
  refine yy_iload_n C 2 dX6_addSpan_13 (pc' := 14) rfl rfl rfl ?_
  refine yy_iload_n C 3 dX6_addSpan_14 (pc' := 15) rfl rfl rfl ?_
  refine xc_v (xr_S C (As := [.int f, .int g]) (rest := []) lk_X6_93 cd_X6_requireRising st_X6_requireRising (mX6_requireRising l hl0 G B0 (wA G ad S ++ F) f g) ⟨by decide, by decide⟩ ⟨by decide, by decide⟩ rfl rfl (Nat.le_of_ble_eq_true rfl) dX6_addSpan_15) (pc' := 18) rfl (fun E _ hw4 => ?_) (fun _ hw4 => ?_)
  · skip
    obtain ⟨rfl, hx_⟩ := hw4
    subst hQ; exact xe_out C hno () rfl (Or.inr (Or.inl ⟨rfl, by rw [cdAddSpan, if_neg (by rw [zn1]; decide), if_pos (span_n3 hx_)]⟩)) (by decide) (by decide)
  have zn4 := hw4
  refine yy_aload_n C 0 dX6_addSpan_18 (pc' := 19) rfl rfl rfl ?_
  refine yy_iload C 4 dX6_addSpan_19 (pc' := 21) rfl rfl ?_
  refine xc_v (xr_V C (As := [.int t]) (rest := []) lk_X6_97 cd_X6_requireLastDay im_X6_requireLastDay se_X6_requireLastDay (mX6_requireLastDay l hl0 G B0 ad F (S) t (by exact hI)) ⟨by decide, by decide⟩ ⟨by decide, by decide⟩ 0 rfl rfl rfl rfl (Nat.le_of_ble_eq_true rfl) dX6_addSpan_21) (pc' := 24) rfl (fun E _ hw5 => ?_) (fun _ hw5 => ?_)
  · skip
    obtain ⟨rfl, hx_⟩ := hw5
    subst hQ; exact xe_out C hno () rfl (Or.inr (Or.inl ⟨rfl, by rw [cdAddSpan, if_neg (by rw [zn1]; decide), if_pos (rule_n4 hx_)]⟩)) (by decide) (by decide)
  have zn5 := hw5
  refine yy_aload_n C 0 dX6_addSpan_24 (pc' := 25) rfl rfl rfl ?_
  refine yy_get C (v := .ref (ad 3)) fk_X6_26 0 dX6_addSpan_25 (pc' := 28) rfl rfl rfl ?_
  refine yy_iload_n C 1 dX6_addSpan_28 (pc' := 29) rfl rfl rfl ?_
  refine yy_iload_n C 2 dX6_addSpan_29 (pc' := 30) rfl rfl rfl ?_
  refine yy_iload_n C 3 dX6_addSpan_30 (pc' := 31) rfl rfl rfl ?_
  refine yy_iload C 4 dX6_addSpan_31 (pc' := 33) rfl rfl ?_
  refine xc_i (xr_V C (As := [.int d, .int f, .int g, .int t]) (rest := []) lk_X6_106 cd_X5_append im_X5_append se_X5_append (mX5_append l hl0 G B0 ad F (S) d f g t (by exact hI)) ⟨by decide, by decide⟩ ⟨by decide, by decide⟩ 3 rfl rfl rfl rfl (Nat.le_of_ble_eq_true rfl) dX6_addSpan_33) (pc' := 36) rfl (fun E _ hw6 => ?_) (fun r6 _ hw6 => ?_)
  · skip
    obtain ⟨rfl, hx_⟩ := hw6
    subst hQ; exact xe_out C hno () rfl (Or.inr (Or.inr ⟨rfl, by rw [cdAddSpan, if_neg (by rw [zn1]; decide), if_neg (by rw [span_ok zn2 zn3 zn4 zn5]; decide), if_pos hx_]⟩)) (by decide) (by decide)
  obtain ⟨zn6, rfl⟩ := hw6
  subst hQ
  exact xe_i C hr (vp_nar_int _) () dX6_addSpan_36 rfl (by decide) (by decide) ⟨by rw [cdAddSpan, if_neg (by rw [zn1]; decide), if_neg (by rw [span_ok zn2 zn3 zn4 zn5]; decide), if_neg (by omega)], rfl⟩

abbrev rX6_lift : Room := { frames := 6, cells := 1, slots := 6, locals := 92 }
set_option maxHeartbeats 4000000 in
set_option maxRecDepth 100000 in
theorem mX6_lift (l : Launch) (hl0 : l.stackTraces = false) (G : gG) (B0 : Nat) (ad : Nat → Nat) (F : va_W) (S : SA) (k : Int32) (hI : IA S) : vy_Met l yX6_lift (Cond.code yX6_lift cX6_lift 3 (some .int) :: WG) rX6_lift (va_Pc [.ref (ad 0), .int k] (PR G B0 (wA G ad S ++ F))) (va_Qi (fun (r : Int32) (u : Nat) => cdLiftA (S.1 3) (S.2.1 11) (S.1 7) k = 0 ∧ k = nI u ∧ u < S.1 3 ∧ r = nI (fb_ct (hidA S) (S.1 1)) - nI (fb_ct (hidA (sI S 11 (upd (S.2.1 11) u (-1)))) (S.1 1))) (fun (u : Nat) (t_ : State) => va_P G.1 vwCl (wA G ad (sI S 11 (upd (S.2.1 11) u (-1))) ++ F) t_.heap ∧ va_D (fun q => B0 ≤ q) (wA G ad (sI S 11 (upd (S.2.1 11) u (-1))) ++ F)) (fun q => B0 ≤ q)) (vx_X (fun _ : Unit => True) (fun (E : String) (_ : Unit) (t_ : State) => ((E = "java/lang/IndexOutOfBoundsException" ∧ cdLiftA (S.1 3) (S.2.1 11) (S.1 7) k = 1) ∨ (E = "java/lang/IllegalStateException" ∧ cdLiftA (S.1 3) (S.2.1 11) (S.1 7) k = 2)) ∧ va_P G.1 vwCl (wA G ad S ++ F) t_.heap ∧ va_D (fun q => B0 ≤ q) (wA G ad S ++ F)) (fun q => B0 ≤ q)) rX6_lift.cells rX6_lift.slots (fun q => B0 ≤ q) := by
  refine xmet_of RX6 [(0, .ref (ad 0)), (1, .int k)] rfl (by decide) (Nat.le_of_ble_eq_true rfl) rfl ?_
  intro p e s m args below meth c C hr hnm hno
  refine yq ?_
  intro QQ hQ
  obtain ⟨i0, i1, i2, i3, i4, i5, i6, i7, i8, iJ, iH, iG, iQ⟩ := id hI
  refine yy_aload_n C 0 dX6_lift_0 (pc' := 1) rfl rfl rfl ?_
  refine yy_get C (v := .ref (ad 3)) fk_X6_26 0 dX6_lift_1 (pc' := 4) rfl rfl rfl ?_
  refine yy_iload_n C 1 dX6_lift_4 (pc' := 5) rfl rfl rfl ?_
  refine yc_i (yr_V C (As := [.int k]) (rest := []) lk_X6_109 cd_X5_has im_X5_has se_X5_has (mX5_has l G B0 ad F (S) k (by exact hI)) ⟨by decide, by decide⟩ ⟨by decide, by decide⟩ 3 rfl rfl rfl rfl (Nat.le_of_ble_eq_true rfl) dX6_lift_5) (pc' := 8) rfl (fun r1 _ hw1 => ?_)
  subst hw1
  refine yb_if_ne C dX6_lift_8 (pc' := 11) rfl (tgt := 21) (by decide) (fun c_8 => ?_) (fun c_8 => ?_)
  · skip
    have zn1 := c_8
    obtain ⟨jk, hjk, rfl⟩ := inR_of (by omega) zn1
    have ejk : ix (nI jk) = jk := ix_lt hjk (by omega)
    refine yy_aload_n C 0 dX6_lift_21 (pc' := 22) rfl rfl rfl ?_
    refine yy_get C (v := .int (nI (S.1 7))) fk_X6_120 0 dX6_lift_22 (pc' := 25) rfl rfl rfl ?_
    refine yy_aload_n C 0 dX6_lift_25 (pc' := 26) rfl rfl rfl ?_
    refine yy_get C (v := .ref (ad 3)) fk_X6_26 0 dX6_lift_26 (pc' := 29) rfl rfl rfl ?_
    refine yy_get C (v := .ref (ad 19)) fk_X6_123 3 dX6_lift_29 (pc' := 32) rfl rfl rfl ?_
    refine yy_iload_n C 1 dX6_lift_32 (pc' := 33) rfl rfl rfl ?_
    refine yy_iald C 19 dX6_lift_33 (pc' := 34) rfl rfl (by omega) (by decide) ?_
    refine yy_icmp_le C dX6_lift_34 (pc' := 37) rfl (tgt := 47) (by decide) (fun c_34 => ?_) (fun c_34 => ?_)
    · skip
      refine yy_aload_n C 0 dX6_lift_47 (pc' := 48) rfl rfl rfl ?_
      refine yc_i (yr_V C (As := []) (rest := []) lk_X6_131 cd_X6_countHidden im_X6_countHidden se_X6_countHidden (mX6_countHidden l G B0 ad F (S) (by exact hI)) ⟨by decide, by decide⟩ ⟨by decide, by decide⟩ 0 rfl rfl rfl rfl (Nat.le_of_ble_eq_true rfl) dX6_lift_48) (pc' := 51) rfl (fun r2 _ hw2 => ?_)
      subst hw2
      refine yy_istore_n C (L' := [(2, .int (nI (fb_ct (hidA S) (S.1 1)))), (0, .ref (ad 0)), (1, .int (nI jk))]) dX6_lift_51 (pc' := 52) rfl rfl (by decide) rfl ?_
      refine yy_aload_n C 1 dX6_lift_52 (pc' := 53) rfl rfl rfl ?_
      refine yy_get C (v := .ref (ad 3)) fk_X6_26 0 dX6_lift_53 (pc' := 56) rfl rfl rfl ?_
      refine yy_get C (v := .ref (ad 19)) fk_X6_123 3 dX6_lift_56 (pc' := 59) rfl rfl rfl ?_
      refine yy_iload_n C 2 dX6_lift_59 (pc' := 60) rfl rfl rfl ?_
      refine yy_iconst C (v := (-1)) dX6_lift_60 (pc' := 61) rfl (by decide) ?_
      refine yy_iast C (w' := wA G ad (sI S 11 (upd (S.2.1 11) jk (-1))) ++ F) 19 dX6_lift_61 (pc' := 62) rfl rfl (by omega) (by decide) rfl ?_
      refine yy_iload_n C 0 dX6_lift_62 (pc' := 63) rfl rfl rfl ?_
      refine yy_aload_n C 1 dX6_lift_63 (pc' := 64) rfl rfl rfl ?_
      refine yc_i (yr_V C (As := []) (rest := [.int (nI (fb_ct (hidA S) (S.1 1)))]) lk_X6_131 cd_X6_countHidden im_X6_countHidden se_X6_countHidden (mX6_countHidden l G B0 ad F (sI S 11 (upd (S.2.1 11) jk (-1))) (by exact hI)) ⟨by decide, by decide⟩ ⟨by decide, by decide⟩ 0 rfl rfl rfl rfl (Nat.le_of_ble_eq_true rfl) dX6_lift_64) (pc' := 67) rfl (fun r3 _ hw3 => ?_)
      subst hw3
      refine yy_isub C (v := ((nI (fb_ct (hidA S) (S.1 1))) - (nI (fb_ct (hidA (sI S 11 (upd (S.2.1 11) jk (-1)))) (S.1 1))))) dX6_lift_67 (pc' := 68) rfl rfl ?_
      subst hQ
      exact xe_i C hr (vp_nar_int _) jk dX6_lift_68 rfl (by decide) (by decide) ⟨by simp [cdLiftA, zn1, ejk, c_8, c_34, Int32.not_lt.mpr c_34], rfl, hjk, rfl⟩
    · skip
      subst hQ
      exact xe_throwS C hl0 th_X6_126_130 hno (is := 128) (text := "the span was lifted or has ended") (by decide +kernel) dX6_lift_37 dX6_lift_40 dX6_lift_41 dX6_lift_43 dX6_lift_46 () rfl (by simp [cdLiftA, zn1, ejk, c_8, c_34, Int32.not_le.mp c_34]) (by decide) (by decide) (by decide) (by decide) (by decide) (by decide)
  · skip
    subst hQ
    exact xe_throwS C hl0 th_X6_113_117 hno (is := 115) (text := "there is no such span") (by decide +kernel) dX6_lift_11 dX6_lift_14 dX6_lift_15 dX6_lift_17 dX6_lift_20 () rfl (by simp [cdLiftA, c_8]) (by decide) (by decide) (by decide) (by decide) (by decide) (by decide)

abbrev rX6_isHidden : Room := { frames := 7, cells := 1, slots := 6, locals := 113 }
set_option maxHeartbeats 4000000 in
set_option maxRecDepth 100000 in
theorem mX6_isHidden (l : Launch) (hl0 : l.stackTraces = false) (G : gG) (B0 : Nat) (ad : Nat → Nat) (F : va_W) (S : SA) (x : Int32) (hI : IA S) : vy_Met l yX6_isHidden (Cond.code yX6_isHidden cX6_isHidden 2 (some .boolean) :: WG) rX6_isHidden (va_Pc [.ref (ad 0), .int x] (PR G B0 (wA G ad S ++ F))) (va_Qi (fun (r : Int32) (_ : Unit) => cd1 (S.1 1) x = 0 ∧ r = bI (hidA S (ix x))) (fun (_ : Unit) (t_ : State) => va_P G.1 vwCl (wA G ad S ++ F) t_.heap ∧ va_D (fun q => B0 ≤ q) (wA G ad S ++ F)) (fun q => B0 ≤ q)) (vx_X (fun _ : Unit => True) (fun (E : String) (_ : Unit) (t_ : State) => (E = "java/lang/IndexOutOfBoundsException" ∧ cd1 (S.1 1) x = 1) ∧ va_P G.1 vwCl (wA G ad S ++ F) t_.heap ∧ va_D (fun q => B0 ≤ q) (wA G ad S ++ F)) (fun q => B0 ≤ q)) rX6_isHidden.cells rX6_isHidden.slots (fun q => B0 ≤ q) := by
  refine xmet_of RX6 [(0, .ref (ad 0)), (1, .int x)] rfl (by decide) (Nat.le_of_ble_eq_true rfl) rfl ?_
  intro p e s m args below meth c C hr hnm hno
  refine yq ?_
  intro QQ hQ
  obtain ⟨i0, i1, i2, i3, i4, i5, i6, i7, i8, iJ, iH, iG, iQ⟩ := id hI
  refine yy_aload_n C 0 dX6_isHidden_0 (pc' := 1) rfl rfl rfl ?_
  refine yy_iload_n C 1 dX6_isHidden_1 (pc' := 2) rfl rfl rfl ?_
  refine xc_v (xr_V C (As := [.int x]) (rest := []) lk_X6_78 cd_X6_requireLine im_X6_requireLine se_X6_requireLine (mX6_requireLine l hl0 G B0 ad F (S) x (by exact hI)) ⟨by decide, by decide⟩ ⟨by decide, by decide⟩ 0 rfl rfl rfl rfl (Nat.le_of_ble_eq_true rfl) dX6_isHidden_2) (pc' := 5) rfl (fun E _ hw1 => ?_) (fun _ hw1 => ?_)
  · skip
    obtain ⟨rfl, hx_⟩ := hw1
    subst hQ; exact xe_out C hno () rfl (by simp [hx_, cd1]) (by decide) (by decide)
  have zn1 := hw1
  obtain ⟨jx, hjx, rfl⟩ := inR_of (by omega) zn1
  have ejx : ix (nI jx) = jx := ix_lt hjx (by omega)
  refine yy_aload_n C 0 dX6_isHidden_5 (pc' := 6) rfl rfl rfl ?_
  refine yy_iload_n C 1 dX6_isHidden_6 (pc' := 7) rfl rfl rfl ?_
  refine yc_i (yr_V C (As := [.int (nI jx)]) (rest := []) lk_X6_134 cd_X6_isHiddenToday im_X6_isHiddenToday se_X6_isHiddenToday (mX6_isHiddenToday l G B0 ad F (S) jx (by omega) (by exact hI)) ⟨by decide, by decide⟩ ⟨by decide, by decide⟩ 0 rfl rfl rfl rfl (Nat.le_of_ble_eq_true rfl) dX6_isHidden_7) (pc' := 10) rfl (fun r2 _ hw2 => ?_)
  subst hw2
  subst hQ
  exact xe_i C hr (nar_b _) () dX6_isHidden_10 rfl (by decide) (by decide) ⟨by simp [cd1, zn1, ejx], by rw [ejx]⟩

abbrev rX6_hidden : Room := { frames := 4, cells := 0, slots := 0, locals := 88 }
set_option maxHeartbeats 4000000 in
set_option maxRecDepth 100000 in
theorem mX6_hidden (l : Launch) (G : gG) (B0 : Nat) (ad : Nat → Nat) (F : va_W) (S : SA) (hI : IA S) : Met l yX6_hidden (Cond.code yX6_hidden cX6_hidden 1 (some .int) :: WG) rX6_hidden (va_Pc [.ref (ad 0)] (PR G B0 (wA G ad S ++ F))) (va_Qi (fun (r : Int32) (_ : Unit) => r = nI (fb_ct (hidA S) (S.1 1))) (fun (_ : Unit) (t_ : State) => va_P G.1 vwCl (wA G ad S ++ F) t_.heap ∧ va_D (fun q => B0 ≤ q) (wA G ad S ++ F)) (fun q => B0 ≤ q)) rX6_hidden.cells rX6_hidden.slots (fun q => B0 ≤ q) := by
  refine met_of RX6 [(0, .ref (ad 0))] rfl (by decide) (Nat.le_of_ble_eq_true rfl) rfl ?_
  intro p e s m args below meth c C hr hnm
  refine yq ?_
  intro QQ hQ
  obtain ⟨i0, i1, i2, i3, i4, i5, i6, i7, i8, iJ, iH, iG, iQ⟩ := id hI
  refine yy_aload_n C 0 dX6_hidden_0 (pc' := 1) rfl rfl rfl ?_
  refine yc_i (yr_V C (As := []) (rest := []) lk_X6_131 cd_X6_countHidden im_X6_countHidden se_X6_countHidden (mX6_countHidden l G B0 ad F (S) (by exact hI)) ⟨by decide, by decide⟩ ⟨by decide, by decide⟩ 0 rfl rfl rfl rfl (Nat.le_of_ble_eq_true rfl) dX6_hidden_1) (pc' := 4) rfl (fun r1 _ hw1 => ?_)
  subst hw1
  subst hQ
  exact ye_i C hr (vp_nar_int _) () dX6_hidden_4 rfl (by decide) (by decide) rfl

abbrev rX6_addJoin : Room := { frames := 7, cells := 1, slots := 6, locals := 115 }
set_option maxHeartbeats 4000000 in
set_option maxRecDepth 100000 in
theorem mX6_addJoin (l : Launch) (hl0 : l.stackTraces = false) (G : gG) (B0 : Nat) (ad : Nat → Nat) (F : va_W) (S : SA) (a b t : Int32) (hI : IA S) : vy_Met l yX6_addJoin (Cond.code yX6_addJoin cX6_addJoin 5 (some .int) :: WG) rX6_addJoin (va_Pc [.ref (ad 0), .int a, .int b, .int t] (PR G B0 (wA G ad S ++ F))) (va_Qi (fun (r : Int32) (u : Nat × Nat × Nat) => cdAddJoin (S.1 1) (S.1 4) a b t = 0 ∧ (a = nI u.1 ∧ b = nI u.2.1 ∧ t = nI u.2.2) ∧ (u.1 < S.1 1 ∧ u.2.1 < S.1 1 ∧ u.2.2 < S.1 1) ∧ r = nI (S.1 4)) (fun (u : Nat × Nat × Nat) (t_ : State) => va_P G.1 vwCl (wA G ad (grS (jnS S u.1 u.2.1 u.2.2) 5) ++ F) t_.heap ∧ va_D (fun q => B0 ≤ q) (wA G ad (grS (jnS S u.1 u.2.1 u.2.2) 5) ++ F)) (fun q => B0 ≤ q)) (vx_X (fun _ : Unit => True) (fun (E : String) (_ : Unit) (t_ : State) => ((E = "java/lang/IndexOutOfBoundsException" ∧ cdAddJoin (S.1 1) (S.1 4) a b t = 1) ∨ (E = "java/lang/IllegalArgumentException" ∧ cdAddJoin (S.1 1) (S.1 4) a b t = 2) ∨ (E = "java/lang/IllegalStateException" ∧ cdAddJoin (S.1 1) (S.1 4) a b t = 3)) ∧ va_P G.1 vwCl (wA G ad S ++ F) t_.heap ∧ va_D (fun q => B0 ≤ q) (wA G ad S ++ F)) (fun q => B0 ≤ q)) rX6_addJoin.cells rX6_addJoin.slots (fun q => B0 ≤ q) := by
  refine xmet_of RX6 [(0, .ref (ad 0)), (1, .int a), (2, .int b), (3, .int t)] rfl (by decide) (Nat.le_of_ble_eq_true rfl) rfl ?_
  intro p e s m args below meth c C hr hnm hno
  refine yq ?_
  intro QQ hQ
  obtain ⟨i0, i1, i2, i3, i4, i5, i6, i7, i8, iJ, iH, iG, iQ⟩ := id hI
  refine yy_aload_n C 0 dX6_addJoin_0 (pc' := 1) rfl rfl rfl ?_
  refine yy_iload_n C 1 dX6_addJoin_1 (pc' := 2) rfl rfl rfl ?_
  refine xc_v (xr_V C (As := [.int a]) (rest := []) lk_X6_78 cd_X6_requireLine im_X6_requireLine se_X6_requireLine (mX6_requireLine l hl0 G B0 ad F (S) a (by exact hI)) ⟨by decide, by decide⟩ ⟨by decide, by decide⟩ 0 rfl rfl rfl rfl (Nat.le_of_ble_eq_true rfl) dX6_addJoin_2) (pc' := 5) rfl (fun E _ hw1 => ?_) (fun _ hw1 => ?_)
  · skip
    obtain ⟨rfl, hx_⟩ := hw1
    subst hQ; exact xe_out C hno () rfl (by simp [hx_, cdAddJoin]) (by decide) (by decide)
  have zn1 := hw1
  obtain ⟨ja, hja, rfl⟩ := inR_of (by omega) zn1
  have eja : ix (nI ja) = ja := ix_lt hja (by omega)
  refine yy_aload_n C 0 dX6_addJoin_5 (pc' := 6) rfl rfl rfl ?_
  refine yy_iload_n C 2 dX6_addJoin_6 (pc' := 7) rfl rfl rfl ?_
  refine xc_v (xr_V C (As := [.int b]) (rest := []) lk_X6_78 cd_X6_requireLine im_X6_requireLine se_X6_requireLine (mX6_requireLine l hl0 G B0 ad F (S) b (by exact hI)) ⟨by decide, by decide⟩ ⟨by decide, by decide⟩ 0 rfl rfl rfl rfl (Nat.le_of_ble_eq_true rfl) dX6_addJoin_7) (pc' := 10) rfl (fun E _ hw2 => ?_) (fun _ hw2 => ?_)
  · skip
    obtain ⟨rfl, hx_⟩ := hw2
    subst hQ; exact xe_out C hno () rfl (by simp [hx_, cdAddJoin, zn1, eja]) (by decide) (by decide)
  have zn2 := hw2
  obtain ⟨jb, hjb, rfl⟩ := inR_of (by omega) zn2
  have ejb : ix (nI jb) = jb := ix_lt hjb (by omega)
  refine yy_aload_n C 0 dX6_addJoin_10 (pc' := 11) rfl rfl rfl ?_
  refine yy_iload_n C 3 dX6_addJoin_11 (pc' := 12) rfl rfl rfl ?_
  refine xc_v (xr_V C (As := [.int t]) (rest := []) lk_X6_78 cd_X6_requireLine im_X6_requireLine se_X6_requireLine (mX6_requireLine l hl0 G B0 ad F (S) t (by exact hI)) ⟨by decide, by decide⟩ ⟨by decide, by decide⟩ 0 rfl rfl rfl rfl (Nat.le_of_ble_eq_true rfl) dX6_addJoin_12) (pc' := 15) rfl (fun E _ hw3 => ?_) (fun _ hw3 => ?_)
  · skip
    obtain ⟨rfl, hx_⟩ := hw3
    subst hQ; exact xe_out C hno () rfl (by simp [hx_, cdAddJoin, zn1, eja, zn2, ejb]) (by decide) (by decide)
  have zn3 := hw3
  obtain ⟨jt, hjt, rfl⟩ := inR_of (by omega) zn3
  have ejt : ix (nI jt) = jt := ix_lt hjt (by omega)
  refine yy_iload_n C 1 dX6_addJoin_15 (pc' := 16) rfl rfl rfl ?_
  refine yy_iload_n C 2 dX6_addJoin_16 (pc' := 17) rfl rfl rfl ?_
  refine yn_icmp_eq C (by omega) (by omega) dX6_addJoin_17 (pc' := 20) rfl (tgt := 30) (by decide) (fun c_17 => ?_) (fun c_17 => ?_)
  · skip
    subst hQ
    exact xe_throwS C hl0 th_X6_137_141 hno (is := 139) (text := "two of the lines are the same") (by decide +kernel) dX6_addJoin_30 dX6_addJoin_33 dX6_addJoin_34 dX6_addJoin_36 dX6_addJoin_39 () rfl (by simp [cdAddJoin, zn1, eja, zn2, ejb, zn3, ejt, nI_eq, c_17]) (by decide) (by decide) (by decide) (by decide) (by decide) (by decide)
  · skip
    refine yy_iload_n C 1 dX6_addJoin_20 (pc' := 21) rfl rfl rfl ?_
    refine yy_iload_n C 3 dX6_addJoin_21 (pc' := 22) rfl rfl rfl ?_
    refine yn_icmp_eq C (by omega) (by omega) dX6_addJoin_22 (pc' := 25) rfl (tgt := 30) (by decide) (fun c_22 => ?_) (fun c_22 => ?_)
    · skip
      subst hQ
      exact xe_throwS C hl0 th_X6_137_141 hno (is := 139) (text := "two of the lines are the same") (by decide +kernel) dX6_addJoin_30 dX6_addJoin_33 dX6_addJoin_34 dX6_addJoin_36 dX6_addJoin_39 () rfl (by simp [cdAddJoin, zn1, eja, zn2, ejb, zn3, ejt, nI_eq, c_17, c_22]) (by decide) (by decide) (by decide) (by decide) (by decide) (by decide)
    · skip
      refine yy_iload_n C 2 dX6_addJoin_25 (pc' := 26) rfl rfl rfl ?_
      refine yy_iload_n C 3 dX6_addJoin_26 (pc' := 27) rfl rfl rfl ?_
      refine yn_icmp_ne C (by omega) (by omega) dX6_addJoin_27 (pc' := 30) rfl (tgt := 40) (by decide) (fun c_27 => ?_) (fun c_27 => ?_)
      · skip
        refine yy_aload_n C 0 dX6_addJoin_40 (pc' := 41) rfl rfl rfl ?_
        refine yy_get C (v := .ref (ad 4)) fk_X6_33 0 dX6_addJoin_41 (pc' := 44) rfl rfl rfl ?_
        refine yy_iload_n C 1 dX6_addJoin_44 (pc' := 45) rfl rfl rfl ?_
        refine yy_iload_n C 2 dX6_addJoin_45 (pc' := 46) rfl rfl rfl ?_
        refine yy_iload_n C 3 dX6_addJoin_46 (pc' := 47) rfl rfl rfl ?_
        refine xc_i (xr_V C (As := [.int (nI ja), .int (nI jb), .int (nI jt)]) (rest := []) lk_X6_142 cd_X0_append im_X0_append se_X0_append (mX0_append l hl0 G B0 ad F (S) ja jb jt (by omega) (by omega) (by omega) (by exact hI)) ⟨by decide, by decide⟩ ⟨by decide, by decide⟩ 4 rfl rfl rfl rfl (Nat.le_of_ble_eq_true rfl) dX6_addJoin_47) (pc' := 50) rfl (fun E _ hw4 => ?_) (fun r4 _ hw4 => ?_)
        · skip
          obtain ⟨rfl, hx_⟩ := hw4
          subst hQ; exact xe_out C hno () rfl (Or.inr (Or.inr ⟨rfl, by rw [cdAddJoin, if_neg (by simp [zn1, eja, zn2, ejb, zn3, ejt]), if_neg (by simp [join_ne c_17 c_22 c_27 hja hjb hjt (by omega)]), if_pos hx_]⟩)) (by decide) (by decide)
        obtain ⟨zn4, rfl⟩ := hw4
        have hI2 : IA (jnS S ja jb jt) := IA_jn hI (by omega) (by omega) (by omega) (by omega)
        refine yy_istore C (L' := [(4, .int (nI (S.1 4))), (0, .ref (ad 0)), (1, .int (nI ja)), (2, .int (nI jb)), (3, .int (nI jt))]) dX6_addJoin_50 (pc' := 52) rfl (by decide) rfl ?_
        refine yy_aload_n C 1 dX6_addJoin_52 (pc' := 53) rfl rfl rfl ?_
        refine yc_v (yr_V C (As := []) (rest := []) lk_X6_143 cd_X6_growAllHeld im_X6_growAllHeld se_X6_growAllHeld (mX6_growAllHeld l G B0 ad F (sN (sJ (sJ S 1 (vp_updL (S.2.2 1) (S.1 4) (lN (2 ^ ja ||| 2 ^ jb)))) 2 (vp_updL (S.2.2 2) (S.1 4) (lN (2 ^ jt)))) 4 (S.1 4 + 1)) hI2) ⟨by decide, by decide⟩ ⟨by decide, by decide⟩ 0 rfl rfl rfl rfl (Nat.le_of_ble_eq_true rfl) dX6_addJoin_53) (pc' := 56) rfl (fun _ hw5 => ?_)
        refine yy_iload C 0 dX6_addJoin_56 (pc' := 58) rfl rfl ?_
        subst hQ
        exact xe_i C hr (vp_nar_int _) (ja, jb, jt) dX6_addJoin_58 rfl (by decide) (by decide) ⟨by rw [cdAddJoin, if_neg (by simp [zn1, eja, zn2, ejb, zn3, ejt]), if_neg (by simp [join_ne c_17 c_22 c_27 hja hjb hjt (by omega)]), if_neg (by omega)], ⟨rfl, rfl, rfl⟩, ⟨hja, hjb, hjt⟩, rfl⟩
      · skip
        subst hQ
        exact xe_throwS C hl0 th_X6_137_141 hno (is := 139) (text := "two of the lines are the same") (by decide +kernel) dX6_addJoin_30 dX6_addJoin_33 dX6_addJoin_34 dX6_addJoin_36 dX6_addJoin_39 () rfl (by simp [cdAddJoin, zn1, eja, zn2, ejb, zn3, ejt, nI_eq, c_17, c_22, c_27]) (by decide) (by decide) (by decide) (by decide) (by decide) (by decide)
