def vOK (v : Int32) : Bool := inB v 0 (nI 9999)
def cd1 (n : Nat) (x : Int32) : Nat := if inR x n = true then 0 else 1
def cdAddDoc (nd : Nat) : Nat := if nd = 8 then 1 else 0
def cdAddLine (nd nl : Nat) (d v : Int32) : Nat := if inR d nd = false then 1 else if vOK v = false then 2 else if nl = 40 then 3 else 0
def cdRescan (nl : Nat) (x v : Int32) : Nat := if inR x nl = false then 1 else if vOK v = false then 2 else 0
def cdAddRule (nr dy : Nat) (f g t : Int32) : Nat := if (vOK f && inB g f (nI 9999) && inB t (nI dy) (nI 9999)) = false then 1 else if nr = 8 then 2 else 0
def cdAddSpan (nd ns dy : Nat) (d f g t : Int32) : Nat := if inR d nd = false then 1 else if (inB f 0 (nI 39) && inB g f (nI 39) && inB t (nI dy) (nI 9999)) = false then 2 else if ns = 12 then 3 else 0
def cdLift (ns : Nat) (lf sl : Nat → Int32) (dy : Nat) (k : Int32) : Nat := if inR k ns = false then 1 else if frc lf sl dy (ix k) = false then 2 else 0
def cdLiftA (ns : Nat) (sl : Nat → Int32) (dy : Nat) (k : Int32) : Nat := if inR k ns = false then 1 else if sl (ix k) < nI dy then 2 else 0
def cdAddJoin (nl nj : Nat) (a b t : Int32) : Nat := if (inR a nl && inR b nl && inR t nl) = false then 1 else if (decide (a = b) || decide (a = t) || decide (b = t)) = true then 2 else if nj = 10 then 3 else 0
def cdHolds (nl : Nat) (a x : Int32) : Nat := if inR a 5 = false then 1 else if inR x nl = false then 2 else 0
def cdNH (nl : Nat) (h : Nat → Nat → Bool) (a x : Int32) : Nat := if inR a 5 = false then 1 else if inR x nl = false then 2 else if h (ix a) (ix x) = true then 3 else 0
def cdReq (nd nq : Nat) (ow : Nat → Int32) (wt : Bool) (a d : Int32) : Nat := if inR a 5 = false then 1 else if inR d nd = false then 2 else if nI 100 < ow (ix a) then 3 else if (decide (nq = 20) || wt) = true then 4 else 0
def cdAns (nq : Nat) (q : Nat → Int32) (k : Int32) : Nat := if inR k nq = false then 1 else if q (ix k) = nI 119 then 0 else 2
def cdPrice (z : Int32) : Nat := if inB z 0 (nI 99) = true then 0 else 1
def cdPay (ow : Nat → Int32) (a z : Int32) : Nat := if inR a 5 = false then 1 else if inB z (nI 1) (ow (ix a)) = true then 0 else 1
def cdPass (dy : Nat) (z : Int32) : Nat := if inB z (nI 1) (nI 90) = true then (if nI 9999 < nI dy + z then 1 else 0) else 1
def hb (S : SA) (a k : Nat) : Bool := (mk (S.2.2 0 a)).testBit k
theorem cd1_0 {n : Nat} {x : Int32} (h : cd1 n x = 0) : inR x n = true := by
  unfold cd1 at h
  split at h
  · assumption
  · exact absurd h (by decide)
theorem ix_lt {j n : Nat} (h : j < n) (h2 : n ≤ 4294967296) : ix (nI j) = j := ix_nI (Nat.lt_of_lt_of_le h h2)
theorem cdNH_0 {nl : Nat} {h : Nat → Nat → Bool} {a x : Int32} (e : cdNH nl h a x = 0) : inR a 5 = true ∧ inR x nl = true ∧ h (ix a) (ix x) = false := by
  unfold cdNH at e
  split at e
  · exact absurd e (by decide)
  · split at e
    · exact absurd e (by decide)
    · split at e
      · exact absurd e (by decide)
      · rename_i h1 h2 h3
        exact ⟨by simpa using h1, by simpa using h2, by simpa using h3⟩
theorem fst_lt {p : Nat → Bool} : ∀ {n k : Nat}, fstB p n = some k → k < n ∧ p k = true
  | 0, _, h => by cases h
  | n + 1, k, h => by
    unfold fstB at h
    cases hc : fstB p n with
    | some q =>
      rw [hc] at h
      have h2 := fst_lt hc
      cases h
      exact ⟨Nat.lt_succ_of_lt h2.1, h2.2⟩
    | none =>
      rw [hc] at h
      by_cases hp : p n = true
      · simp [hp] at h
        exact h ▸ ⟨Nat.lt_succ_self n, hp⟩
      · simp [hp] at h
theorem prot_ix {S : SA} {a k : Nat} (h40 : S.1 1 ≤ 40) (hk : k < S.1 1) (h : ¬ protI S a k = -1) : ix (protI S a k) < S.1 1 := by
  unfold protI at h ⊢
  split
  · rw [ix_nI (by omega)]; exact hk
  · rename_i hc
    rw [if_neg hc] at h
    unfold fstI at h ⊢
    split
    · rename_i q hq
      have := (fst_lt hq).1
      rw [ix_nI (by omega)]; exact this
    · rename_i hq
      rw [hq] at h
      exact absurd rfl h
def whyC (S : SA) (a k : Nat) : Int32 := if protI S a k = -1 then nI 45 else if protI S a k = nI k then (if hRA S k = true then nI 114 else nI 115) else nI 106
def rootC (S : SA) (a k : Nat) : Int32 := if hSA S (ix (protI S a k)) = true then nI 115 else nI 114
def causesI (S : SA) (a k : Nat) : Int32 := if protI S a k = -1 then nI 0 else (if protI S a k = nI k then nI 0 else nI 1) + (bI (hRA S (ix (protI S a k))) + bI (hSA S (ix (protI S a k))))
abbrev rX6_requireDocument : Room := { frames := 6, cells := 1, slots := 6, locals := 92 }
set_option maxHeartbeats 4000000 in
set_option maxRecDepth 100000 in
theorem mX6_requireDocument (l : Launch) (hl0 : l.stackTraces = false) (G : gG) (B0 : Nat) (ad : Nat → Nat) (F : va_W) (S : SA) (x : Int32) (hI : IA S) : vy_Met l yX6_requireDocument (Cond.code yX6_requireDocument cX6_requireDocument 2 none :: WG) rX6_requireDocument (va_Pc [.ref (ad 0), .int x] (PR G B0 (wA G ad S ++ F))) (va_Qv (fun (_ : Unit) => inR x (S.1 0) = true) (fun (_ : Unit) (t_ : State) => va_P G.1 vwCl (wA G ad S ++ F) t_.heap ∧ va_D (fun q => B0 ≤ q) (wA G ad S ++ F)) (fun q => B0 ≤ q)) (vx_X (fun _ : Unit => True) (fun (E : String) (_ : Unit) (t_ : State) => (E = "java/lang/IndexOutOfBoundsException" ∧ inR x (S.1 0) = false) ∧ va_P G.1 vwCl (wA G ad S ++ F) t_.heap ∧ va_D (fun q => B0 ≤ q) (wA G ad S ++ F)) (fun q => B0 ≤ q)) rX6_requireDocument.cells rX6_requireDocument.slots (fun q => B0 ≤ q) := by
  refine xmet_of RX6 [(0, .ref (ad 0)), (1, .int x)] rfl (by decide) (Nat.le_of_ble_eq_true rfl) rfl ?_
  intro p e s m args below meth c C hr hnm hno
  refine yq ?_
  intro QQ hQ
  obtain ⟨i0, i1, i2, i3, i4, i5, i6, i7, i8, iJ, iH, iG, iQ⟩ := id hI
  refine yy_iload_n C 1 dX6_requireDocument_0 (pc' := 1) rfl rfl rfl ?_
  refine yy_if_lt C dX6_requireDocument_1 (pc' := 4) rfl (tgt := 15) (by decide) (fun c_1 => ?_) (fun c_1 => ?_)
  · skip
    subst hQ
    exact xe_throwS C hl0 th_X6_113_117 hno (is := 244) (text := "there is no such document") (by decide +kernel) dX6_requireDocument_15 dX6_requireDocument_18 dX6_requireDocument_19 dX6_requireDocument_21 dX6_requireDocument_24 () rfl (by simp [inR, c_1]) (by decide) (by decide) (by decide) (by decide) (by decide) (by decide)
  · skip
    refine yy_iload_n C 1 dX6_requireDocument_4 (pc' := 5) rfl rfl rfl ?_
    refine yy_aload_n C 0 dX6_requireDocument_5 (pc' := 6) rfl rfl rfl ?_
    refine yy_get C (v := .ref (ad 1)) fk_X6_12 0 dX6_requireDocument_6 (pc' := 9) rfl rfl rfl ?_
    refine yy_get C (v := .int (nI (S.1 0))) fk_X6_241 1 dX6_requireDocument_9 (pc' := 12) rfl rfl rfl ?_
    refine yy_icmp_lt C dX6_requireDocument_12 (pc' := 15) rfl (tgt := 25) (by decide) (fun c_12 => ?_) (fun c_12 => ?_)
    · skip
      subst hQ
      exact xe_v C hr () dX6_requireDocument_25 rfl (by decide) (by decide) (by simp [inR, c_1, c_12])
    · skip
      subst hQ
      exact xe_throwS C hl0 th_X6_113_117 hno (is := 244) (text := "there is no such document") (by decide +kernel) dX6_requireDocument_15 dX6_requireDocument_18 dX6_requireDocument_19 dX6_requireDocument_21 dX6_requireDocument_24 () rfl (by simp [inR, c_1, c_12]) (by decide) (by decide) (by decide) (by decide) (by decide) (by decide)

abbrev rX6_requireLine : Room := { frames := 6, cells := 1, slots := 6, locals := 92 }
set_option maxHeartbeats 4000000 in
set_option maxRecDepth 100000 in
theorem mX6_requireLine (l : Launch) (hl0 : l.stackTraces = false) (G : gG) (B0 : Nat) (ad : Nat → Nat) (F : va_W) (S : SA) (x : Int32) (hI : IA S) : vy_Met l yX6_requireLine (Cond.code yX6_requireLine cX6_requireLine 2 none :: WG) rX6_requireLine (va_Pc [.ref (ad 0), .int x] (PR G B0 (wA G ad S ++ F))) (va_Qv (fun (_ : Unit) => inR x (S.1 1) = true) (fun (_ : Unit) (t_ : State) => va_P G.1 vwCl (wA G ad S ++ F) t_.heap ∧ va_D (fun q => B0 ≤ q) (wA G ad S ++ F)) (fun q => B0 ≤ q)) (vx_X (fun _ : Unit => True) (fun (E : String) (_ : Unit) (t_ : State) => (E = "java/lang/IndexOutOfBoundsException" ∧ inR x (S.1 1) = false) ∧ va_P G.1 vwCl (wA G ad S ++ F) t_.heap ∧ va_D (fun q => B0 ≤ q) (wA G ad S ++ F)) (fun q => B0 ≤ q)) rX6_requireLine.cells rX6_requireLine.slots (fun q => B0 ≤ q) := by
  refine xmet_of RX6 [(0, .ref (ad 0)), (1, .int x)] rfl (by decide) (Nat.le_of_ble_eq_true rfl) rfl ?_
  intro p e s m args below meth c C hr hnm hno
  refine yq ?_
  intro QQ hQ
  obtain ⟨i0, i1, i2, i3, i4, i5, i6, i7, i8, iJ, iH, iG, iQ⟩ := id hI
  refine yy_iload_n C 1 dX6_requireLine_0 (pc' := 1) rfl rfl rfl ?_
  refine yy_if_lt C dX6_requireLine_1 (pc' := 4) rfl (tgt := 15) (by decide) (fun c_1 => ?_) (fun c_1 => ?_)
  · skip
    subst hQ
    exact xe_throwS C hl0 th_X6_113_117 hno (is := 247) (text := "there is no such line") (by decide +kernel) dX6_requireLine_15 dX6_requireLine_18 dX6_requireLine_19 dX6_requireLine_21 dX6_requireLine_24 () rfl (by simp [inR, c_1]) (by decide) (by decide) (by decide) (by decide) (by decide) (by decide)
  · skip
    refine yy_iload_n C 1 dX6_requireLine_4 (pc' := 5) rfl rfl rfl ?_
    refine yy_aload_n C 0 dX6_requireLine_5 (pc' := 6) rfl rfl rfl ?_
    refine yy_get C (v := .ref (ad 1)) fk_X6_12 0 dX6_requireLine_6 (pc' := 9) rfl rfl rfl ?_
    refine yy_get C (v := .int (nI (S.1 1))) fk_X6_246 1 dX6_requireLine_9 (pc' := 12) rfl rfl rfl ?_
    refine yy_icmp_lt C dX6_requireLine_12 (pc' := 15) rfl (tgt := 25) (by decide) (fun c_12 => ?_) (fun c_12 => ?_)
    · skip
      subst hQ
      exact xe_v C hr () dX6_requireLine_25 rfl (by decide) (by decide) (by simp [inR, c_1, c_12])
    · skip
      subst hQ
      exact xe_throwS C hl0 th_X6_113_117 hno (is := 247) (text := "there is no such line") (by decide +kernel) dX6_requireLine_15 dX6_requireLine_18 dX6_requireLine_19 dX6_requireLine_21 dX6_requireLine_24 () rfl (by simp [inR, c_1, c_12]) (by decide) (by decide) (by decide) (by decide) (by decide) (by decide)

abbrev rX6_requireRequest : Room := { frames := 6, cells := 1, slots := 6, locals := 92 }
set_option maxHeartbeats 4000000 in
set_option maxRecDepth 100000 in
theorem mX6_requireRequest (l : Launch) (hl0 : l.stackTraces = false) (G : gG) (B0 : Nat) (ad : Nat → Nat) (F : va_W) (S : SA) (x : Int32) (hI : IA S) : vy_Met l yX6_requireRequest (Cond.code yX6_requireRequest cX6_requireRequest 2 none :: WG) rX6_requireRequest (va_Pc [.ref (ad 0), .int x] (PR G B0 (wA G ad S ++ F))) (va_Qv (fun (_ : Unit) => inR x (S.1 6) = true) (fun (_ : Unit) (t_ : State) => va_P G.1 vwCl (wA G ad S ++ F) t_.heap ∧ va_D (fun q => B0 ≤ q) (wA G ad S ++ F)) (fun q => B0 ≤ q)) (vx_X (fun _ : Unit => True) (fun (E : String) (_ : Unit) (t_ : State) => (E = "java/lang/IndexOutOfBoundsException" ∧ inR x (S.1 6) = false) ∧ va_P G.1 vwCl (wA G ad S ++ F) t_.heap ∧ va_D (fun q => B0 ≤ q) (wA G ad S ++ F)) (fun q => B0 ≤ q)) rX6_requireRequest.cells rX6_requireRequest.slots (fun q => B0 ≤ q) := by
  refine xmet_of RX6 [(0, .ref (ad 0)), (1, .int x)] rfl (by decide) (Nat.le_of_ble_eq_true rfl) rfl ?_
  intro p e s m args below meth c C hr hnm hno
  refine yq ?_
  intro QQ hQ
  obtain ⟨i0, i1, i2, i3, i4, i5, i6, i7, i8, iJ, iH, iG, iQ⟩ := id hI
  refine yy_iload_n C 1 dX6_requireRequest_0 (pc' := 1) rfl rfl rfl ?_
  refine yy_if_lt C dX6_requireRequest_1 (pc' := 4) rfl (tgt := 15) (by decide) (fun c_1 => ?_) (fun c_1 => ?_)
  · skip
    subst hQ
    exact xe_throwS C hl0 th_X6_113_117 hno (is := 249) (text := "there is no such request") (by decide +kernel) dX6_requireRequest_15 dX6_requireRequest_18 dX6_requireRequest_19 dX6_requireRequest_21 dX6_requireRequest_24 () rfl (by simp [inR, c_1]) (by decide) (by decide) (by decide) (by decide) (by decide) (by decide)
  · skip
    refine yy_iload_n C 1 dX6_requireRequest_4 (pc' := 5) rfl rfl rfl ?_
    refine yy_aload_n C 0 dX6_requireRequest_5 (pc' := 6) rfl rfl rfl ?_
    refine yy_get C (v := .ref (ad 6)) fk_X6_47 0 dX6_requireRequest_6 (pc' := 9) rfl rfl rfl ?_
    refine yy_get C (v := .int (nI (S.1 6))) fk_X6_236 6 dX6_requireRequest_9 (pc' := 12) rfl rfl rfl ?_
    refine yy_icmp_lt C dX6_requireRequest_12 (pc' := 15) rfl (tgt := 25) (by decide) (fun c_12 => ?_) (fun c_12 => ?_)
    · skip
      subst hQ
      exact xe_v C hr () dX6_requireRequest_25 rfl (by decide) (by decide) (by simp [inR, c_1, c_12])
    · skip
      subst hQ
      exact xe_throwS C hl0 th_X6_113_117 hno (is := 249) (text := "there is no such request") (by decide +kernel) dX6_requireRequest_15 dX6_requireRequest_18 dX6_requireRequest_19 dX6_requireRequest_21 dX6_requireRequest_24 () rfl (by simp [inR, c_1, c_12]) (by decide) (by decide) (by decide) (by decide) (by decide) (by decide)

abbrev rX6_requireAsker : Room := { frames := 6, cells := 1, slots := 6, locals := 92 }
set_option maxHeartbeats 4000000 in
set_option maxRecDepth 100000 in
theorem mX6_requireAsker (l : Launch) (hl0 : l.stackTraces = false) (G : gG) (B0 : Nat) (w : va_W) (x : Int32) : vy_Met l yX6_requireAsker (Cond.code yX6_requireAsker cX6_requireAsker 1 none :: WG) rX6_requireAsker (va_Pc [.int x] (PR G B0 (w))) (va_Qv (fun (_ : Unit) => inR x 5 = true) (fun (_ : Unit) (t_ : State) => va_P G.1 vwCl (w) t_.heap ∧ va_D (fun q => B0 ≤ q) (w)) (fun q => B0 ≤ q)) (vx_X (fun _ : Unit => True) (fun (E : String) (_ : Unit) (t_ : State) => (E = "java/lang/IllegalArgumentException" ∧ inR x 5 = false) ∧ va_P G.1 vwCl (w) t_.heap ∧ va_D (fun q => B0 ≤ q) (w)) (fun q => B0 ≤ q)) rX6_requireAsker.cells rX6_requireAsker.slots (fun q => B0 ≤ q) := by
  refine xmet_of RX6 [(0, .int x)] rfl (by decide) (Nat.le_of_ble_eq_true rfl) rfl ?_
  intro p e s m args below meth c C hr hnm hno
  refine yq ?_
  intro QQ hQ
  refine yy_iload_n C 0 dX6_requireAsker_0 (pc' := 1) rfl rfl rfl ?_
  refine yy_if_lt C dX6_requireAsker_1 (pc' := 4) rfl (tgt := 9) (by decide) (fun c_1 => ?_) (fun c_1 => ?_)
  · skip
    subst hQ
    exact xe_throwS C hl0 th_X6_137_141 hno (is := 253) (text := "there is no such asker") (by decide +kernel) dX6_requireAsker_9 dX6_requireAsker_12 dX6_requireAsker_13 dX6_requireAsker_15 dX6_requireAsker_18 () rfl (by simp [inR, Int32.not_le, Int32.not_lt, c_1]) (by decide) (by decide) (by decide) (by decide) (by decide) (by decide)
  · skip
    refine yy_iload_n C 0 dX6_requireAsker_4 (pc' := 5) rfl rfl rfl ?_
    refine yy_iconst C (v := (nI 5)) dX6_requireAsker_5 (pc' := 6) rfl (by decide) ?_
    refine yy_icmp_lt C dX6_requireAsker_6 (pc' := 9) rfl (tgt := 19) (by decide) (fun c_6 => ?_) (fun c_6 => ?_)
    · skip
      subst hQ
      exact xe_v C hr () dX6_requireAsker_19 rfl (by decide) (by decide) (by simp [inR, Int32.not_le, Int32.not_lt, c_1, c_6])
    · skip
      subst hQ
      exact xe_throwS C hl0 th_X6_137_141 hno (is := 253) (text := "there is no such asker") (by decide +kernel) dX6_requireAsker_9 dX6_requireAsker_12 dX6_requireAsker_13 dX6_requireAsker_15 dX6_requireAsker_18 () rfl (by simp [inR, Int32.not_le, Int32.not_lt, c_1, c_6]) (by decide) (by decide) (by decide) (by decide) (by decide) (by decide)

abbrev rX6_requireValue : Room := { frames := 6, cells := 1, slots := 6, locals := 92 }
set_option maxHeartbeats 4000000 in
set_option maxRecDepth 100000 in
theorem mX6_requireValue (l : Launch) (hl0 : l.stackTraces = false) (G : gG) (B0 : Nat) (w : va_W) (x : Int32) : vy_Met l yX6_requireValue (Cond.code yX6_requireValue cX6_requireValue 1 none :: WG) rX6_requireValue (va_Pc [.int x] (PR G B0 (w))) (va_Qv (fun (_ : Unit) => vOK x = true) (fun (_ : Unit) (t_ : State) => va_P G.1 vwCl (w) t_.heap ∧ va_D (fun q => B0 ≤ q) (w)) (fun q => B0 ≤ q)) (vx_X (fun _ : Unit => True) (fun (E : String) (_ : Unit) (t_ : State) => (E = "java/lang/IllegalArgumentException" ∧ vOK x = false) ∧ va_P G.1 vwCl (w) t_.heap ∧ va_D (fun q => B0 ≤ q) (w)) (fun q => B0 ≤ q)) rX6_requireValue.cells rX6_requireValue.slots (fun q => B0 ≤ q) := by
  refine xmet_of RX6 [(0, .int x)] rfl (by decide) (Nat.le_of_ble_eq_true rfl) rfl ?_
  intro p e s m args below meth c C hr hnm hno
  refine yq ?_
  intro QQ hQ
  refine yy_iload_n C 0 dX6_requireValue_0 (pc' := 1) rfl rfl rfl ?_
  refine yy_if_lt C dX6_requireValue_1 (pc' := 4) rfl (tgt := 11) (by decide) (fun c_1 => ?_) (fun c_1 => ?_)
  · skip
    subst hQ
    exact xe_throwSW C hl0 th_X6_137_141 hno (is := 257) (text := "a value is not between 0 and 9999") (by decide +kernel) dX6_requireValue_11 dX6_requireValue_14 dX6_requireValue_15 dX6_requireValue_18 dX6_requireValue_21 () rfl (by simp [vOK, inB, Int32.not_le, Int32.not_lt, c_1]) (by decide) (by decide) (by decide) (by decide) (by decide) (by decide)
  · skip
    refine yy_iload_n C 0 dX6_requireValue_4 (pc' := 5) rfl rfl rfl ?_
    refine yy_sipush C (v := (nI 9999)) dX6_requireValue_5 (pc' := 8) rfl (by decide) ?_
    refine yy_icmp_le C dX6_requireValue_8 (pc' := 11) rfl (tgt := 22) (by decide) (fun c_8 => ?_) (fun c_8 => ?_)
    · skip
      subst hQ
      exact xe_v C hr () dX6_requireValue_22 rfl (by decide) (by decide) (by simp [vOK, inB, Int32.not_le, Int32.not_lt, c_1, c_8, Int32.not_lt.mpr c_8])
    · skip
      subst hQ
      exact xe_throwSW C hl0 th_X6_137_141 hno (is := 257) (text := "a value is not between 0 and 9999") (by decide +kernel) dX6_requireValue_11 dX6_requireValue_14 dX6_requireValue_15 dX6_requireValue_18 dX6_requireValue_21 () rfl (by simp [vOK, inB, Int32.not_le, Int32.not_lt, c_1, c_8, Int32.not_le.mp c_8]) (by decide) (by decide) (by decide) (by decide) (by decide) (by decide)

abbrev rX6_requireIndex : Room := { frames := 6, cells := 1, slots := 6, locals := 92 }
set_option maxHeartbeats 4000000 in
set_option maxRecDepth 100000 in
theorem mX6_requireIndex (l : Launch) (hl0 : l.stackTraces = false) (G : gG) (B0 : Nat) (w : va_W) (x : Int32) : vy_Met l yX6_requireIndex (Cond.code yX6_requireIndex cX6_requireIndex 1 none :: WG) rX6_requireIndex (va_Pc [.int x] (PR G B0 (w))) (va_Qv (fun (_ : Unit) => inB x 0 (nI 39) = true) (fun (_ : Unit) (t_ : State) => va_P G.1 vwCl (w) t_.heap ∧ va_D (fun q => B0 ≤ q) (w)) (fun q => B0 ≤ q)) (vx_X (fun _ : Unit => True) (fun (E : String) (_ : Unit) (t_ : State) => (E = "java/lang/IllegalArgumentException" ∧ inB x 0 (nI 39) = false) ∧ va_P G.1 vwCl (w) t_.heap ∧ va_D (fun q => B0 ≤ q) (w)) (fun q => B0 ≤ q)) rX6_requireIndex.cells rX6_requireIndex.slots (fun q => B0 ≤ q) := by
  refine xmet_of RX6 [(0, .int x)] rfl (by decide) (Nat.le_of_ble_eq_true rfl) rfl ?_
  intro p e s m args below meth c C hr hnm hno
  refine yq ?_
  intro QQ hQ
  refine yy_iload_n C 0 dX6_requireIndex_0 (pc' := 1) rfl rfl rfl ?_
  refine yy_if_lt C dX6_requireIndex_1 (pc' := 4) rfl (tgt := 10) (by decide) (fun c_1 => ?_) (fun c_1 => ?_)
  · skip
    subst hQ
    exact xe_throwSW C hl0 th_X6_137_141 hno (is := 259) (text := "an index is not between 0 and 39") (by decide +kernel) dX6_requireIndex_10 dX6_requireIndex_13 dX6_requireIndex_14 dX6_requireIndex_17 dX6_requireIndex_20 () rfl (by simp [inB, Int32.not_le, Int32.not_lt, c_1]) (by decide) (by decide) (by decide) (by decide) (by decide) (by decide)
  · skip
    refine yy_iload_n C 0 dX6_requireIndex_4 (pc' := 5) rfl rfl rfl ?_
    refine yy_bipush C (v := (nI 39)) dX6_requireIndex_5 (pc' := 7) rfl (by decide) ?_
    refine yy_icmp_le C dX6_requireIndex_7 (pc' := 10) rfl (tgt := 21) (by decide) (fun c_7 => ?_) (fun c_7 => ?_)
    · skip
      subst hQ
      exact xe_v C hr () dX6_requireIndex_21 rfl (by decide) (by decide) (by simp [inB, Int32.not_le, Int32.not_lt, c_1, c_7, Int32.not_lt.mpr c_7])
    · skip
      subst hQ
      exact xe_throwSW C hl0 th_X6_137_141 hno (is := 259) (text := "an index is not between 0 and 39") (by decide +kernel) dX6_requireIndex_10 dX6_requireIndex_13 dX6_requireIndex_14 dX6_requireIndex_17 dX6_requireIndex_20 () rfl (by simp [inB, Int32.not_le, Int32.not_lt, c_1, c_7, Int32.not_le.mp c_7]) (by decide) (by decide) (by decide) (by decide) (by decide) (by decide)

abbrev rX6_requireRising : Room := { frames := 6, cells := 1, slots := 6, locals := 92 }
set_option maxHeartbeats 4000000 in
set_option maxRecDepth 100000 in
theorem mX6_requireRising (l : Launch) (hl0 : l.stackTraces = false) (G : gG) (B0 : Nat) (w : va_W) (x y : Int32) : vy_Met l yX6_requireRising (Cond.code yX6_requireRising cX6_requireRising 2 none :: WG) rX6_requireRising (va_Pc [.int x, .int y] (PR G B0 (w))) (va_Qv (fun (_ : Unit) => (!decide (y < x)) = true) (fun (_ : Unit) (t_ : State) => va_P G.1 vwCl (w) t_.heap ∧ va_D (fun q => B0 ≤ q) (w)) (fun q => B0 ≤ q)) (vx_X (fun _ : Unit => True) (fun (E : String) (_ : Unit) (t_ : State) => (E = "java/lang/IllegalArgumentException" ∧ (!decide (y < x)) = false) ∧ va_P G.1 vwCl (w) t_.heap ∧ va_D (fun q => B0 ≤ q) (w)) (fun q => B0 ≤ q)) rX6_requireRising.cells rX6_requireRising.slots (fun q => B0 ≤ q) := by
  refine xmet_of RX6 [(0, .int x), (1, .int y)] rfl (by decide) (Nat.le_of_ble_eq_true rfl) rfl ?_
  intro p e s m args below meth c C hr hnm hno
  refine yq ?_
  intro QQ hQ
  refine yy_iload_n C 1 dX6_requireRising_0 (pc' := 1) rfl rfl rfl ?_
  refine yy_iload_n C 0 dX6_requireRising_1 (pc' := 2) rfl rfl rfl ?_
  refine yy_icmp_ge C dX6_requireRising_2 (pc' := 5) rfl (tgt := 16) (by decide) (fun c_2 => ?_) (fun c_2 => ?_)
  · skip
    subst hQ
    exact xe_v C hr () dX6_requireRising_16 rfl (by decide) (by decide) (by simp [Int32.not_le, Int32.not_lt, c_2, Int32.not_lt.mpr c_2])
  · skip
    subst hQ
    exact xe_throwSW C hl0 th_X6_137_141 hno (is := 261) (text := "the second one is less than the first one") (by decide +kernel) dX6_requireRising_5 dX6_requireRising_8 dX6_requireRising_9 dX6_requireRising_12 dX6_requireRising_15 () rfl (by simp [Int32.not_le, Int32.not_lt, c_2, Int32.not_le.mp c_2]) (by decide) (by decide) (by decide) (by decide) (by decide) (by decide)

abbrev rX6_requireLastDay : Room := { frames := 6, cells := 1, slots := 6, locals := 92 }
set_option maxHeartbeats 4000000 in
set_option maxRecDepth 100000 in
theorem mX6_requireLastDay (l : Launch) (hl0 : l.stackTraces = false) (G : gG) (B0 : Nat) (ad : Nat → Nat) (F : va_W) (S : SA) (x : Int32) (hI : IA S) : vy_Met l yX6_requireLastDay (Cond.code yX6_requireLastDay cX6_requireLastDay 2 none :: WG) rX6_requireLastDay (va_Pc [.ref (ad 0), .int x] (PR G B0 (wA G ad S ++ F))) (va_Qv (fun (_ : Unit) => inB x (nI (S.1 7)) (nI 9999) = true) (fun (_ : Unit) (t_ : State) => va_P G.1 vwCl (wA G ad S ++ F) t_.heap ∧ va_D (fun q => B0 ≤ q) (wA G ad S ++ F)) (fun q => B0 ≤ q)) (vx_X (fun _ : Unit => True) (fun (E : String) (_ : Unit) (t_ : State) => (E = "java/lang/IllegalArgumentException" ∧ inB x (nI (S.1 7)) (nI 9999) = false) ∧ va_P G.1 vwCl (wA G ad S ++ F) t_.heap ∧ va_D (fun q => B0 ≤ q) (wA G ad S ++ F)) (fun q => B0 ≤ q)) rX6_requireLastDay.cells rX6_requireLastDay.slots (fun q => B0 ≤ q) := by
  refine xmet_of RX6 [(0, .ref (ad 0)), (1, .int x)] rfl (by decide) (Nat.le_of_ble_eq_true rfl) rfl ?_
  intro p e s m args below meth c C hr hnm hno
  refine yq ?_
  intro QQ hQ
  obtain ⟨i0, i1, i2, i3, i4, i5, i6, i7, i8, iJ, iH, iG, iQ⟩ := id hI
  refine yy_iload_n C 1 dX6_requireLastDay_0 (pc' := 1) rfl rfl rfl ?_
  refine yy_aload_n C 0 dX6_requireLastDay_1 (pc' := 2) rfl rfl rfl ?_
  refine yy_get C (v := .int (nI (S.1 7))) fk_X6_120 0 dX6_requireLastDay_2 (pc' := 5) rfl rfl rfl ?_
  refine yy_icmp_lt C dX6_requireLastDay_5 (pc' := 8) rfl (tgt := 15) (by decide) (fun c_5 => ?_) (fun c_5 => ?_)
  · skip
    subst hQ
    exact xe_throwSW C hl0 th_X6_137_141 hno (is := 263) (text := "the last day is not between today and 9999") (by decide +kernel) dX6_requireLastDay_15 dX6_requireLastDay_18 dX6_requireLastDay_19 dX6_requireLastDay_22 dX6_requireLastDay_25 () rfl (by simp [inB, Int32.not_le, Int32.not_lt, c_5]) (by decide) (by decide) (by decide) (by decide) (by decide) (by decide)
  · skip
    refine yy_iload_n C 1 dX6_requireLastDay_8 (pc' := 9) rfl rfl rfl ?_
    refine yy_sipush C (v := (nI 9999)) dX6_requireLastDay_9 (pc' := 12) rfl (by decide) ?_
    refine yy_icmp_le C dX6_requireLastDay_12 (pc' := 15) rfl (tgt := 26) (by decide) (fun c_12 => ?_) (fun c_12 => ?_)
    · skip
      subst hQ
      exact xe_v C hr () dX6_requireLastDay_26 rfl (by decide) (by decide) (by simp [inB, Int32.not_le, Int32.not_lt, c_5, c_12, Int32.not_lt.mpr c_12])
    · skip
      subst hQ
      exact xe_throwSW C hl0 th_X6_137_141 hno (is := 263) (text := "the last day is not between today and 9999") (by decide +kernel) dX6_requireLastDay_15 dX6_requireLastDay_18 dX6_requireLastDay_19 dX6_requireLastDay_22 dX6_requireLastDay_25 () rfl (by simp [inB, Int32.not_le, Int32.not_lt, c_5, c_12, Int32.not_le.mp c_12]) (by decide) (by decide) (by decide) (by decide) (by decide) (by decide)

abbrev rX6_requireWaiting : Room := { frames := 6, cells := 1, slots := 6, locals := 92 }
set_option maxHeartbeats 4000000 in
set_option maxRecDepth 100000 in
theorem mX6_requireWaiting (l : Launch) (hl0 : l.stackTraces = false) (G : gG) (B0 : Nat) (ad : Nat → Nat) (F : va_W) (S : SA) (k : Nat) (hk : k < 20) (hI : IA S) : vy_Met l yX6_requireWaiting (Cond.code yX6_requireWaiting cX6_requireWaiting 2 none :: WG) rX6_requireWaiting (va_Pc [.ref (ad 0), .int (nI k)] (PR G B0 (wA G ad S ++ F))) (va_Qv (fun (_ : Unit) => S.2.1 17 k = nI 119) (fun (_ : Unit) (t_ : State) => va_P G.1 vwCl (wA G ad S ++ F) t_.heap ∧ va_D (fun q => B0 ≤ q) (wA G ad S ++ F)) (fun q => B0 ≤ q)) (vx_X (fun _ : Unit => True) (fun (E : String) (_ : Unit) (t_ : State) => (E = "java/lang/IllegalStateException" ∧ ¬ S.2.1 17 k = nI 119) ∧ va_P G.1 vwCl (wA G ad S ++ F) t_.heap ∧ va_D (fun q => B0 ≤ q) (wA G ad S ++ F)) (fun q => B0 ≤ q)) rX6_requireWaiting.cells rX6_requireWaiting.slots (fun q => B0 ≤ q) := by
  refine xmet_of RX6 [(0, .ref (ad 0)), (1, .int (nI k))] rfl (by decide) (Nat.le_of_ble_eq_true rfl) rfl ?_
  intro p e s m args below meth c C hr hnm hno
  refine yq ?_
  intro QQ hQ
  obtain ⟨i0, i1, i2, i3, i4, i5, i6, i7, i8, iJ, iH, iG, iQ⟩ := id hI
  refine yy_aload_n C 0 dX6_requireWaiting_0 (pc' := 1) rfl rfl rfl ?_
  refine yy_get C (v := .ref (ad 6)) fk_X6_47 0 dX6_requireWaiting_1 (pc' := 4) rfl rfl rfl ?_
  refine yy_get C (v := .ref (ad 26)) fk_X6_203 6 dX6_requireWaiting_4 (pc' := 7) rfl rfl rfl ?_
  refine yy_iload_n C 1 dX6_requireWaiting_7 (pc' := 8) rfl rfl rfl ?_
  refine yy_cald C 26 dX6_requireWaiting_8 (pc' := 9) rfl rfl (by omega) (by decide) ?_
  refine yy_bipush C (v := (nI 119)) dX6_requireWaiting_9 (pc' := 11) rfl (by decide) ?_
  refine yy_icmp_eq C dX6_requireWaiting_11 (pc' := 14) rfl (tgt := 24) (by decide) (fun c_11 => ?_) (fun c_11 => ?_)
  · skip
    subst hQ
    exact xe_v C hr () dX6_requireWaiting_24 rfl (by decide) (by decide) c_11
  · skip
    subst hQ
    exact xe_throwS C hl0 th_X6_126_130 hno (is := 251) (text := "the request does not wait") (by decide +kernel) dX6_requireWaiting_14 dX6_requireWaiting_17 dX6_requireWaiting_18 dX6_requireWaiting_20 dX6_requireWaiting_23 () rfl (by simp [c_11]) (by decide) (by decide) (by decide) (by decide) (by decide) (by decide)

abbrev rX6_requireNotHeld : Room := { frames := 7, cells := 1, slots := 6, locals := 113 }
set_option maxHeartbeats 4000000 in
set_option maxRecDepth 100000 in
theorem mX6_requireNotHeld (l : Launch) (hl0 : l.stackTraces = false) (G : gG) (B0 : Nat) (ad : Nat → Nat) (F : va_W) (S : SA) (a x : Int32) (hI : IA S) : vy_Met l yX6_requireNotHeld (Cond.code yX6_requireNotHeld cX6_requireNotHeld 3 none :: WG) rX6_requireNotHeld (va_Pc [.ref (ad 0), .int a, .int x] (PR G B0 (wA G ad S ++ F))) (va_Qv (fun (_ : Unit) => cdNH (S.1 1) (hb S) a x = 0) (fun (_ : Unit) (t_ : State) => va_P G.1 vwCl (wA G ad S ++ F) t_.heap ∧ va_D (fun q => B0 ≤ q) (wA G ad S ++ F)) (fun q => B0 ≤ q)) (vx_X (fun _ : Unit => True) (fun (E : String) (_ : Unit) (t_ : State) => ((E = "java/lang/IllegalArgumentException" ∧ cdNH (S.1 1) (hb S) a x = 1) ∨ (E = "java/lang/IndexOutOfBoundsException" ∧ cdNH (S.1 1) (hb S) a x = 2) ∨ (E = "java/lang/IllegalStateException" ∧ cdNH (S.1 1) (hb S) a x = 3)) ∧ va_P G.1 vwCl (wA G ad S ++ F) t_.heap ∧ va_D (fun q => B0 ≤ q) (wA G ad S ++ F)) (fun q => B0 ≤ q)) rX6_requireNotHeld.cells rX6_requireNotHeld.slots (fun q => B0 ≤ q) := by
  refine xmet_of RX6 [(0, .ref (ad 0)), (1, .int a), (2, .int x)] rfl (by decide) (Nat.le_of_ble_eq_true rfl) rfl ?_
  intro p e s m args below meth c C hr hnm hno
  refine yq ?_
  intro QQ hQ
  obtain ⟨i0, i1, i2, i3, i4, i5, i6, i7, i8, iJ, iH, iG, iQ⟩ := id hI
  refine yy_iload_n C 1 dX6_requireNotHeld_0 (pc' := 1) rfl rfl rfl ?_
  refine xc_v (xr_S C (As := [.int a]) (rest := []) lk_X6_146 cd_X6_requireAsker st_X6_requireAsker (mX6_requireAsker l hl0 G B0 (wA G ad S ++ F) a) ⟨by decide, by decide⟩ ⟨by decide, by decide⟩ rfl rfl (Nat.le_of_ble_eq_true rfl) dX6_requireNotHeld_1) (pc' := 4) rfl (fun E _ hw1 => ?_) (fun _ hw1 => ?_)
  · skip
    obtain ⟨rfl, hx_⟩ := hw1
    subst hQ; exact xe_out C hno () rfl (by simp [hx_, cdNH, hb]) (by decide) (by decide)
  have zn1 := hw1
  obtain ⟨ja, hja, rfl⟩ := inR_of (by omega) zn1
  have eja : ix (nI ja) = ja := ix_lt hja (by omega)
  refine yy_aload_n C 0 dX6_requireNotHeld_4 (pc' := 5) rfl rfl rfl ?_
  refine yy_iload_n C 2 dX6_requireNotHeld_5 (pc' := 6) rfl rfl rfl ?_
  refine xc_v (xr_V C (As := [.int x]) (rest := []) lk_X6_78 cd_X6_requireLine im_X6_requireLine se_X6_requireLine (mX6_requireLine l hl0 G B0 ad F (S) x (by exact hI)) ⟨by decide, by decide⟩ ⟨by decide, by decide⟩ 0 rfl rfl rfl rfl (Nat.le_of_ble_eq_true rfl) dX6_requireNotHeld_6) (pc' := 9) rfl (fun E _ hw2 => ?_) (fun _ hw2 => ?_)
  · skip
    obtain ⟨rfl, hx_⟩ := hw2
    subst hQ; exact xe_out C hno () rfl (by simp [hx_, cdNH, hb, zn1, eja]) (by decide) (by decide)
  have zn2 := hw2
  obtain ⟨jx, hjx, rfl⟩ := inR_of (by omega) zn2
  have ejx : ix (nI jx) = jx := ix_lt hjx (by omega)
  refine yy_aload_n C 0 dX6_requireNotHeld_9 (pc' := 10) rfl rfl rfl ?_
  refine yy_get C (v := .ref (ad 7)) fk_X6_51 0 dX6_requireNotHeld_10 (pc' := 13) rfl rfl rfl ?_
  refine yy_iload_n C 1 dX6_requireNotHeld_13 (pc' := 14) rfl rfl rfl ?_
  refine yy_lald C 7 dX6_requireNotHeld_14 (pc' := 15) rfl rfl (by omega) (by decide) ?_
  refine yy_mk ?_
  refine yy_iload_n C 2 dX6_requireNotHeld_15 (pc' := 16) rfl rfl rfl ?_
  refine yc_i (yr_S C (As := [.long (lN (mk ((S.2.2 0) ja))), .int (nI jx)]) (rest := []) lk_X6_149 cd_X6_contains st_X6_contains (mX6_contains l G B0 (wA G ad S ++ F) (mk ((S.2.2 0) ja)) jx (by omega)) ⟨by decide, by decide⟩ ⟨by decide, by decide⟩ rfl rfl (Nat.le_of_ble_eq_true rfl) dX6_requireNotHeld_16) (pc' := 19) rfl (fun r3 _ hw3 => ?_)
  subst hw3
  refine yb_if_eq C dX6_requireNotHeld_19 (pc' := 22) rfl (tgt := 32) (by decide) (fun c_19 => ?_) (fun c_19 => ?_)
  · skip
    subst hQ
    exact xe_v C hr () dX6_requireNotHeld_32 rfl (by decide) (by decide) (by simp [cdNH, hb, zn1, eja, zn2, ejx, c_19])
  · skip
    subst hQ
    exact xe_throwS C hl0 th_X6_126_130 hno (is := 255) (text := "the asker holds the line") (by decide +kernel) dX6_requireNotHeld_22 dX6_requireNotHeld_25 dX6_requireNotHeld_26 dX6_requireNotHeld_28 dX6_requireNotHeld_31 () rfl (by simp [cdNH, hb, zn1, eja, zn2, ejx, c_19]) (by decide) (by decide) (by decide) (by decide) (by decide) (by decide)
