def wneg (q : Nat) : Int32 := match q with | 1 => -1 | 2 => -2 | 3 => -3 | _ => -4
def wq (c : Nat) (v : Int32) : Int32 := if c = 0 then v else wneg c
def wqF (c : Nat) (v : UInt32) : UInt32 := if c = 0 then v else 3212836864
theorem wq_ok {c : Nat} {v r : Int32} (h : c = 0 ∧ r = v) : r = wq c v := by rw [wq, if_pos h.1]; exact h.2
theorem wq_okF {c : Nat} {v r : UInt32} (h : c = 0 ∧ r = v) : r = wqF c v := by rw [wqF, if_pos h.1]; exact h.2
abbrev rL_addDocument : Room := { frames := 8, cells := 1, slots := 6, locals := 132 }
set_option maxHeartbeats 4000000 in
set_option maxRecDepth 100000 in
theorem mL_addDocument (l : Launch) (hl0 : l.stackTraces = false) (G : gG) (B0 : Nat) (ad : Nat → Nat) (F : va_W) (S : SA) (hI : IA S) : Met l yL_addDocument (Cond.codeWith yL_addDocument cL_addDocument 2 (some .int) [(0, 4, 5, 14)] :: WG) rL_addDocument (va_Pc [.ref (ad 0)] (PR G B0 (wA G ad S ++ F))) (va_Qi (fun (r : Int32) (u : SA) => ((cdAddDoc (S.1 0) = 0 ∧ r = nI (S.1 0)) ∧ u = (sN S 0 (S.1 0 + 1))) ∨ ∃ q : Nat, ¬ q = 0 ∧ r = wneg q ∧ cdAddDoc (S.1 0) = q ∧ u = S) (fun (u : SA) (t_ : State) => va_P G.1 vwCl (wA G ad u ++ F) t_.heap ∧ va_D (fun q => B0 ≤ q) (wA G ad u ++ F)) (fun q => B0 ≤ q)) rL_addDocument.cells rL_addDocument.slots (fun q => B0 ≤ q) := by
  refine metW_of RL [(0, .ref (ad 0))] rfl (by decide) (Nat.le_of_ble_eq_true rfl) rfl ?_
  intro p e s m args below meth c C hr hnm ht
  refine yq ?_
  intro QQ hQ
  refine yy_aload_n C 0 dL_addDocument_0 (pc' := 1) rfl rfl rfl ?_
  refine xc_i (xr_V C (As := []) (rest := []) lk_L_8 cd_X6_addDocument im_X6_addDocument se_X6_addDocument (mX6_addDocument l hl0 G B0 ad F S hI) ⟨by decide, by decide⟩ ⟨by decide, by decide⟩ 0 rfl rfl rfl rfl (Nat.le_of_ble_eq_true rfl) dL_addDocument_1) (pc' := 4) rfl (fun E _ hw1 => ?_) (fun r1 _ hw1 => ?_)
  · skip
    obtain ⟨rfl, hx_⟩ := hw1
    · skip
      refine xe_catch C (name := "java/lang/IllegalStateException") [] ⟨0, 4, 5, 14⟩ [] (ht.trans rfl) (fun z hz => by cases hz) rfl (by decide) cl_L_14 (by decide +kernel) (pc' := 5) rfl (fun ce_ => ?_)
      refine yy_astore_n C dL_addDocument_5 (pc' := 6) rfl rfl (by decide) rfl ?_
      refine yy_iconst C (v := (-1)) dL_addDocument_6 (pc' := 7) rfl (by decide) ?_
      subst hQ
      exact ye_i C hr (vp_nar_int _) S dL_addDocument_7 rfl (by decide) (by decide) (Or.inr ⟨1, by decide, rfl, hx_, rfl⟩)
    
  subst hQ
  exact ye_i C hr (vp_nar_int _) (sN S 0 (S.1 0 + 1)) dL_addDocument_4 rfl (by decide) (by decide) (Or.inl ⟨hw1, rfl⟩)

abbrev rL_addLine : Room := { frames := 8, cells := 1, slots := 6, locals := 136 }
set_option maxHeartbeats 4000000 in
set_option maxRecDepth 100000 in
theorem mL_addLine (l : Launch) (hl0 : l.stackTraces = false) (G : gG) (B0 : Nat) (ad : Nat → Nat) (F : va_W) (S : SA) (d v : Int32) (hI : IA S) : Met l yL_addLine (Cond.codeWith yL_addLine cL_addLine 4 (some .int) [(0, 6, 7, 20), (0, 6, 10, 22), (0, 6, 14, 14)] :: WG) rL_addLine (va_Pc [.ref (ad 0), .int d, .int v] (PR G B0 (wA G ad S ++ F))) (va_Qi (fun (r : Int32) (u : SA) => (∃ g : Nat, (cdAddLine (S.1 0) (S.1 1) d v = 0 ∧ d = nI g ∧ g < S.1 0 ∧ r = nI (S.1 1)) ∧ u = (sN (sI (sI (sI (sI S 1 (upd (S.2.1 1) g ((S.2.1 1) g + nI 1))) 2 (upd (S.2.1 2) (S.1 1) (nI g))) 3 (upd (S.2.1 3) (S.1 1) ((S.2.1 1) g))) 4 (upd (S.2.1 4) (S.1 1) v)) 1 (S.1 1 + 1))) ∨ ∃ q : Nat, ¬ q = 0 ∧ r = wneg q ∧ cdAddLine (S.1 0) (S.1 1) d v = q ∧ u = S) (fun (u : SA) (t_ : State) => va_P G.1 vwCl (wA G ad u ++ F) t_.heap ∧ va_D (fun q => B0 ≤ q) (wA G ad u ++ F)) (fun q => B0 ≤ q)) rL_addLine.cells rL_addLine.slots (fun q => B0 ≤ q) := by
  refine metW_of RL [(0, .ref (ad 0)), (1, .int d), (2, .int v)] rfl (by decide) (Nat.le_of_ble_eq_true rfl) rfl ?_
  intro p e s m args below meth c C hr hnm ht
  refine yq ?_
  intro QQ hQ
  refine yy_aload_n C 0 dL_addLine_0 (pc' := 1) rfl rfl rfl ?_
  refine yy_iload_n C 1 dL_addLine_1 (pc' := 2) rfl rfl rfl ?_
  refine yy_iload_n C 2 dL_addLine_2 (pc' := 3) rfl rfl rfl ?_
  refine xc_i (xr_V C (As := [.int d, .int v]) (rest := []) lk_L_16 cd_X6_addLine im_X6_addLine se_X6_addLine (mX6_addLine l hl0 G B0 ad F S d v hI) ⟨by decide, by decide⟩ ⟨by decide, by decide⟩ 0 rfl rfl rfl rfl (Nat.le_of_ble_eq_true rfl) dL_addLine_3) (pc' := 6) rfl (fun E _ hw1 => ?_) (fun r1 u1 hw1 => ?_)
  · skip
    rcases hw1 with ⟨rfl, hx_⟩ | ⟨rfl, hx_⟩ | ⟨rfl, hx_⟩
    · skip
      refine xe_catch C (name := "java/lang/IndexOutOfBoundsException") [] ⟨0, 6, 7, 20⟩ [⟨0, 6, 10, 22⟩, ⟨0, 6, 14, 14⟩] (ht.trans rfl) (fun z hz => by cases hz) rfl (by decide) cl_L_20 (by decide +kernel) (pc' := 7) rfl (fun ce_ => ?_)
      refine yy_astore_n C dL_addLine_7 (pc' := 8) rfl rfl (by decide) rfl ?_
      refine yy_iconst C (v := (-1)) dL_addLine_8 (pc' := 9) rfl (by decide) ?_
      subst hQ
      exact ye_i C hr (vp_nar_int _) S dL_addLine_9 rfl (by decide) (by decide) (Or.inr ⟨1, by decide, rfl, hx_, rfl⟩)
    · skip
      refine xe_catch C (name := "java/lang/IllegalArgumentException") [⟨0, 6, 7, 20⟩] ⟨0, 6, 10, 22⟩ [⟨0, 6, 14, 14⟩] (ht.trans rfl) (by
          intro z hz
          simp only [List.mem_cons, List.not_mem_nil, or_false] at hz
          rcases hz with rfl
          · exact Or.inr ⟨by decide, _, cl_L_20, by decide +kernel⟩) rfl (by decide) cl_L_22 (by decide +kernel) (pc' := 10) rfl (fun ce_ => ?_)
      refine yy_astore_n C dL_addLine_10 (pc' := 11) rfl rfl (by decide) rfl ?_
      refine yy_bipush C (v := (-2)) dL_addLine_11 (pc' := 13) rfl (by decide) ?_
      subst hQ
      exact ye_i C hr (vp_nar_int _) S dL_addLine_13 rfl (by decide) (by decide) (Or.inr ⟨2, by decide, rfl, hx_, rfl⟩)
    · skip
      refine xe_catch C (name := "java/lang/IllegalStateException") [⟨0, 6, 7, 20⟩, ⟨0, 6, 10, 22⟩] ⟨0, 6, 14, 14⟩ [] (ht.trans rfl) (by
          intro z hz
          simp only [List.mem_cons, List.not_mem_nil, or_false] at hz
          rcases hz with rfl | rfl
          · exact Or.inr ⟨by decide, _, cl_L_20, by decide +kernel⟩
          · exact Or.inr ⟨by decide, _, cl_L_22, by decide +kernel⟩) rfl (by decide) cl_L_14 (by decide +kernel) (pc' := 14) rfl (fun ce_ => ?_)
      refine yy_astore_n C dL_addLine_14 (pc' := 15) rfl rfl (by decide) rfl ?_
      refine yy_bipush C (v := (-3)) dL_addLine_15 (pc' := 17) rfl (by decide) ?_
      subst hQ
      exact ye_i C hr (vp_nar_int _) S dL_addLine_17 rfl (by decide) (by decide) (Or.inr ⟨3, by decide, rfl, hx_, rfl⟩)
    
  subst hQ
  exact ye_i C hr (vp_nar_int _) (sN (sI (sI (sI (sI S 1 (upd (S.2.1 1) u1 ((S.2.1 1) u1 + nI 1))) 2 (upd (S.2.1 2) (S.1 1) (nI u1))) 3 (upd (S.2.1 3) (S.1 1) ((S.2.1 1) u1))) 4 (upd (S.2.1 4) (S.1 1) v)) 1 (S.1 1 + 1)) dL_addLine_6 rfl (by decide) (by decide) (Or.inl ⟨u1, hw1, rfl⟩)

abbrev rL_rescan : Room := { frames := 8, cells := 1, slots := 6, locals := 136 }
set_option maxHeartbeats 4000000 in
set_option maxRecDepth 100000 in
theorem mL_rescan (l : Launch) (hl0 : l.stackTraces = false) (G : gG) (B0 : Nat) (ad : Nat → Nat) (F : va_W) (S : SA) (x v : Int32) (hI : IA S) : Met l yL_rescan (Cond.codeWith yL_rescan cL_rescan 4 (some .int) [(0, 6, 7, 20), (0, 6, 10, 22)] :: WG) rL_rescan (va_Pc [.ref (ad 0), .int x, .int v] (PR G B0 (wA G ad S ++ F))) (va_Qi (fun (r : Int32) (u : SA) => (∃ g : Nat, (cdRescan (S.1 1) x v = 0 ∧ x = nI g ∧ g < S.1 1 ∧ r = S.2.1 4 g) ∧ u = (sI S 4 (upd (S.2.1 4) g v))) ∨ ∃ q : Nat, ¬ q = 0 ∧ r = wneg q ∧ cdRescan (S.1 1) x v = q ∧ u = S) (fun (u : SA) (t_ : State) => va_P G.1 vwCl (wA G ad u ++ F) t_.heap ∧ va_D (fun q => B0 ≤ q) (wA G ad u ++ F)) (fun q => B0 ≤ q)) rL_rescan.cells rL_rescan.slots (fun q => B0 ≤ q) := by
  refine metW_of RL [(0, .ref (ad 0)), (1, .int x), (2, .int v)] rfl (by decide) (Nat.le_of_ble_eq_true rfl) rfl ?_
  intro p e s m args below meth c C hr hnm ht
  refine yq ?_
  intro QQ hQ
  refine yy_aload_n C 0 dL_rescan_0 (pc' := 1) rfl rfl rfl ?_
  refine yy_iload_n C 1 dL_rescan_1 (pc' := 2) rfl rfl rfl ?_
  refine yy_iload_n C 2 dL_rescan_2 (pc' := 3) rfl rfl rfl ?_
  refine xc_i (xr_V C (As := [.int x, .int v]) (rest := []) lk_L_24 cd_X6_rescan im_X6_rescan se_X6_rescan (mX6_rescan l hl0 G B0 ad F S x v hI) ⟨by decide, by decide⟩ ⟨by decide, by decide⟩ 0 rfl rfl rfl rfl (Nat.le_of_ble_eq_true rfl) dL_rescan_3) (pc' := 6) rfl (fun E _ hw1 => ?_) (fun r1 u1 hw1 => ?_)
  · skip
    rcases hw1 with ⟨rfl, hx_⟩ | ⟨rfl, hx_⟩
    · skip
      refine xe_catch C (name := "java/lang/IndexOutOfBoundsException") [] ⟨0, 6, 7, 20⟩ [⟨0, 6, 10, 22⟩] (ht.trans rfl) (fun z hz => by cases hz) rfl (by decide) cl_L_20 (by decide +kernel) (pc' := 7) rfl (fun ce_ => ?_)
      refine yy_astore_n C dL_rescan_7 (pc' := 8) rfl rfl (by decide) rfl ?_
      refine yy_iconst C (v := (-1)) dL_rescan_8 (pc' := 9) rfl (by decide) ?_
      subst hQ
      exact ye_i C hr (vp_nar_int _) S dL_rescan_9 rfl (by decide) (by decide) (Or.inr ⟨1, by decide, rfl, hx_, rfl⟩)
    · skip
      refine xe_catch C (name := "java/lang/IllegalArgumentException") [⟨0, 6, 7, 20⟩] ⟨0, 6, 10, 22⟩ [] (ht.trans rfl) (by
          intro z hz
          simp only [List.mem_cons, List.not_mem_nil, or_false] at hz
          rcases hz with rfl
          · exact Or.inr ⟨by decide, _, cl_L_20, by decide +kernel⟩) rfl (by decide) cl_L_22 (by decide +kernel) (pc' := 10) rfl (fun ce_ => ?_)
      refine yy_astore_n C dL_rescan_10 (pc' := 11) rfl rfl (by decide) rfl ?_
      refine yy_bipush C (v := (-2)) dL_rescan_11 (pc' := 13) rfl (by decide) ?_
      subst hQ
      exact ye_i C hr (vp_nar_int _) S dL_rescan_13 rfl (by decide) (by decide) (Or.inr ⟨2, by decide, rfl, hx_, rfl⟩)
    
  subst hQ
  exact ye_i C hr (vp_nar_int _) (sI S 4 (upd (S.2.1 4) u1 v)) dL_rescan_6 rfl (by decide) (by decide) (Or.inl ⟨u1, hw1, rfl⟩)

abbrev rL_documentOf : Room := { frames := 8, cells := 1, slots := 6, locals := 134 }
set_option maxHeartbeats 4000000 in
set_option maxRecDepth 100000 in
theorem mL_documentOf (l : Launch) (hl0 : l.stackTraces = false) (G : gG) (B0 : Nat) (ad : Nat → Nat) (F : va_W) (S : SA) (x : Int32) (hI : IA S) : Met l yL_documentOf (Cond.codeWith yL_documentOf cL_documentOf 3 (some .int) [(0, 5, 6, 20)] :: WG) rL_documentOf (va_Pc [.ref (ad 0), .int x] (PR G B0 (wA G ad S ++ F))) (va_Qi (fun (r : Int32) (_ : Unit) => r = wq (cd1 (S.1 1) x) (S.2.1 2 (ix x))) (fun (_ : Unit) (t_ : State) => va_P G.1 vwCl (wA G ad S ++ F) t_.heap ∧ va_D (fun q => B0 ≤ q) (wA G ad S ++ F)) (fun q => B0 ≤ q)) rL_documentOf.cells rL_documentOf.slots (fun q => B0 ≤ q) := by
  refine metW_of RL [(0, .ref (ad 0)), (1, .int x)] rfl (by decide) (Nat.le_of_ble_eq_true rfl) rfl ?_
  intro p e s m args below meth c C hr hnm ht
  refine yq ?_
  intro QQ hQ
  refine yy_aload_n C 0 dL_documentOf_0 (pc' := 1) rfl rfl rfl ?_
  refine yy_iload_n C 1 dL_documentOf_1 (pc' := 2) rfl rfl rfl ?_
  refine xc_i (xr_V C (As := [.int x]) (rest := []) lk_L_27 cd_X6_documentOf im_X6_documentOf se_X6_documentOf (mX6_documentOf l hl0 G B0 ad F S x hI) ⟨by decide, by decide⟩ ⟨by decide, by decide⟩ 0 rfl rfl rfl rfl (Nat.le_of_ble_eq_true rfl) dL_documentOf_2) (pc' := 5) rfl (fun E _ hw1 => ?_) (fun r1 _ hw1 => ?_)
  · skip
    obtain ⟨rfl, hx_⟩ := hw1
    · skip
      refine xe_catch C (name := "java/lang/IndexOutOfBoundsException") [] ⟨0, 5, 6, 20⟩ [] (ht.trans rfl) (fun z hz => by cases hz) rfl (by decide) cl_L_20 (by decide +kernel) (pc' := 6) rfl (fun ce_ => ?_)
      refine yy_astore_n C dL_documentOf_6 (pc' := 7) rfl rfl (by decide) rfl ?_
      refine yy_iconst C (v := (-1)) dL_documentOf_7 (pc' := 8) rfl (by decide) ?_
      subst hQ
      exact ye_i C hr (vp_nar_int _) () dL_documentOf_8 rfl (by decide) (by decide) (by rw [hx_]; rfl)
    
  subst hQ
  exact ye_i C hr (vp_nar_int _) () dL_documentOf_5 rfl (by decide) (by decide) (wq_ok hw1)

abbrev rL_indexOf : Room := { frames := 8, cells := 1, slots := 6, locals := 134 }
set_option maxHeartbeats 4000000 in
set_option maxRecDepth 100000 in
theorem mL_indexOf (l : Launch) (hl0 : l.stackTraces = false) (G : gG) (B0 : Nat) (ad : Nat → Nat) (F : va_W) (S : SA) (x : Int32) (hI : IA S) : Met l yL_indexOf (Cond.codeWith yL_indexOf cL_indexOf 3 (some .int) [(0, 5, 6, 20)] :: WG) rL_indexOf (va_Pc [.ref (ad 0), .int x] (PR G B0 (wA G ad S ++ F))) (va_Qi (fun (r : Int32) (_ : Unit) => r = wq (cd1 (S.1 1) x) (S.2.1 3 (ix x))) (fun (_ : Unit) (t_ : State) => va_P G.1 vwCl (wA G ad S ++ F) t_.heap ∧ va_D (fun q => B0 ≤ q) (wA G ad S ++ F)) (fun q => B0 ≤ q)) rL_indexOf.cells rL_indexOf.slots (fun q => B0 ≤ q) := by
  refine metW_of RL [(0, .ref (ad 0)), (1, .int x)] rfl (by decide) (Nat.le_of_ble_eq_true rfl) rfl ?_
  intro p e s m args below meth c C hr hnm ht
  refine yq ?_
  intro QQ hQ
  refine yy_aload_n C 0 dL_indexOf_0 (pc' := 1) rfl rfl rfl ?_
  refine yy_iload_n C 1 dL_indexOf_1 (pc' := 2) rfl rfl rfl ?_
  refine xc_i (xr_V C (As := [.int x]) (rest := []) lk_L_31 cd_X6_indexOf im_X6_indexOf se_X6_indexOf (mX6_indexOf l hl0 G B0 ad F S x hI) ⟨by decide, by decide⟩ ⟨by decide, by decide⟩ 0 rfl rfl rfl rfl (Nat.le_of_ble_eq_true rfl) dL_indexOf_2) (pc' := 5) rfl (fun E _ hw1 => ?_) (fun r1 _ hw1 => ?_)
  · skip
    obtain ⟨rfl, hx_⟩ := hw1
    · skip
      refine xe_catch C (name := "java/lang/IndexOutOfBoundsException") [] ⟨0, 5, 6, 20⟩ [] (ht.trans rfl) (fun z hz => by cases hz) rfl (by decide) cl_L_20 (by decide +kernel) (pc' := 6) rfl (fun ce_ => ?_)
      refine yy_astore_n C dL_indexOf_6 (pc' := 7) rfl rfl (by decide) rfl ?_
      refine yy_iconst C (v := (-1)) dL_indexOf_7 (pc' := 8) rfl (by decide) ?_
      subst hQ
      exact ye_i C hr (vp_nar_int _) () dL_indexOf_8 rfl (by decide) (by decide) (by rw [hx_]; rfl)
    
  subst hQ
  exact ye_i C hr (vp_nar_int _) () dL_indexOf_5 rfl (by decide) (by decide) (wq_ok hw1)

abbrev rL_lines : Room := { frames := 8, cells := 1, slots := 6, locals := 134 }
set_option maxHeartbeats 4000000 in
set_option maxRecDepth 100000 in
theorem mL_lines (l : Launch) (hl0 : l.stackTraces = false) (G : gG) (B0 : Nat) (ad : Nat → Nat) (F : va_W) (S : SA) (d : Int32) (hI : IA S) : Met l yL_lines (Cond.codeWith yL_lines cL_lines 3 (some .int) [(0, 5, 6, 20)] :: WG) rL_lines (va_Pc [.ref (ad 0), .int d] (PR G B0 (wA G ad S ++ F))) (va_Qi (fun (r : Int32) (_ : Unit) => r = wq (cd1 (S.1 0) d) (S.2.1 1 (ix d))) (fun (_ : Unit) (t_ : State) => va_P G.1 vwCl (wA G ad S ++ F) t_.heap ∧ va_D (fun q => B0 ≤ q) (wA G ad S ++ F)) (fun q => B0 ≤ q)) rL_lines.cells rL_lines.slots (fun q => B0 ≤ q) := by
  refine metW_of RL [(0, .ref (ad 0)), (1, .int d)] rfl (by decide) (Nat.le_of_ble_eq_true rfl) rfl ?_
  intro p e s m args below meth c C hr hnm ht
  refine yq ?_
  intro QQ hQ
  refine yy_aload_n C 0 dL_lines_0 (pc' := 1) rfl rfl rfl ?_
  refine yy_iload_n C 1 dL_lines_1 (pc' := 2) rfl rfl rfl ?_
  refine xc_i (xr_V C (As := [.int d]) (rest := []) lk_L_34 cd_X6_lines im_X6_lines se_X6_lines (mX6_lines l hl0 G B0 ad F S d hI) ⟨by decide, by decide⟩ ⟨by decide, by decide⟩ 0 rfl rfl rfl rfl (Nat.le_of_ble_eq_true rfl) dL_lines_2) (pc' := 5) rfl (fun E _ hw1 => ?_) (fun r1 _ hw1 => ?_)
  · skip
    obtain ⟨rfl, hx_⟩ := hw1
    · skip
      refine xe_catch C (name := "java/lang/IndexOutOfBoundsException") [] ⟨0, 5, 6, 20⟩ [] (ht.trans rfl) (fun z hz => by cases hz) rfl (by decide) cl_L_20 (by decide +kernel) (pc' := 6) rfl (fun ce_ => ?_)
      refine yy_astore_n C dL_lines_6 (pc' := 7) rfl rfl (by decide) rfl ?_
      refine yy_iconst C (v := (-1)) dL_lines_7 (pc' := 8) rfl (by decide) ?_
      subst hQ
      exact ye_i C hr (vp_nar_int _) () dL_lines_8 rfl (by decide) (by decide) (by rw [hx_]; rfl)
    
  subst hQ
  exact ye_i C hr (vp_nar_int _) () dL_lines_5 rfl (by decide) (by decide) (wq_ok hw1)

abbrev rL_addRule : Room := { frames := 8, cells := 1, slots := 6, locals := 138 }
set_option maxHeartbeats 4000000 in
set_option maxRecDepth 100000 in
theorem mL_addRule (l : Launch) (hl0 : l.stackTraces = false) (G : gG) (B0 : Nat) (ad : Nat → Nat) (F : va_W) (S : SA) (f g t : Int32) (hI : IA S) : Met l yL_addRule (Cond.codeWith yL_addRule cL_addRule 5 (some .int) [(0, 7, 8, 22), (0, 7, 12, 14)] :: WG) rL_addRule (va_Pc [.ref (ad 0), .int f, .int g, .int t] (PR G B0 (wA G ad S ++ F))) (va_Qi (fun (r : Int32) (u : SA) => ((cdAddRule (S.1 2) (S.1 7) f g t = 0 ∧ r = nI (S.1 2)) ∧ u = (sN (sI (sI (sI S 5 (upd (S.2.1 5) (S.1 2) f)) 6 (upd (S.2.1 6) (S.1 2) g)) 7 (upd (S.2.1 7) (S.1 2) t)) 2 (S.1 2 + 1))) ∨ ∃ q : Nat, ¬ q = 0 ∧ r = wneg q ∧ cdAddRule (S.1 2) (S.1 7) f g t = q ∧ u = S) (fun (u : SA) (t_ : State) => va_P G.1 vwCl (wA G ad u ++ F) t_.heap ∧ va_D (fun q => B0 ≤ q) (wA G ad u ++ F)) (fun q => B0 ≤ q)) rL_addRule.cells rL_addRule.slots (fun q => B0 ≤ q) := by
  refine metW_of RL [(0, .ref (ad 0)), (1, .int f), (2, .int g), (3, .int t)] rfl (by decide) (Nat.le_of_ble_eq_true rfl) rfl ?_
  intro p e s m args below meth c C hr hnm ht
  refine yq ?_
  intro QQ hQ
  refine yy_aload_n C 0 dL_addRule_0 (pc' := 1) rfl rfl rfl ?_
  refine yy_iload_n C 1 dL_addRule_1 (pc' := 2) rfl rfl rfl ?_
  refine yy_iload_n C 2 dL_addRule_2 (pc' := 3) rfl rfl rfl ?_
  refine yy_iload_n C 3 dL_addRule_3 (pc' := 4) rfl rfl rfl ?_
  refine xc_i (xr_V C (As := [.int f, .int g, .int t]) (rest := []) lk_L_37 cd_X6_addRule im_X6_addRule se_X6_addRule (mX6_addRule l hl0 G B0 ad F S f g t hI) ⟨by decide, by decide⟩ ⟨by decide, by decide⟩ 0 rfl rfl rfl rfl (Nat.le_of_ble_eq_true rfl) dL_addRule_4) (pc' := 7) rfl (fun E _ hw1 => ?_) (fun r1 _ hw1 => ?_)
  · skip
    rcases hw1 with ⟨rfl, hx_⟩ | ⟨rfl, hx_⟩
    · skip
      refine xe_catch C (name := "java/lang/IllegalArgumentException") [] ⟨0, 7, 8, 22⟩ [⟨0, 7, 12, 14⟩] (ht.trans rfl) (fun z hz => by cases hz) rfl (by decide) cl_L_22 (by decide +kernel) (pc' := 8) rfl (fun ce_ => ?_)
      refine yy_astore C dL_addRule_8 (pc' := 10) rfl (by decide) rfl ?_
      refine yy_iconst C (v := (-1)) dL_addRule_10 (pc' := 11) rfl (by decide) ?_
      subst hQ
      exact ye_i C hr (vp_nar_int _) S dL_addRule_11 rfl (by decide) (by decide) (Or.inr ⟨1, by decide, rfl, hx_, rfl⟩)
    · skip
      refine xe_catch C (name := "java/lang/IllegalStateException") [⟨0, 7, 8, 22⟩] ⟨0, 7, 12, 14⟩ [] (ht.trans rfl) (by
          intro z hz
          simp only [List.mem_cons, List.not_mem_nil, or_false] at hz
          rcases hz with rfl
          · exact Or.inr ⟨by decide, _, cl_L_22, by decide +kernel⟩) rfl (by decide) cl_L_14 (by decide +kernel) (pc' := 12) rfl (fun ce_ => ?_)
      refine yy_astore C dL_addRule_12 (pc' := 14) rfl (by decide) rfl ?_
      refine yy_bipush C (v := (-2)) dL_addRule_14 (pc' := 16) rfl (by decide) ?_
      subst hQ
      exact ye_i C hr (vp_nar_int _) S dL_addRule_16 rfl (by decide) (by decide) (Or.inr ⟨2, by decide, rfl, hx_, rfl⟩)
    
  subst hQ
  exact ye_i C hr (vp_nar_int _) (sN (sI (sI (sI S 5 (upd (S.2.1 5) (S.1 2) f)) 6 (upd (S.2.1 6) (S.1 2) g)) 7 (upd (S.2.1 7) (S.1 2) t)) 2 (S.1 2 + 1)) dL_addRule_7 rfl (by decide) (by decide) (Or.inl ⟨hw1, rfl⟩)

abbrev rL_addSpan : Room := { frames := 8, cells := 1, slots := 6, locals := 140 }
set_option maxHeartbeats 4000000 in
set_option maxRecDepth 100000 in
theorem mL_addSpan (l : Launch) (hl0 : l.stackTraces = false) (G : gG) (B0 : Nat) (ad : Nat → Nat) (F : va_W) (S : SA) (d f g t : Int32) (hI : IA S) : Met l yL_addSpan (Cond.codeWith yL_addSpan cL_addSpan 6 (some .int) [(0, 9, 10, 20), (0, 9, 14, 22), (0, 9, 19, 14)] :: WG) rL_addSpan (va_Pc [.ref (ad 0), .int d, .int f, .int g, .int t] (PR G B0 (wA G ad S ++ F))) (va_Qi (fun (r : Int32) (u : SA) => ((cdAddSpan (S.1 0) (S.1 3) (S.1 7) d f g t = 0 ∧ r = nI (S.1 3)) ∧ u = (sN (sI (sI (sI (sI S 8 (upd (S.2.1 8) (S.1 3) d)) 9 (upd (S.2.1 9) (S.1 3) f)) 10 (upd (S.2.1 10) (S.1 3) g)) 11 (upd (S.2.1 11) (S.1 3) t)) 3 (S.1 3 + 1))) ∨ ∃ q : Nat, ¬ q = 0 ∧ r = wneg q ∧ cdAddSpan (S.1 0) (S.1 3) (S.1 7) d f g t = q ∧ u = S) (fun (u : SA) (t_ : State) => va_P G.1 vwCl (wA G ad u ++ F) t_.heap ∧ va_D (fun q => B0 ≤ q) (wA G ad u ++ F)) (fun q => B0 ≤ q)) rL_addSpan.cells rL_addSpan.slots (fun q => B0 ≤ q) := by
  refine metW_of RL [(0, .ref (ad 0)), (1, .int d), (2, .int f), (3, .int g), (4, .int t)] rfl (by decide) (Nat.le_of_ble_eq_true rfl) rfl ?_
  intro p e s m args below meth c C hr hnm ht
  refine yq ?_
  intro QQ hQ
  refine yy_aload_n C 0 dL_addSpan_0 (pc' := 1) rfl rfl rfl ?_
  refine yy_iload_n C 1 dL_addSpan_1 (pc' := 2) rfl rfl rfl ?_
  refine yy_iload_n C 2 dL_addSpan_2 (pc' := 3) rfl rfl rfl ?_
  refine yy_iload_n C 3 dL_addSpan_3 (pc' := 4) rfl rfl rfl ?_
  refine yy_iload C 4 dL_addSpan_4 (pc' := 6) rfl rfl ?_
  refine xc_i (xr_V C (As := [.int d, .int f, .int g, .int t]) (rest := []) lk_L_41 cd_X6_addSpan im_X6_addSpan se_X6_addSpan (mX6_addSpan l hl0 G B0 ad F S d f g t hI) ⟨by decide, by decide⟩ ⟨by decide, by decide⟩ 0 rfl rfl rfl rfl (Nat.le_of_ble_eq_true rfl) dL_addSpan_6) (pc' := 9) rfl (fun E _ hw1 => ?_) (fun r1 _ hw1 => ?_)
  · skip
    rcases hw1 with ⟨rfl, hx_⟩ | ⟨rfl, hx_⟩ | ⟨rfl, hx_⟩
    · skip
      refine xe_catch C (name := "java/lang/IndexOutOfBoundsException") [] ⟨0, 9, 10, 20⟩ [⟨0, 9, 14, 22⟩, ⟨0, 9, 19, 14⟩] (ht.trans rfl) (fun z hz => by cases hz) rfl (by decide) cl_L_20 (by decide +kernel) (pc' := 10) rfl (fun ce_ => ?_)
      refine yy_astore C dL_addSpan_10 (pc' := 12) rfl (by decide) rfl ?_
      refine yy_iconst C (v := (-1)) dL_addSpan_12 (pc' := 13) rfl (by decide) ?_
      subst hQ
      exact ye_i C hr (vp_nar_int _) S dL_addSpan_13 rfl (by decide) (by decide) (Or.inr ⟨1, by decide, rfl, hx_, rfl⟩)
    · skip
      refine xe_catch C (name := "java/lang/IllegalArgumentException") [⟨0, 9, 10, 20⟩] ⟨0, 9, 14, 22⟩ [⟨0, 9, 19, 14⟩] (ht.trans rfl) (by
          intro z hz
          simp only [List.mem_cons, List.not_mem_nil, or_false] at hz
          rcases hz with rfl
          · exact Or.inr ⟨by decide, _, cl_L_20, by decide +kernel⟩) rfl (by decide) cl_L_22 (by decide +kernel) (pc' := 14) rfl (fun ce_ => ?_)
      refine yy_astore C dL_addSpan_14 (pc' := 16) rfl (by decide) rfl ?_
      refine yy_bipush C (v := (-2)) dL_addSpan_16 (pc' := 18) rfl (by decide) ?_
      subst hQ
      exact ye_i C hr (vp_nar_int _) S dL_addSpan_18 rfl (by decide) (by decide) (Or.inr ⟨2, by decide, rfl, hx_, rfl⟩)
    · skip
      refine xe_catch C (name := "java/lang/IllegalStateException") [⟨0, 9, 10, 20⟩, ⟨0, 9, 14, 22⟩] ⟨0, 9, 19, 14⟩ [] (ht.trans rfl) (by
          intro z hz
          simp only [List.mem_cons, List.not_mem_nil, or_false] at hz
          rcases hz with rfl | rfl
          · exact Or.inr ⟨by decide, _, cl_L_20, by decide +kernel⟩
          · exact Or.inr ⟨by decide, _, cl_L_22, by decide +kernel⟩) rfl (by decide) cl_L_14 (by decide +kernel) (pc' := 19) rfl (fun ce_ => ?_)
      refine yy_astore C dL_addSpan_19 (pc' := 21) rfl (by decide) rfl ?_
      refine yy_bipush C (v := (-3)) dL_addSpan_21 (pc' := 23) rfl (by decide) ?_
      subst hQ
      exact ye_i C hr (vp_nar_int _) S dL_addSpan_23 rfl (by decide) (by decide) (Or.inr ⟨3, by decide, rfl, hx_, rfl⟩)
    
  subst hQ
  exact ye_i C hr (vp_nar_int _) (sN (sI (sI (sI (sI S 8 (upd (S.2.1 8) (S.1 3) d)) 9 (upd (S.2.1 9) (S.1 3) f)) 10 (upd (S.2.1 10) (S.1 3) g)) 11 (upd (S.2.1 11) (S.1 3) t)) 3 (S.1 3 + 1)) dL_addSpan_9 rfl (by decide) (by decide) (Or.inl ⟨hw1, rfl⟩)

abbrev rL_lift : Room := { frames := 7, cells := 1, slots := 6, locals := 114 }
set_option maxHeartbeats 4000000 in
set_option maxRecDepth 100000 in
theorem mL_lift (l : Launch) (hl0 : l.stackTraces = false) (G : gG) (B0 : Nat) (ad : Nat → Nat) (F : va_W) (S : SA) (k : Int32) (hI : IA S) : Met l yL_lift (Cond.codeWith yL_lift cL_lift 3 (some .int) [(0, 5, 6, 20), (0, 5, 9, 14)] :: WG) rL_lift (va_Pc [.ref (ad 0), .int k] (PR G B0 (wA G ad S ++ F))) (va_Qi (fun (r : Int32) (u : SA) => (∃ g : Nat, (cdLiftA (S.1 3) (S.2.1 11) (S.1 7) k = 0 ∧ k = nI g ∧ g < S.1 3 ∧ r = nI (fb_ct (hidA S) (S.1 1)) - nI (fb_ct (hidA (sI S 11 (upd (S.2.1 11) g (-1)))) (S.1 1))) ∧ u = (sI S 11 (upd (S.2.1 11) g (-1)))) ∨ ∃ q : Nat, ¬ q = 0 ∧ r = wneg q ∧ cdLiftA (S.1 3) (S.2.1 11) (S.1 7) k = q ∧ u = S) (fun (u : SA) (t_ : State) => va_P G.1 vwCl (wA G ad u ++ F) t_.heap ∧ va_D (fun q => B0 ≤ q) (wA G ad u ++ F)) (fun q => B0 ≤ q)) rL_lift.cells rL_lift.slots (fun q => B0 ≤ q) := by
  refine metW_of RL [(0, .ref (ad 0)), (1, .int k)] rfl (by decide) (Nat.le_of_ble_eq_true rfl) rfl ?_
  intro p e s m args below meth c C hr hnm ht
  refine yq ?_
  intro QQ hQ
  refine yy_aload_n C 0 dL_lift_0 (pc' := 1) rfl rfl rfl ?_
  refine yy_iload_n C 1 dL_lift_1 (pc' := 2) rfl rfl rfl ?_
  refine xc_i (xr_V C (As := [.int k]) (rest := []) lk_L_45 cd_X6_lift im_X6_lift se_X6_lift (mX6_lift l hl0 G B0 ad F S k hI) ⟨by decide, by decide⟩ ⟨by decide, by decide⟩ 0 rfl rfl rfl rfl (Nat.le_of_ble_eq_true rfl) dL_lift_2) (pc' := 5) rfl (fun E _ hw1 => ?_) (fun r1 u1 hw1 => ?_)
  · skip
    rcases hw1 with ⟨rfl, hx_⟩ | ⟨rfl, hx_⟩
    · skip
      refine xe_catch C (name := "java/lang/IndexOutOfBoundsException") [] ⟨0, 5, 6, 20⟩ [⟨0, 5, 9, 14⟩] (ht.trans rfl) (fun z hz => by cases hz) rfl (by decide) cl_L_20 (by decide +kernel) (pc' := 6) rfl (fun ce_ => ?_)
      refine yy_astore_n C dL_lift_6 (pc' := 7) rfl rfl (by decide) rfl ?_
      refine yy_iconst C (v := (-1)) dL_lift_7 (pc' := 8) rfl (by decide) ?_
      subst hQ
      exact ye_i C hr (vp_nar_int _) S dL_lift_8 rfl (by decide) (by decide) (Or.inr ⟨1, by decide, rfl, hx_, rfl⟩)
    · skip
      refine xe_catch C (name := "java/lang/IllegalStateException") [⟨0, 5, 6, 20⟩] ⟨0, 5, 9, 14⟩ [] (ht.trans rfl) (by
          intro z hz
          simp only [List.mem_cons, List.not_mem_nil, or_false] at hz
          rcases hz with rfl
          · exact Or.inr ⟨by decide, _, cl_L_20, by decide +kernel⟩) rfl (by decide) cl_L_14 (by decide +kernel) (pc' := 9) rfl (fun ce_ => ?_)
      refine yy_astore_n C dL_lift_9 (pc' := 10) rfl rfl (by decide) rfl ?_
      refine yy_bipush C (v := (-2)) dL_lift_10 (pc' := 12) rfl (by decide) ?_
      subst hQ
      exact ye_i C hr (vp_nar_int _) S dL_lift_12 rfl (by decide) (by decide) (Or.inr ⟨2, by decide, rfl, hx_, rfl⟩)
    
  subst hQ
  exact ye_i C hr (vp_nar_int _) (sI S 11 (upd (S.2.1 11) u1 (-1))) dL_lift_5 rfl (by decide) (by decide) (Or.inl ⟨u1, hw1, rfl⟩)

abbrev rL_isHidden : Room := { frames := 8, cells := 1, slots := 6, locals := 134 }
set_option maxHeartbeats 4000000 in
set_option maxRecDepth 100000 in
theorem mL_isHidden (l : Launch) (hl0 : l.stackTraces = false) (G : gG) (B0 : Nat) (ad : Nat → Nat) (F : va_W) (S : SA) (x : Int32) (hI : IA S) : Met l yL_isHidden (Cond.codeWith yL_isHidden cL_isHidden 3 (some .int) [(0, 13, 14, 20)] :: WG) rL_isHidden (va_Pc [.ref (ad 0), .int x] (PR G B0 (wA G ad S ++ F))) (va_Qi (fun (r : Int32) (_ : Unit) => r = wq (cd1 (S.1 1) x) (bI (hidA S (ix x)))) (fun (_ : Unit) (t_ : State) => va_P G.1 vwCl (wA G ad S ++ F) t_.heap ∧ va_D (fun q => B0 ≤ q) (wA G ad S ++ F)) (fun q => B0 ≤ q)) rL_isHidden.cells rL_isHidden.slots (fun q => B0 ≤ q) := by
  refine metW_of RL [(0, .ref (ad 0)), (1, .int x)] rfl (by decide) (Nat.le_of_ble_eq_true rfl) rfl ?_
  intro p e s m args below meth c C hr hnm ht
  refine yq ?_
  intro QQ hQ
  refine yy_aload_n C 0 dL_isHidden_0 (pc' := 1) rfl rfl rfl ?_
  refine yy_iload_n C 1 dL_isHidden_1 (pc' := 2) rfl rfl rfl ?_
  refine xc_i (xr_V C (As := [.int x]) (rest := []) lk_L_48 cd_X6_isHidden im_X6_isHidden se_X6_isHidden (mX6_isHidden l hl0 G B0 ad F S x hI) ⟨by decide, by decide⟩ ⟨by decide, by decide⟩ 0 rfl rfl rfl rfl (Nat.le_of_ble_eq_true rfl) dL_isHidden_2) (pc' := 5) rfl (fun E _ hw1 => ?_) (fun r1 _ hw1 => ?_)
  · skip
    obtain ⟨rfl, hx_⟩ := hw1
    · skip
      refine xe_catch C (name := "java/lang/IndexOutOfBoundsException") [] ⟨0, 13, 14, 20⟩ [] (ht.trans rfl) (fun z hz => by cases hz) rfl (by decide) cl_L_20 (by decide +kernel) (pc' := 14) rfl (fun ce_ => ?_)
      refine yy_astore_n C dL_isHidden_14 (pc' := 15) rfl rfl (by decide) rfl ?_
      refine yy_iconst C (v := (-1)) dL_isHidden_15 (pc' := 16) rfl (by decide) ?_
      subst hQ
      exact ye_i C hr (vp_nar_int _) () dL_isHidden_16 rfl (by decide) (by decide) (by rw [hx_]; rfl)
    
  obtain ⟨hq1, hq2⟩ := hw1
  subst hq2
  refine yb_if_eq C dL_isHidden_5 (pc' := 8) rfl (tgt := 12) (by decide) (fun c_5 => ?_) (fun c_5 => ?_)
  · skip
    refine yy_iconst C (v := (nI 0)) dL_isHidden_12 (pc' := 13) rfl (by decide) ?_
    subst hQ
    exact ye_i C hr (vp_nar_int _) () dL_isHidden_13 rfl (by decide) (by decide) (by rw [hq1, c_5]; rfl)
  · skip
    refine yy_iconst C (v := (nI 1)) dL_isHidden_8 (pc' := 9) rfl (by decide) ?_
    refine yy_goto C (tgt := 13) dL_isHidden_9 (by decide) ?_
    subst hQ
    exact ye_i C hr (vp_nar_int _) () dL_isHidden_13 rfl (by decide) (by decide) (by rw [hq1, c_5]; rfl)

abbrev rL_addJoin : Room := { frames := 8, cells := 1, slots := 6, locals := 139 }
set_option maxHeartbeats 4000000 in
set_option maxRecDepth 100000 in
theorem mL_addJoin (l : Launch) (hl0 : l.stackTraces = false) (G : gG) (B0 : Nat) (ad : Nat → Nat) (F : va_W) (S : SA) (a b t : Int32) (hI : IA S) : Met l yL_addJoin (Cond.codeWith yL_addJoin cL_addJoin 5 (some .int) [(0, 7, 8, 20), (0, 7, 12, 22), (0, 7, 17, 14)] :: WG) rL_addJoin (va_Pc [.ref (ad 0), .int a, .int b, .int t] (PR G B0 (wA G ad S ++ F))) (va_Qi (fun (r : Int32) (u : SA) => (∃ g : Nat × Nat × Nat, (cdAddJoin (S.1 1) (S.1 4) a b t = 0 ∧ (a = nI g.1 ∧ b = nI g.2.1 ∧ t = nI g.2.2) ∧ (g.1 < S.1 1 ∧ g.2.1 < S.1 1 ∧ g.2.2 < S.1 1) ∧ r = nI (S.1 4)) ∧ u = (grS (jnS S g.1 g.2.1 g.2.2) 5)) ∨ ∃ q : Nat, ¬ q = 0 ∧ r = wneg q ∧ cdAddJoin (S.1 1) (S.1 4) a b t = q ∧ u = S) (fun (u : SA) (t_ : State) => va_P G.1 vwCl (wA G ad u ++ F) t_.heap ∧ va_D (fun q => B0 ≤ q) (wA G ad u ++ F)) (fun q => B0 ≤ q)) rL_addJoin.cells rL_addJoin.slots (fun q => B0 ≤ q) := by
  refine metW_of RL [(0, .ref (ad 0)), (1, .int a), (2, .int b), (3, .int t)] rfl (by decide) (Nat.le_of_ble_eq_true rfl) rfl ?_
  intro p e s m args below meth c C hr hnm ht
  refine yq ?_
  intro QQ hQ
  refine yy_aload_n C 0 dL_addJoin_0 (pc' := 1) rfl rfl rfl ?_
  refine yy_iload_n C 1 dL_addJoin_1 (pc' := 2) rfl rfl rfl ?_
  refine yy_iload_n C 2 dL_addJoin_2 (pc' := 3) rfl rfl rfl ?_
  refine yy_iload_n C 3 dL_addJoin_3 (pc' := 4) rfl rfl rfl ?_
  refine xc_i (xr_V C (As := [.int a, .int b, .int t]) (rest := []) lk_L_52 cd_X6_addJoin im_X6_addJoin se_X6_addJoin (mX6_addJoin l hl0 G B0 ad F S a b t hI) ⟨by decide, by decide⟩ ⟨by decide, by decide⟩ 0 rfl rfl rfl rfl (Nat.le_of_ble_eq_true rfl) dL_addJoin_4) (pc' := 7) rfl (fun E _ hw1 => ?_) (fun r1 u1 hw1 => ?_)
  · skip
    rcases hw1 with ⟨rfl, hx_⟩ | ⟨rfl, hx_⟩ | ⟨rfl, hx_⟩
    · skip
      refine xe_catch C (name := "java/lang/IndexOutOfBoundsException") [] ⟨0, 7, 8, 20⟩ [⟨0, 7, 12, 22⟩, ⟨0, 7, 17, 14⟩] (ht.trans rfl) (fun z hz => by cases hz) rfl (by decide) cl_L_20 (by decide +kernel) (pc' := 8) rfl (fun ce_ => ?_)
      refine yy_astore C dL_addJoin_8 (pc' := 10) rfl (by decide) rfl ?_
      refine yy_iconst C (v := (-1)) dL_addJoin_10 (pc' := 11) rfl (by decide) ?_
      subst hQ
      exact ye_i C hr (vp_nar_int _) S dL_addJoin_11 rfl (by decide) (by decide) (Or.inr ⟨1, by decide, rfl, hx_, rfl⟩)
    · skip
      refine xe_catch C (name := "java/lang/IllegalArgumentException") [⟨0, 7, 8, 20⟩] ⟨0, 7, 12, 22⟩ [⟨0, 7, 17, 14⟩] (ht.trans rfl) (by
          intro z hz
          simp only [List.mem_cons, List.not_mem_nil, or_false] at hz
          rcases hz with rfl
          · exact Or.inr ⟨by decide, _, cl_L_20, by decide +kernel⟩) rfl (by decide) cl_L_22 (by decide +kernel) (pc' := 12) rfl (fun ce_ => ?_)
      refine yy_astore C dL_addJoin_12 (pc' := 14) rfl (by decide) rfl ?_
      refine yy_bipush C (v := (-2)) dL_addJoin_14 (pc' := 16) rfl (by decide) ?_
      subst hQ
      exact ye_i C hr (vp_nar_int _) S dL_addJoin_16 rfl (by decide) (by decide) (Or.inr ⟨2, by decide, rfl, hx_, rfl⟩)
    · skip
      refine xe_catch C (name := "java/lang/IllegalStateException") [⟨0, 7, 8, 20⟩, ⟨0, 7, 12, 22⟩] ⟨0, 7, 17, 14⟩ [] (ht.trans rfl) (by
          intro z hz
          simp only [List.mem_cons, List.not_mem_nil, or_false] at hz
          rcases hz with rfl | rfl
          · exact Or.inr ⟨by decide, _, cl_L_20, by decide +kernel⟩
          · exact Or.inr ⟨by decide, _, cl_L_22, by decide +kernel⟩) rfl (by decide) cl_L_14 (by decide +kernel) (pc' := 17) rfl (fun ce_ => ?_)
      refine yy_astore C dL_addJoin_17 (pc' := 19) rfl (by decide) rfl ?_
      refine yy_bipush C (v := (-3)) dL_addJoin_19 (pc' := 21) rfl (by decide) ?_
      subst hQ
      exact ye_i C hr (vp_nar_int _) S dL_addJoin_21 rfl (by decide) (by decide) (Or.inr ⟨3, by decide, rfl, hx_, rfl⟩)
    
  subst hQ
  exact ye_i C hr (vp_nar_int _) (grS (jnS S u1.1 u1.2.1 u1.2.2) 5) dL_addJoin_7 rfl (by decide) (by decide) (Or.inl ⟨u1, hw1, rfl⟩)

abbrev rL_holds : Room := { frames := 8, cells := 1, slots := 6, locals := 135 }
set_option maxHeartbeats 4000000 in
set_option maxRecDepth 100000 in
theorem mL_holds (l : Launch) (hl0 : l.stackTraces = false) (G : gG) (B0 : Nat) (ad : Nat → Nat) (F : va_W) (S : SA) (a x : Int32) (hI : IA S) : Met l yL_holds (Cond.codeWith yL_holds cL_holds 4 (some .int) [(0, 14, 15, 22), (0, 14, 18, 20)] :: WG) rL_holds (va_Pc [.ref (ad 0), .int a, .int x] (PR G B0 (wA G ad S ++ F))) (va_Qi (fun (r : Int32) (_ : Unit) => r = wq (cdHolds (S.1 1) a x) (bI (hb S (ix a) (ix x)))) (fun (_ : Unit) (t_ : State) => va_P G.1 vwCl (wA G ad S ++ F) t_.heap ∧ va_D (fun q => B0 ≤ q) (wA G ad S ++ F)) (fun q => B0 ≤ q)) rL_holds.cells rL_holds.slots (fun q => B0 ≤ q) := by
  refine metW_of RL [(0, .ref (ad 0)), (1, .int a), (2, .int x)] rfl (by decide) (Nat.le_of_ble_eq_true rfl) rfl ?_
  intro p e s m args below meth c C hr hnm ht
  refine yq ?_
  intro QQ hQ
  refine yy_aload_n C 0 dL_holds_0 (pc' := 1) rfl rfl rfl ?_
  refine yy_iload_n C 1 dL_holds_1 (pc' := 2) rfl rfl rfl ?_
  refine yy_iload_n C 2 dL_holds_2 (pc' := 3) rfl rfl rfl ?_
  refine xc_i (xr_V C (As := [.int a, .int x]) (rest := []) lk_L_55 cd_X6_holds im_X6_holds se_X6_holds (mX6_holds l hl0 G B0 ad F S a x hI) ⟨by decide, by decide⟩ ⟨by decide, by decide⟩ 0 rfl rfl rfl rfl (Nat.le_of_ble_eq_true rfl) dL_holds_3) (pc' := 6) rfl (fun E _ hw1 => ?_) (fun r1 _ hw1 => ?_)
  · skip
    rcases hw1 with ⟨rfl, hx_⟩ | ⟨rfl, hx_⟩
    · skip
      refine xe_catch C (name := "java/lang/IllegalArgumentException") [] ⟨0, 14, 15, 22⟩ [⟨0, 14, 18, 20⟩] (ht.trans rfl) (fun z hz => by cases hz) rfl (by decide) cl_L_22 (by decide +kernel) (pc' := 15) rfl (fun ce_ => ?_)
      refine yy_astore_n C dL_holds_15 (pc' := 16) rfl rfl (by decide) rfl ?_
      refine yy_iconst C (v := (-1)) dL_holds_16 (pc' := 17) rfl (by decide) ?_
      subst hQ
      exact ye_i C hr (vp_nar_int _) () dL_holds_17 rfl (by decide) (by decide) (by rw [hx_]; rfl)
    · skip
      refine xe_catch C (name := "java/lang/IndexOutOfBoundsException") [⟨0, 14, 15, 22⟩] ⟨0, 14, 18, 20⟩ [] (ht.trans rfl) (by
          intro z hz
          simp only [List.mem_cons, List.not_mem_nil, or_false] at hz
          rcases hz with rfl
          · exact Or.inr ⟨by decide, _, cl_L_22, by decide +kernel⟩) rfl (by decide) cl_L_20 (by decide +kernel) (pc' := 18) rfl (fun ce_ => ?_)
      refine yy_astore_n C dL_holds_18 (pc' := 19) rfl rfl (by decide) rfl ?_
      refine yy_bipush C (v := (-2)) dL_holds_19 (pc' := 21) rfl (by decide) ?_
      subst hQ
      exact ye_i C hr (vp_nar_int _) () dL_holds_21 rfl (by decide) (by decide) (by rw [hx_]; rfl)
    
  obtain ⟨hq1, hq2⟩ := hw1
  subst hq2
  refine yb_if_eq C dL_holds_6 (pc' := 9) rfl (tgt := 13) (by decide) (fun c_6 => ?_) (fun c_6 => ?_)
  · skip
    refine yy_iconst C (v := (nI 0)) dL_holds_13 (pc' := 14) rfl (by decide) ?_
    subst hQ
    exact ye_i C hr (vp_nar_int _) () dL_holds_14 rfl (by decide) (by decide) (by rw [hq1, c_6]; rfl)
  · skip
    refine yy_iconst C (v := (nI 1)) dL_holds_9 (pc' := 10) rfl (by decide) ?_
    refine yy_goto C (tgt := 14) dL_holds_10 (by decide) ?_
    subst hQ
    exact ye_i C hr (vp_nar_int _) () dL_holds_14 rfl (by decide) (by decide) (by rw [hq1, c_6]; rfl)

abbrev rL_holdsByLog : Room := { frames := 8, cells := 1, slots := 6, locals := 135 }
set_option maxHeartbeats 4000000 in
set_option maxRecDepth 100000 in
theorem mL_holdsByLog (l : Launch) (hl0 : l.stackTraces = false) (G : gG) (B0 : Nat) (ad : Nat → Nat) (F : va_W) (S : SA) (a x : Int32) (hI : IA S) : Met l yL_holdsByLog (Cond.codeWith yL_holdsByLog cL_holdsByLog 4 (some .int) [(0, 14, 15, 22), (0, 14, 18, 20)] :: WG) rL_holdsByLog (va_Pc [.ref (ad 0), .int a, .int x] (PR G B0 (wA G ad S ++ F))) (va_Qi (fun (r : Int32) (_ : Unit) => r = wq (cdHolds (S.1 1) a x) (bI ((cloA S (lgM (S.2.1 13) (S.2.1 14) a (S.1 5))).testBit (ix x)))) (fun (_ : Unit) (t_ : State) => va_P G.1 vwCl (wA G ad S ++ F) t_.heap ∧ va_D (fun q => B0 ≤ q) (wA G ad S ++ F)) (fun q => B0 ≤ q)) rL_holdsByLog.cells rL_holdsByLog.slots (fun q => B0 ≤ q) := by
  refine metW_of RL [(0, .ref (ad 0)), (1, .int a), (2, .int x)] rfl (by decide) (Nat.le_of_ble_eq_true rfl) rfl ?_
  intro p e s m args below meth c C hr hnm ht
  refine yq ?_
  intro QQ hQ
  refine yy_aload_n C 0 dL_holdsByLog_0 (pc' := 1) rfl rfl rfl ?_
  refine yy_iload_n C 1 dL_holdsByLog_1 (pc' := 2) rfl rfl rfl ?_
  refine yy_iload_n C 2 dL_holdsByLog_2 (pc' := 3) rfl rfl rfl ?_
  refine xc_i (xr_V C (As := [.int a, .int x]) (rest := []) lk_L_59 cd_X6_holdsByLog im_X6_holdsByLog se_X6_holdsByLog (mX6_holdsByLog l hl0 G B0 ad F S a x hI) ⟨by decide, by decide⟩ ⟨by decide, by decide⟩ 0 rfl rfl rfl rfl (Nat.le_of_ble_eq_true rfl) dL_holdsByLog_3) (pc' := 6) rfl (fun E _ hw1 => ?_) (fun r1 _ hw1 => ?_)
  · skip
    rcases hw1 with ⟨rfl, hx_⟩ | ⟨rfl, hx_⟩
    · skip
      refine xe_catch C (name := "java/lang/IllegalArgumentException") [] ⟨0, 14, 15, 22⟩ [⟨0, 14, 18, 20⟩] (ht.trans rfl) (fun z hz => by cases hz) rfl (by decide) cl_L_22 (by decide +kernel) (pc' := 15) rfl (fun ce_ => ?_)
      refine yy_astore_n C dL_holdsByLog_15 (pc' := 16) rfl rfl (by decide) rfl ?_
      refine yy_iconst C (v := (-1)) dL_holdsByLog_16 (pc' := 17) rfl (by decide) ?_
      subst hQ
      exact ye_i C hr (vp_nar_int _) () dL_holdsByLog_17 rfl (by decide) (by decide) (by rw [hx_]; rfl)
    · skip
      refine xe_catch C (name := "java/lang/IndexOutOfBoundsException") [⟨0, 14, 15, 22⟩] ⟨0, 14, 18, 20⟩ [] (ht.trans rfl) (by
          intro z hz
          simp only [List.mem_cons, List.not_mem_nil, or_false] at hz
          rcases hz with rfl
          · exact Or.inr ⟨by decide, _, cl_L_22, by decide +kernel⟩) rfl (by decide) cl_L_20 (by decide +kernel) (pc' := 18) rfl (fun ce_ => ?_)
      refine yy_astore_n C dL_holdsByLog_18 (pc' := 19) rfl rfl (by decide) rfl ?_
      refine yy_bipush C (v := (-2)) dL_holdsByLog_19 (pc' := 21) rfl (by decide) ?_
      subst hQ
      exact ye_i C hr (vp_nar_int _) () dL_holdsByLog_21 rfl (by decide) (by decide) (by rw [hx_]; rfl)
    
  obtain ⟨hq1, hq2⟩ := hw1
  subst hq2
  refine yb_if_eq C dL_holdsByLog_6 (pc' := 9) rfl (tgt := 13) (by decide) (fun c_6 => ?_) (fun c_6 => ?_)
  · skip
    refine yy_iconst C (v := (nI 0)) dL_holdsByLog_13 (pc' := 14) rfl (by decide) ?_
    subst hQ
    exact ye_i C hr (vp_nar_int _) () dL_holdsByLog_14 rfl (by decide) (by decide) (by rw [hq1, c_6]; rfl)
  · skip
    refine yy_iconst C (v := (nI 1)) dL_holdsByLog_9 (pc' := 10) rfl (by decide) ?_
    refine yy_goto C (tgt := 14) dL_holdsByLog_10 (by decide) ?_
    subst hQ
    exact ye_i C hr (vp_nar_int _) () dL_holdsByLog_14 rfl (by decide) (by decide) (by rw [hq1, c_6]; rfl)

abbrev rL_held : Room := { frames := 8, cells := 1, slots := 6, locals := 133 }
set_option maxHeartbeats 4000000 in
set_option maxRecDepth 100000 in
theorem mL_held (l : Launch) (hl0 : l.stackTraces = false) (G : gG) (B0 : Nat) (ad : Nat → Nat) (F : va_W) (S : SA) (a : Int32) (hI : IA S) : Met l yL_held (Cond.codeWith yL_held cL_held 3 (some .int) [(0, 5, 6, 22)] :: WG) rL_held (va_Pc [.ref (ad 0), .int a] (PR G B0 (wA G ad S ++ F))) (va_Qi (fun (r : Int32) (_ : Unit) => r = wq (cd1 5 a) (nI (fb_ct (fun k => hb S (ix a) k) 40))) (fun (_ : Unit) (t_ : State) => va_P G.1 vwCl (wA G ad S ++ F) t_.heap ∧ va_D (fun q => B0 ≤ q) (wA G ad S ++ F)) (fun q => B0 ≤ q)) rL_held.cells rL_held.slots (fun q => B0 ≤ q) := by
  refine metW_of RL [(0, .ref (ad 0)), (1, .int a)] rfl (by decide) (Nat.le_of_ble_eq_true rfl) rfl ?_
  intro p e s m args below meth c C hr hnm ht
  refine yq ?_
  intro QQ hQ
  refine yy_aload_n C 0 dL_held_0 (pc' := 1) rfl rfl rfl ?_
  refine yy_iload_n C 1 dL_held_1 (pc' := 2) rfl rfl rfl ?_
  refine xc_i (xr_V C (As := [.int a]) (rest := []) lk_L_62 cd_X6_held im_X6_held se_X6_held (mX6_held l hl0 G B0 ad F S a hI) ⟨by decide, by decide⟩ ⟨by decide, by decide⟩ 0 rfl rfl rfl rfl (Nat.le_of_ble_eq_true rfl) dL_held_2) (pc' := 5) rfl (fun E _ hw1 => ?_) (fun r1 _ hw1 => ?_)
  · skip
    obtain ⟨rfl, hx_⟩ := hw1
    · skip
      refine xe_catch C (name := "java/lang/IllegalArgumentException") [] ⟨0, 5, 6, 22⟩ [] (ht.trans rfl) (fun z hz => by cases hz) rfl (by decide) cl_L_22 (by decide +kernel) (pc' := 6) rfl (fun ce_ => ?_)
      refine yy_astore_n C dL_held_6 (pc' := 7) rfl rfl (by decide) rfl ?_
      refine yy_iconst C (v := (-1)) dL_held_7 (pc' := 8) rfl (by decide) ?_
      subst hQ
      exact ye_i C hr (vp_nar_int _) () dL_held_8 rfl (by decide) (by decide) (by rw [hx_]; rfl)
    
  subst hQ
  exact ye_i C hr (vp_nar_int _) () dL_held_5 rfl (by decide) (by decide) (wq_ok hw1)

abbrev rL_given : Room := { frames := 8, cells := 1, slots := 6, locals := 133 }
set_option maxHeartbeats 4000000 in
set_option maxRecDepth 100000 in
theorem mL_given (l : Launch) (hl0 : l.stackTraces = false) (G : gG) (B0 : Nat) (ad : Nat → Nat) (F : va_W) (S : SA) (a : Int32) (hI : IA S) : Met l yL_given (Cond.codeWith yL_given cL_given 3 (some .int) [(0, 5, 6, 22)] :: WG) rL_given (va_Pc [.ref (ad 0), .int a] (PR G B0 (wA G ad S ++ F))) (va_Qi (fun (r : Int32) (_ : Unit) => r = wq (cd1 5 a) (nI (fb_ct (fun k => (lgM (S.2.1 13) (S.2.1 14) a (S.1 5)).testBit k) 40))) (fun (_ : Unit) (t_ : State) => va_P G.1 vwCl (wA G ad S ++ F) t_.heap ∧ va_D (fun q => B0 ≤ q) (wA G ad S ++ F)) (fun q => B0 ≤ q)) rL_given.cells rL_given.slots (fun q => B0 ≤ q) := by
  refine metW_of RL [(0, .ref (ad 0)), (1, .int a)] rfl (by decide) (Nat.le_of_ble_eq_true rfl) rfl ?_
  intro p e s m args below meth c C hr hnm ht
  refine yq ?_
  intro QQ hQ
  refine yy_aload_n C 0 dL_given_0 (pc' := 1) rfl rfl rfl ?_
  refine yy_iload_n C 1 dL_given_1 (pc' := 2) rfl rfl rfl ?_
  refine xc_i (xr_V C (As := [.int a]) (rest := []) lk_L_65 cd_X6_given im_X6_given se_X6_given (mX6_given l hl0 G B0 ad F S a hI) ⟨by decide, by decide⟩ ⟨by decide, by decide⟩ 0 rfl rfl rfl rfl (Nat.le_of_ble_eq_true rfl) dL_given_2) (pc' := 5) rfl (fun E _ hw1 => ?_) (fun r1 _ hw1 => ?_)
  · skip
    obtain ⟨rfl, hx_⟩ := hw1
    · skip
      refine xe_catch C (name := "java/lang/IllegalArgumentException") [] ⟨0, 5, 6, 22⟩ [] (ht.trans rfl) (fun z hz => by cases hz) rfl (by decide) cl_L_22 (by decide +kernel) (pc' := 6) rfl (fun ce_ => ?_)
      refine yy_astore_n C dL_given_6 (pc' := 7) rfl rfl (by decide) rfl ?_
      refine yy_iconst C (v := (-1)) dL_given_7 (pc' := 8) rfl (by decide) ?_
      subst hQ
      exact ye_i C hr (vp_nar_int _) () dL_given_8 rfl (by decide) (by decide) (by rw [hx_]; rfl)
    
  subst hQ
  exact ye_i C hr (vp_nar_int _) () dL_given_5 rfl (by decide) (by decide) (wq_ok hw1)

abbrev rL_holders : Room := { frames := 8, cells := 1, slots := 6, locals := 136 }
set_option maxHeartbeats 4000000 in
set_option maxRecDepth 100000 in
theorem mL_holders (l : Launch) (hl0 : l.stackTraces = false) (G : gG) (B0 : Nat) (ad : Nat → Nat) (F : va_W) (S : SA) (x : Int32) (hI : IA S) : Met l yL_holders (Cond.codeWith yL_holders cL_holders 3 (some .int) [(0, 5, 6, 20)] :: WG) rL_holders (va_Pc [.ref (ad 0), .int x] (PR G B0 (wA G ad S ++ F))) (va_Qi (fun (r : Int32) (_ : Unit) => r = wq (cd1 (S.1 1) x) (nI (fb_ct (fun z => hb S z (ix x)) 5))) (fun (_ : Unit) (t_ : State) => va_P G.1 vwCl (wA G ad S ++ F) t_.heap ∧ va_D (fun q => B0 ≤ q) (wA G ad S ++ F)) (fun q => B0 ≤ q)) rL_holders.cells rL_holders.slots (fun q => B0 ≤ q) := by
  refine metW_of RL [(0, .ref (ad 0)), (1, .int x)] rfl (by decide) (Nat.le_of_ble_eq_true rfl) rfl ?_
  intro p e s m args below meth c C hr hnm ht
  refine yq ?_
  intro QQ hQ
  refine yy_aload_n C 0 dL_holders_0 (pc' := 1) rfl rfl rfl ?_
  refine yy_iload_n C 1 dL_holders_1 (pc' := 2) rfl rfl rfl ?_
  refine xc_i (xr_V C (As := [.int x]) (rest := []) lk_L_68 cd_X6_holders im_X6_holders se_X6_holders (mX6_holders l hl0 G B0 ad F S x hI) ⟨by decide, by decide⟩ ⟨by decide, by decide⟩ 0 rfl rfl rfl rfl (Nat.le_of_ble_eq_true rfl) dL_holders_2) (pc' := 5) rfl (fun E _ hw1 => ?_) (fun r1 _ hw1 => ?_)
  · skip
    obtain ⟨rfl, hx_⟩ := hw1
    · skip
      refine xe_catch C (name := "java/lang/IndexOutOfBoundsException") [] ⟨0, 5, 6, 20⟩ [] (ht.trans rfl) (fun z hz => by cases hz) rfl (by decide) cl_L_20 (by decide +kernel) (pc' := 6) rfl (fun ce_ => ?_)
      refine yy_astore_n C dL_holders_6 (pc' := 7) rfl rfl (by decide) rfl ?_
      refine yy_iconst C (v := (-1)) dL_holders_7 (pc' := 8) rfl (by decide) ?_
      subst hQ
      exact ye_i C hr (vp_nar_int _) () dL_holders_8 rfl (by decide) (by decide) (by rw [hx_]; rfl)
    
  subst hQ
  exact ye_i C hr (vp_nar_int _) () dL_holders_5 rfl (by decide) (by decide) (wq_ok hw1)

abbrev rL_why : Room := { frames := 9, cells := 1, slots := 6, locals := 158 }
set_option maxHeartbeats 4000000 in
set_option maxRecDepth 100000 in
theorem mL_why (l : Launch) (hl0 : l.stackTraces = false) (G : gG) (B0 : Nat) (ad : Nat → Nat) (F : va_W) (S : SA) (a x : Int32) (hI : IA S) : Met l yL_why (Cond.codeWith yL_why cL_why 4 (some .int) [(0, 6, 7, 22), (0, 6, 10, 20), (0, 6, 14, 14)] :: WG) rL_why (va_Pc [.ref (ad 0), .int a, .int x] (PR G B0 (wA G ad S ++ F))) (va_Qi (fun (r : Int32) (_ : Unit) => r = wq (cdNH (S.1 1) (hb S) a x) (whyC S (ix a) (ix x))) (fun (_ : Unit) (t_ : State) => va_P G.1 vwCl (wA G ad S ++ F) t_.heap ∧ va_D (fun q => B0 ≤ q) (wA G ad S ++ F)) (fun q => B0 ≤ q)) rL_why.cells rL_why.slots (fun q => B0 ≤ q) := by
  refine metW_of RL [(0, .ref (ad 0)), (1, .int a), (2, .int x)] rfl (by decide) (Nat.le_of_ble_eq_true rfl) rfl ?_
  intro p e s m args below meth c C hr hnm ht
  refine yq ?_
  intro QQ hQ
  refine yy_aload_n C 0 dL_why_0 (pc' := 1) rfl rfl rfl ?_
  refine yy_iload_n C 1 dL_why_1 (pc' := 2) rfl rfl rfl ?_
  refine yy_iload_n C 2 dL_why_2 (pc' := 3) rfl rfl rfl ?_
  refine xc_i (xr_V C (As := [.int a, .int x]) (rest := []) lk_L_71 cd_X6_why im_X6_why se_X6_why (mX6_why l hl0 G B0 ad F S a x hI) ⟨by decide, by decide⟩ ⟨by decide, by decide⟩ 0 rfl rfl rfl rfl (Nat.le_of_ble_eq_true rfl) dL_why_3) (pc' := 6) rfl (fun E _ hw1 => ?_) (fun r1 _ hw1 => ?_)
  · skip
    rcases hw1 with ⟨rfl, hx_⟩ | ⟨rfl, hx_⟩ | ⟨rfl, hx_⟩
    · skip
      refine xe_catch C (name := "java/lang/IllegalArgumentException") [] ⟨0, 6, 7, 22⟩ [⟨0, 6, 10, 20⟩, ⟨0, 6, 14, 14⟩] (ht.trans rfl) (fun z hz => by cases hz) rfl (by decide) cl_L_22 (by decide +kernel) (pc' := 7) rfl (fun ce_ => ?_)
      refine yy_astore_n C dL_why_7 (pc' := 8) rfl rfl (by decide) rfl ?_
      refine yy_iconst C (v := (-1)) dL_why_8 (pc' := 9) rfl (by decide) ?_
      subst hQ
      exact ye_i C hr (vp_nar_int _) () dL_why_9 rfl (by decide) (by decide) (by rw [hx_]; rfl)
    · skip
      refine xe_catch C (name := "java/lang/IndexOutOfBoundsException") [⟨0, 6, 7, 22⟩] ⟨0, 6, 10, 20⟩ [⟨0, 6, 14, 14⟩] (ht.trans rfl) (by
          intro z hz
          simp only [List.mem_cons, List.not_mem_nil, or_false] at hz
          rcases hz with rfl
          · exact Or.inr ⟨by decide, _, cl_L_22, by decide +kernel⟩) rfl (by decide) cl_L_20 (by decide +kernel) (pc' := 10) rfl (fun ce_ => ?_)
      refine yy_astore_n C dL_why_10 (pc' := 11) rfl rfl (by decide) rfl ?_
      refine yy_bipush C (v := (-2)) dL_why_11 (pc' := 13) rfl (by decide) ?_
      subst hQ
      exact ye_i C hr (vp_nar_int _) () dL_why_13 rfl (by decide) (by decide) (by rw [hx_]; rfl)
    · skip
      refine xe_catch C (name := "java/lang/IllegalStateException") [⟨0, 6, 7, 22⟩, ⟨0, 6, 10, 20⟩] ⟨0, 6, 14, 14⟩ [] (ht.trans rfl) (by
          intro z hz
          simp only [List.mem_cons, List.not_mem_nil, or_false] at hz
          rcases hz with rfl | rfl
          · exact Or.inr ⟨by decide, _, cl_L_22, by decide +kernel⟩
          · exact Or.inr ⟨by decide, _, cl_L_20, by decide +kernel⟩) rfl (by decide) cl_L_14 (by decide +kernel) (pc' := 14) rfl (fun ce_ => ?_)
      refine yy_astore_n C dL_why_14 (pc' := 15) rfl rfl (by decide) rfl ?_
      refine yy_bipush C (v := (-3)) dL_why_15 (pc' := 17) rfl (by decide) ?_
      subst hQ
      exact ye_i C hr (vp_nar_int _) () dL_why_17 rfl (by decide) (by decide) (by rw [hx_]; rfl)
    
  subst hQ
  exact ye_i C hr (vp_nar_int _) () dL_why_6 rfl (by decide) (by decide) (wq_ok hw1)

abbrev rL_root : Room := { frames := 9, cells := 1, slots := 6, locals := 158 }
set_option maxHeartbeats 4000000 in
set_option maxRecDepth 100000 in
theorem mL_root (l : Launch) (hl0 : l.stackTraces = false) (G : gG) (B0 : Nat) (ad : Nat → Nat) (F : va_W) (S : SA) (a x : Int32) (hI : IA S) : Met l yL_root (Cond.codeWith yL_root cL_root 4 (some .int) [(0, 6, 7, 22), (0, 6, 10, 20), (0, 6, 14, 14), (0, 6, 18, 78)] :: WG) rL_root (va_Pc [.ref (ad 0), .int a, .int x] (PR G B0 (wA G ad S ++ F))) (va_Qi (fun (r : Int32) (_ : Unit) => r = wq (cdRoot S a x) (rootC S (ix a) (ix x))) (fun (_ : Unit) (t_ : State) => va_P G.1 vwCl (wA G ad S ++ F) t_.heap ∧ va_D (fun q => B0 ≤ q) (wA G ad S ++ F)) (fun q => B0 ≤ q)) rL_root.cells rL_root.slots (fun q => B0 ≤ q) := by
  refine metW_of RL [(0, .ref (ad 0)), (1, .int a), (2, .int x)] rfl (by decide) (Nat.le_of_ble_eq_true rfl) rfl ?_
  intro p e s m args below meth c C hr hnm ht
  refine yq ?_
  intro QQ hQ
  refine yy_aload_n C 0 dL_root_0 (pc' := 1) rfl rfl rfl ?_
  refine yy_iload_n C 1 dL_root_1 (pc' := 2) rfl rfl rfl ?_
  refine yy_iload_n C 2 dL_root_2 (pc' := 3) rfl rfl rfl ?_
  refine xc_i (xr_V C (As := [.int a, .int x]) (rest := []) lk_L_75 cd_X6_root im_X6_root se_X6_root (mX6_root l hl0 G B0 ad F S a x hI) ⟨by decide, by decide⟩ ⟨by decide, by decide⟩ 0 rfl rfl rfl rfl (Nat.le_of_ble_eq_true rfl) dL_root_3) (pc' := 6) rfl (fun E _ hw1 => ?_) (fun r1 _ hw1 => ?_)
  · skip
    rcases hw1 with ⟨rfl, hx_⟩ | ⟨rfl, hx_⟩ | ⟨rfl, hx_⟩ | ⟨rfl, hx_⟩
    · skip
      refine xe_catch C (name := "java/lang/IllegalArgumentException") [] ⟨0, 6, 7, 22⟩ [⟨0, 6, 10, 20⟩, ⟨0, 6, 14, 14⟩, ⟨0, 6, 18, 78⟩] (ht.trans rfl) (fun z hz => by cases hz) rfl (by decide) cl_L_22 (by decide +kernel) (pc' := 7) rfl (fun ce_ => ?_)
      refine yy_astore_n C dL_root_7 (pc' := 8) rfl rfl (by decide) rfl ?_
      refine yy_iconst C (v := (-1)) dL_root_8 (pc' := 9) rfl (by decide) ?_
      subst hQ
      exact ye_i C hr (vp_nar_int _) () dL_root_9 rfl (by decide) (by decide) (by rw [hx_]; rfl)
    · skip
      refine xe_catch C (name := "java/lang/IndexOutOfBoundsException") [⟨0, 6, 7, 22⟩] ⟨0, 6, 10, 20⟩ [⟨0, 6, 14, 14⟩, ⟨0, 6, 18, 78⟩] (ht.trans rfl) (by
          intro z hz
          simp only [List.mem_cons, List.not_mem_nil, or_false] at hz
          rcases hz with rfl
          · exact Or.inr ⟨by decide, _, cl_L_22, by decide +kernel⟩) rfl (by decide) cl_L_20 (by decide +kernel) (pc' := 10) rfl (fun ce_ => ?_)
      refine yy_astore_n C dL_root_10 (pc' := 11) rfl rfl (by decide) rfl ?_
      refine yy_bipush C (v := (-2)) dL_root_11 (pc' := 13) rfl (by decide) ?_
      subst hQ
      exact ye_i C hr (vp_nar_int _) () dL_root_13 rfl (by decide) (by decide) (by rw [hx_]; rfl)
    · skip
      refine xe_catch C (name := "java/lang/IllegalStateException") [⟨0, 6, 7, 22⟩, ⟨0, 6, 10, 20⟩] ⟨0, 6, 14, 14⟩ [⟨0, 6, 18, 78⟩] (ht.trans rfl) (by
          intro z hz
          simp only [List.mem_cons, List.not_mem_nil, or_false] at hz
          rcases hz with rfl | rfl
          · exact Or.inr ⟨by decide, _, cl_L_22, by decide +kernel⟩
          · exact Or.inr ⟨by decide, _, cl_L_20, by decide +kernel⟩) rfl (by decide) cl_L_14 (by decide +kernel) (pc' := 14) rfl (fun ce_ => ?_)
      refine yy_astore_n C dL_root_14 (pc' := 15) rfl rfl (by decide) rfl ?_
      refine yy_bipush C (v := (-3)) dL_root_15 (pc' := 17) rfl (by decide) ?_
      subst hQ
      exact ye_i C hr (vp_nar_int _) () dL_root_17 rfl (by decide) (by decide) (by rw [hx_]; rfl)
    · skip
      refine xe_catch C (name := "java/util/NoSuchElementException") [⟨0, 6, 7, 22⟩, ⟨0, 6, 10, 20⟩, ⟨0, 6, 14, 14⟩] ⟨0, 6, 18, 78⟩ [] (ht.trans rfl) (by
          intro z hz
          simp only [List.mem_cons, List.not_mem_nil, or_false] at hz
          rcases hz with rfl | rfl | rfl
          · exact Or.inr ⟨by decide, _, cl_L_22, by decide +kernel⟩
          · exact Or.inr ⟨by decide, _, cl_L_20, by decide +kernel⟩
          · exact Or.inr ⟨by decide, _, cl_L_14, by decide +kernel⟩) rfl (by decide) cl_L_78 (by decide +kernel) (pc' := 18) rfl (fun ce_ => ?_)
      refine yy_astore_n C dL_root_18 (pc' := 19) rfl rfl (by decide) rfl ?_
      refine yy_bipush C (v := (-4)) dL_root_19 (pc' := 21) rfl (by decide) ?_
      subst hQ
      exact ye_i C hr (vp_nar_int _) () dL_root_21 rfl (by decide) (by decide) (by rw [hx_]; rfl)
    
  subst hQ
  exact ye_i C hr (vp_nar_int _) () dL_root_6 rfl (by decide) (by decide) (wq_ok hw1)

abbrev rL_causes : Room := { frames := 9, cells := 1, slots := 6, locals := 159 }
set_option maxHeartbeats 4000000 in
set_option maxRecDepth 100000 in
theorem mL_causes (l : Launch) (hl0 : l.stackTraces = false) (G : gG) (B0 : Nat) (ad : Nat → Nat) (F : va_W) (S : SA) (a x : Int32) (hI : IA S) : Met l yL_causes (Cond.codeWith yL_causes cL_causes 4 (some .int) [(0, 6, 7, 22), (0, 6, 10, 20), (0, 6, 14, 14)] :: WG) rL_causes (va_Pc [.ref (ad 0), .int a, .int x] (PR G B0 (wA G ad S ++ F))) (va_Qi (fun (r : Int32) (_ : Unit) => r = wq (cdNH (S.1 1) (hb S) a x) (causesI S (ix a) (ix x))) (fun (_ : Unit) (t_ : State) => va_P G.1 vwCl (wA G ad S ++ F) t_.heap ∧ va_D (fun q => B0 ≤ q) (wA G ad S ++ F)) (fun q => B0 ≤ q)) rL_causes.cells rL_causes.slots (fun q => B0 ≤ q) := by
  refine metW_of RL [(0, .ref (ad 0)), (1, .int a), (2, .int x)] rfl (by decide) (Nat.le_of_ble_eq_true rfl) rfl ?_
  intro p e s m args below meth c C hr hnm ht
  refine yq ?_
  intro QQ hQ
  refine yy_aload_n C 0 dL_causes_0 (pc' := 1) rfl rfl rfl ?_
  refine yy_iload_n C 1 dL_causes_1 (pc' := 2) rfl rfl rfl ?_
  refine yy_iload_n C 2 dL_causes_2 (pc' := 3) rfl rfl rfl ?_
  refine xc_i (xr_V C (As := [.int a, .int x]) (rest := []) lk_L_80 cd_X6_causes im_X6_causes se_X6_causes (mX6_causes l hl0 G B0 ad F S a x hI) ⟨by decide, by decide⟩ ⟨by decide, by decide⟩ 0 rfl rfl rfl rfl (Nat.le_of_ble_eq_true rfl) dL_causes_3) (pc' := 6) rfl (fun E _ hw1 => ?_) (fun r1 _ hw1 => ?_)
  · skip
    rcases hw1 with ⟨rfl, hx_⟩ | ⟨rfl, hx_⟩ | ⟨rfl, hx_⟩
    · skip
      refine xe_catch C (name := "java/lang/IllegalArgumentException") [] ⟨0, 6, 7, 22⟩ [⟨0, 6, 10, 20⟩, ⟨0, 6, 14, 14⟩] (ht.trans rfl) (fun z hz => by cases hz) rfl (by decide) cl_L_22 (by decide +kernel) (pc' := 7) rfl (fun ce_ => ?_)
      refine yy_astore_n C dL_causes_7 (pc' := 8) rfl rfl (by decide) rfl ?_
      refine yy_iconst C (v := (-1)) dL_causes_8 (pc' := 9) rfl (by decide) ?_
      subst hQ
      exact ye_i C hr (vp_nar_int _) () dL_causes_9 rfl (by decide) (by decide) (by rw [hx_]; rfl)
    · skip
      refine xe_catch C (name := "java/lang/IndexOutOfBoundsException") [⟨0, 6, 7, 22⟩] ⟨0, 6, 10, 20⟩ [⟨0, 6, 14, 14⟩] (ht.trans rfl) (by
          intro z hz
          simp only [List.mem_cons, List.not_mem_nil, or_false] at hz
          rcases hz with rfl
          · exact Or.inr ⟨by decide, _, cl_L_22, by decide +kernel⟩) rfl (by decide) cl_L_20 (by decide +kernel) (pc' := 10) rfl (fun ce_ => ?_)
      refine yy_astore_n C dL_causes_10 (pc' := 11) rfl rfl (by decide) rfl ?_
      refine yy_bipush C (v := (-2)) dL_causes_11 (pc' := 13) rfl (by decide) ?_
      subst hQ
      exact ye_i C hr (vp_nar_int _) () dL_causes_13 rfl (by decide) (by decide) (by rw [hx_]; rfl)
    · skip
      refine xe_catch C (name := "java/lang/IllegalStateException") [⟨0, 6, 7, 22⟩, ⟨0, 6, 10, 20⟩] ⟨0, 6, 14, 14⟩ [] (ht.trans rfl) (by
          intro z hz
          simp only [List.mem_cons, List.not_mem_nil, or_false] at hz
          rcases hz with rfl | rfl
          · exact Or.inr ⟨by decide, _, cl_L_22, by decide +kernel⟩
          · exact Or.inr ⟨by decide, _, cl_L_20, by decide +kernel⟩) rfl (by decide) cl_L_14 (by decide +kernel) (pc' := 14) rfl (fun ce_ => ?_)
      refine yy_astore_n C dL_causes_14 (pc' := 15) rfl rfl (by decide) rfl ?_
      refine yy_bipush C (v := (-3)) dL_causes_15 (pc' := 17) rfl (by decide) ?_
      subst hQ
      exact ye_i C hr (vp_nar_int _) () dL_causes_17 rfl (by decide) (by decide) (by rw [hx_]; rfl)
    
  subst hQ
  exact ye_i C hr (vp_nar_int _) () dL_causes_6 rfl (by decide) (by decide) (wq_ok hw1)

abbrev rL_request : Room := { frames := 8, cells := 1, slots := 6, locals := 137 }
set_option maxHeartbeats 4000000 in
set_option maxRecDepth 100000 in
theorem mL_request (l : Launch) (hl0 : l.stackTraces = false) (G : gG) (B0 : Nat) (ad : Nat → Nat) (F : va_W) (S : SA) (a d : Int32) (hI : IA S) : Met l yL_request (Cond.codeWith yL_request cL_request 4 (some .int) [(0, 6, 7, 22), (0, 6, 10, 20), (0, 6, 14, 86), (0, 6, 18, 14)] :: WG) rL_request (va_Pc [.ref (ad 0), .int a, .int d] (PR G B0 (wA G ad S ++ F))) (va_Qi (fun (r : Int32) (u : SA) => ((cdReq (S.1 0) (S.1 6) (S.2.1 0) (wtg (S.1 6) (S.2.1 17) (S.2.1 15) (S.2.1 16) a d) a d = 0 ∧ r = nI (S.1 6)) ∧ u = (sN (sI (sI (sI (sI S 15 (upd (S.2.1 15) (S.1 6) a)) 16 (upd (S.2.1 16) (S.1 6) d)) 17 (upd (S.2.1 17) (S.1 6) (nI 119))) 18 (upd (S.2.1 18) (S.1 6) (nI (S.1 7)))) 6 (S.1 6 + 1))) ∨ ∃ q : Nat, ¬ q = 0 ∧ r = wneg q ∧ cdReq (S.1 0) (S.1 6) (S.2.1 0) (wtg (S.1 6) (S.2.1 17) (S.2.1 15) (S.2.1 16) a d) a d = q ∧ u = S) (fun (u : SA) (t_ : State) => va_P G.1 vwCl (wA G ad u ++ F) t_.heap ∧ va_D (fun q => B0 ≤ q) (wA G ad u ++ F)) (fun q => B0 ≤ q)) rL_request.cells rL_request.slots (fun q => B0 ≤ q) := by
  refine metW_of RL [(0, .ref (ad 0)), (1, .int a), (2, .int d)] rfl (by decide) (Nat.le_of_ble_eq_true rfl) rfl ?_
  intro p e s m args below meth c C hr hnm ht
  refine yq ?_
  intro QQ hQ
  refine yy_aload_n C 0 dL_request_0 (pc' := 1) rfl rfl rfl ?_
  refine yy_iload_n C 1 dL_request_1 (pc' := 2) rfl rfl rfl ?_
  refine yy_iload_n C 2 dL_request_2 (pc' := 3) rfl rfl rfl ?_
  refine xc_i (xr_V C (As := [.int a, .int d]) (rest := []) lk_L_83 cd_X6_request im_X6_request se_X6_request (mX6_request l hl0 G B0 ad F S a d hI) ⟨by decide, by decide⟩ ⟨by decide, by decide⟩ 0 rfl rfl rfl rfl (Nat.le_of_ble_eq_true rfl) dL_request_3) (pc' := 6) rfl (fun E _ hw1 => ?_) (fun r1 _ hw1 => ?_)
  · skip
    rcases hw1 with ⟨rfl, hx_⟩ | ⟨rfl, hx_⟩ | ⟨rfl, hx_⟩ | ⟨rfl, hx_⟩
    · skip
      refine xe_catch C (name := "java/lang/IllegalArgumentException") [] ⟨0, 6, 7, 22⟩ [⟨0, 6, 10, 20⟩, ⟨0, 6, 14, 86⟩, ⟨0, 6, 18, 14⟩] (ht.trans rfl) (fun z hz => by cases hz) rfl (by decide) cl_L_22 (by decide +kernel) (pc' := 7) rfl (fun ce_ => ?_)
      refine yy_astore_n C dL_request_7 (pc' := 8) rfl rfl (by decide) rfl ?_
      refine yy_iconst C (v := (-1)) dL_request_8 (pc' := 9) rfl (by decide) ?_
      subst hQ
      exact ye_i C hr (vp_nar_int _) S dL_request_9 rfl (by decide) (by decide) (Or.inr ⟨1, by decide, rfl, hx_, rfl⟩)
    · skip
      refine xe_catch C (name := "java/lang/IndexOutOfBoundsException") [⟨0, 6, 7, 22⟩] ⟨0, 6, 10, 20⟩ [⟨0, 6, 14, 86⟩, ⟨0, 6, 18, 14⟩] (ht.trans rfl) (by
          intro z hz
          simp only [List.mem_cons, List.not_mem_nil, or_false] at hz
          rcases hz with rfl
          · exact Or.inr ⟨by decide, _, cl_L_22, by decide +kernel⟩) rfl (by decide) cl_L_20 (by decide +kernel) (pc' := 10) rfl (fun ce_ => ?_)
      refine yy_astore_n C dL_request_10 (pc' := 11) rfl rfl (by decide) rfl ?_
      refine yy_bipush C (v := (-2)) dL_request_11 (pc' := 13) rfl (by decide) ?_
      subst hQ
      exact ye_i C hr (vp_nar_int _) S dL_request_13 rfl (by decide) (by decide) (Or.inr ⟨2, by decide, rfl, hx_, rfl⟩)
    · skip
      refine xe_catch C (name := "java/lang/UnsupportedOperationException") [⟨0, 6, 7, 22⟩, ⟨0, 6, 10, 20⟩] ⟨0, 6, 14, 86⟩ [⟨0, 6, 18, 14⟩] (ht.trans rfl) (by
          intro z hz
          simp only [List.mem_cons, List.not_mem_nil, or_false] at hz
          rcases hz with rfl | rfl
          · exact Or.inr ⟨by decide, _, cl_L_22, by decide +kernel⟩
          · exact Or.inr ⟨by decide, _, cl_L_20, by decide +kernel⟩) rfl (by decide) cl_L_86 (by decide +kernel) (pc' := 14) rfl (fun ce_ => ?_)
      refine yy_astore_n C dL_request_14 (pc' := 15) rfl rfl (by decide) rfl ?_
      refine yy_bipush C (v := (-3)) dL_request_15 (pc' := 17) rfl (by decide) ?_
      subst hQ
      exact ye_i C hr (vp_nar_int _) S dL_request_17 rfl (by decide) (by decide) (Or.inr ⟨3, by decide, rfl, hx_, rfl⟩)
    · skip
      refine xe_catch C (name := "java/lang/IllegalStateException") [⟨0, 6, 7, 22⟩, ⟨0, 6, 10, 20⟩, ⟨0, 6, 14, 86⟩] ⟨0, 6, 18, 14⟩ [] (ht.trans rfl) (by
          intro z hz
          simp only [List.mem_cons, List.not_mem_nil, or_false] at hz
          rcases hz with rfl | rfl | rfl
          · exact Or.inr ⟨by decide, _, cl_L_22, by decide +kernel⟩
          · exact Or.inr ⟨by decide, _, cl_L_20, by decide +kernel⟩
          · exact Or.inr ⟨by decide, _, cl_L_86, by decide +kernel⟩) rfl (by decide) cl_L_14 (by decide +kernel) (pc' := 18) rfl (fun ce_ => ?_)
      refine yy_astore_n C dL_request_18 (pc' := 19) rfl rfl (by decide) rfl ?_
      refine yy_bipush C (v := (-4)) dL_request_19 (pc' := 21) rfl (by decide) ?_
      subst hQ
      exact ye_i C hr (vp_nar_int _) S dL_request_21 rfl (by decide) (by decide) (Or.inr ⟨4, by decide, rfl, hx_, rfl⟩)
    
  subst hQ
  exact ye_i C hr (vp_nar_int _) (sN (sI (sI (sI (sI S 15 (upd (S.2.1 15) (S.1 6) a)) 16 (upd (S.2.1 16) (S.1 6) d)) 17 (upd (S.2.1 17) (S.1 6) (nI 119))) 18 (upd (S.2.1 18) (S.1 6) (nI (S.1 7)))) 6 (S.1 6 + 1)) dL_request_6 rfl (by decide) (by decide) (Or.inl ⟨hw1, rfl⟩)

abbrev rL_state : Room := { frames := 8, cells := 1, slots := 6, locals := 134 }
set_option maxHeartbeats 4000000 in
set_option maxRecDepth 100000 in
theorem mL_state (l : Launch) (hl0 : l.stackTraces = false) (G : gG) (B0 : Nat) (ad : Nat → Nat) (F : va_W) (S : SA) (k : Int32) (hI : IA S) (hq : ∀ j, j < S.1 6 → narrow .char (.int (S.2.1 17 j)) = .int (S.2.1 17 j)) : Met l yL_state (Cond.codeWith yL_state cL_state 3 (some .int) [(0, 5, 6, 20)] :: WG) rL_state (va_Pc [.ref (ad 0), .int k] (PR G B0 (wA G ad S ++ F))) (va_Qi (fun (r : Int32) (_ : Unit) => r = wq (cd1 (S.1 6) k) (S.2.1 17 (ix k))) (fun (_ : Unit) (t_ : State) => va_P G.1 vwCl (wA G ad S ++ F) t_.heap ∧ va_D (fun q => B0 ≤ q) (wA G ad S ++ F)) (fun q => B0 ≤ q)) rL_state.cells rL_state.slots (fun q => B0 ≤ q) := by
  refine metW_of RL [(0, .ref (ad 0)), (1, .int k)] rfl (by decide) (Nat.le_of_ble_eq_true rfl) rfl ?_
  intro p e s m args below meth c C hr hnm ht
  refine yq ?_
  intro QQ hQ
  refine yy_aload_n C 0 dL_state_0 (pc' := 1) rfl rfl rfl ?_
  refine yy_iload_n C 1 dL_state_1 (pc' := 2) rfl rfl rfl ?_
  refine xc_i (xr_V C (As := [.int k]) (rest := []) lk_L_88 cd_X6_state im_X6_state se_X6_state (mX6_state l hl0 G B0 ad F S k hI hq) ⟨by decide, by decide⟩ ⟨by decide, by decide⟩ 0 rfl rfl rfl rfl (Nat.le_of_ble_eq_true rfl) dL_state_2) (pc' := 5) rfl (fun E _ hw1 => ?_) (fun r1 _ hw1 => ?_)
  · skip
    obtain ⟨rfl, hx_⟩ := hw1
    · skip
      refine xe_catch C (name := "java/lang/IndexOutOfBoundsException") [] ⟨0, 5, 6, 20⟩ [] (ht.trans rfl) (fun z hz => by cases hz) rfl (by decide) cl_L_20 (by decide +kernel) (pc' := 6) rfl (fun ce_ => ?_)
      refine yy_astore_n C dL_state_6 (pc' := 7) rfl rfl (by decide) rfl ?_
      refine yy_iconst C (v := (-1)) dL_state_7 (pc' := 8) rfl (by decide) ?_
      subst hQ
      exact ye_i C hr (vp_nar_int _) () dL_state_8 rfl (by decide) (by decide) (by rw [hx_]; rfl)
    
  subst hQ
  exact ye_i C hr (vp_nar_int _) () dL_state_5 rfl (by decide) (by decide) (wq_ok hw1)

abbrev rL_answer : Room := { frames := 8, cells := 1, slots := 6, locals := 160 }
set_option maxHeartbeats 4000000 in
set_option maxRecDepth 100000 in
theorem mL_answer (l : Launch) (hl0 : l.stackTraces = false) (G : gG) (B0 : Nat) (ad : Nat → Nat) (F : va_W) (S : SA) (k : Int32) (hI : IA S) (hJ : JA S) : Met l yL_answer (Cond.codeWith yL_answer cL_answer 3 (some .int) [(0, 5, 6, 20), (0, 5, 9, 14)] :: WG) rL_answer (va_Pc [.ref (ad 0), .int k] (PR G B0 (wA G ad S ++ F))) (va_Qi (fun (r : Int32) (u : SA) => (∃ g : Nat, (cdAns (S.1 6) (S.2.1 17) k = 0 ∧ k = nI g ∧ g < S.1 6 ∧ r = nI (gvC (sI S 17 (upd (S.2.1 17) g (nI 97))) (ix (S.2.1 15 g)) (S.2.1 16 g) (S.1 1))) ∧ u = (gvS (sI S 17 (upd (S.2.1 17) g (nI 97))) (ix (S.2.1 15 g)) (S.2.1 16 g) (S.1 1))) ∨ ∃ q : Nat, ¬ q = 0 ∧ r = wneg q ∧ cdAns (S.1 6) (S.2.1 17) k = q ∧ u = S) (fun (u : SA) (t_ : State) => va_P G.1 vwCl (wA G ad u ++ F) t_.heap ∧ va_D (fun q => B0 ≤ q) (wA G ad u ++ F)) (fun q => B0 ≤ q)) rL_answer.cells rL_answer.slots (fun q => B0 ≤ q) := by
  refine metW_of RL [(0, .ref (ad 0)), (1, .int k)] rfl (by decide) (Nat.le_of_ble_eq_true rfl) rfl ?_
  intro p e s m args below meth c C hr hnm ht
  refine yq ?_
  intro QQ hQ
  refine yy_aload_n C 0 dL_answer_0 (pc' := 1) rfl rfl rfl ?_
  refine yy_iload_n C 1 dL_answer_1 (pc' := 2) rfl rfl rfl ?_
  refine xc_i (xr_V C (As := [.int k]) (rest := []) lk_L_92 cd_X6_answer im_X6_answer se_X6_answer (mX6_answer l hl0 G B0 ad F S k hI hJ) ⟨by decide, by decide⟩ ⟨by decide, by decide⟩ 0 rfl rfl rfl rfl (Nat.le_of_ble_eq_true rfl) dL_answer_2) (pc' := 5) rfl (fun E _ hw1 => ?_) (fun r1 u1 hw1 => ?_)
  · skip
    rcases hw1 with ⟨rfl, hx_⟩ | ⟨rfl, hx_⟩
    · skip
      refine xe_catch C (name := "java/lang/IndexOutOfBoundsException") [] ⟨0, 5, 6, 20⟩ [⟨0, 5, 9, 14⟩] (ht.trans rfl) (fun z hz => by cases hz) rfl (by decide) cl_L_20 (by decide +kernel) (pc' := 6) rfl (fun ce_ => ?_)
      refine yy_astore_n C dL_answer_6 (pc' := 7) rfl rfl (by decide) rfl ?_
      refine yy_iconst C (v := (-1)) dL_answer_7 (pc' := 8) rfl (by decide) ?_
      subst hQ
      exact ye_i C hr (vp_nar_int _) S dL_answer_8 rfl (by decide) (by decide) (Or.inr ⟨1, by decide, rfl, hx_, rfl⟩)
    · skip
      refine xe_catch C (name := "java/lang/IllegalStateException") [⟨0, 5, 6, 20⟩] ⟨0, 5, 9, 14⟩ [] (ht.trans rfl) (by
          intro z hz
          simp only [List.mem_cons, List.not_mem_nil, or_false] at hz
          rcases hz with rfl
          · exact Or.inr ⟨by decide, _, cl_L_20, by decide +kernel⟩) rfl (by decide) cl_L_14 (by decide +kernel) (pc' := 9) rfl (fun ce_ => ?_)
      refine yy_astore_n C dL_answer_9 (pc' := 10) rfl rfl (by decide) rfl ?_
      refine yy_bipush C (v := (-2)) dL_answer_10 (pc' := 12) rfl (by decide) ?_
      subst hQ
      exact ye_i C hr (vp_nar_int _) S dL_answer_12 rfl (by decide) (by decide) (Or.inr ⟨2, by decide, rfl, hx_, rfl⟩)
    
  subst hQ
  exact ye_i C hr (vp_nar_int _) (gvS (sI S 17 (upd (S.2.1 17) u1 (nI 97))) (ix (S.2.1 15 u1)) (S.2.1 16 u1) (S.1 1)) dL_answer_5 rfl (by decide) (by decide) (Or.inl ⟨u1, hw1, rfl⟩)

abbrev rL_withdraw : Room := { frames := 8, cells := 1, slots := 6, locals := 134 }
set_option maxHeartbeats 4000000 in
set_option maxRecDepth 100000 in
theorem mL_withdraw (l : Launch) (hl0 : l.stackTraces = false) (G : gG) (B0 : Nat) (ad : Nat → Nat) (F : va_W) (S : SA) (k : Int32) (hI : IA S) : Met l yL_withdraw (Cond.codeWith yL_withdraw cL_withdraw 3 (some .int) [(0, 5, 6, 20), (0, 5, 9, 14)] :: WG) rL_withdraw (va_Pc [.ref (ad 0), .int k] (PR G B0 (wA G ad S ++ F))) (va_Qi (fun (r : Int32) (u : SA) => (∃ g : Nat, (cdAns (S.1 6) (S.2.1 17) k = 0 ∧ k = nI g ∧ g < S.1 6 ∧ r = nI (fb_ct (fun z => decide (upd (S.2.1 17) g (nI 120) z = nI 119)) (S.1 6))) ∧ u = (sI S 17 (upd (S.2.1 17) g (nI 120)))) ∨ ∃ q : Nat, ¬ q = 0 ∧ r = wneg q ∧ cdAns (S.1 6) (S.2.1 17) k = q ∧ u = S) (fun (u : SA) (t_ : State) => va_P G.1 vwCl (wA G ad u ++ F) t_.heap ∧ va_D (fun q => B0 ≤ q) (wA G ad u ++ F)) (fun q => B0 ≤ q)) rL_withdraw.cells rL_withdraw.slots (fun q => B0 ≤ q) := by
  refine metW_of RL [(0, .ref (ad 0)), (1, .int k)] rfl (by decide) (Nat.le_of_ble_eq_true rfl) rfl ?_
  intro p e s m args below meth c C hr hnm ht
  refine yq ?_
  intro QQ hQ
  refine yy_aload_n C 0 dL_withdraw_0 (pc' := 1) rfl rfl rfl ?_
  refine yy_iload_n C 1 dL_withdraw_1 (pc' := 2) rfl rfl rfl ?_
  refine xc_i (xr_V C (As := [.int k]) (rest := []) lk_L_95 cd_X6_withdraw im_X6_withdraw se_X6_withdraw (mX6_withdraw l hl0 G B0 ad F S k hI) ⟨by decide, by decide⟩ ⟨by decide, by decide⟩ 0 rfl rfl rfl rfl (Nat.le_of_ble_eq_true rfl) dL_withdraw_2) (pc' := 5) rfl (fun E _ hw1 => ?_) (fun r1 u1 hw1 => ?_)
  · skip
    rcases hw1 with ⟨rfl, hx_⟩ | ⟨rfl, hx_⟩
    · skip
      refine xe_catch C (name := "java/lang/IndexOutOfBoundsException") [] ⟨0, 5, 6, 20⟩ [⟨0, 5, 9, 14⟩] (ht.trans rfl) (fun z hz => by cases hz) rfl (by decide) cl_L_20 (by decide +kernel) (pc' := 6) rfl (fun ce_ => ?_)
      refine yy_astore_n C dL_withdraw_6 (pc' := 7) rfl rfl (by decide) rfl ?_
      refine yy_iconst C (v := (-1)) dL_withdraw_7 (pc' := 8) rfl (by decide) ?_
      subst hQ
      exact ye_i C hr (vp_nar_int _) S dL_withdraw_8 rfl (by decide) (by decide) (Or.inr ⟨1, by decide, rfl, hx_, rfl⟩)
    · skip
      refine xe_catch C (name := "java/lang/IllegalStateException") [⟨0, 5, 6, 20⟩] ⟨0, 5, 9, 14⟩ [] (ht.trans rfl) (by
          intro z hz
          simp only [List.mem_cons, List.not_mem_nil, or_false] at hz
          rcases hz with rfl
          · exact Or.inr ⟨by decide, _, cl_L_20, by decide +kernel⟩) rfl (by decide) cl_L_14 (by decide +kernel) (pc' := 9) rfl (fun ce_ => ?_)
      refine yy_astore_n C dL_withdraw_9 (pc' := 10) rfl rfl (by decide) rfl ?_
      refine yy_bipush C (v := (-2)) dL_withdraw_10 (pc' := 12) rfl (by decide) ?_
      subst hQ
      exact ye_i C hr (vp_nar_int _) S dL_withdraw_12 rfl (by decide) (by decide) (Or.inr ⟨2, by decide, rfl, hx_, rfl⟩)
    
  subst hQ
  exact ye_i C hr (vp_nar_int _) (sI S 17 (upd (S.2.1 17) u1 (nI 120))) dL_withdraw_5 rfl (by decide) (by decide) (Or.inl ⟨u1, hw1, rfl⟩)

abbrev rL_setPrice : Room := { frames := 7, cells := 1, slots := 6, locals := 114 }
set_option maxHeartbeats 4000000 in
set_option maxRecDepth 100000 in
theorem mL_setPrice (l : Launch) (hl0 : l.stackTraces = false) (G : gG) (B0 : Nat) (ad : Nat → Nat) (F : va_W) (S : SA) (z : Int32) (hI : IA S) : Met l yL_setPrice (Cond.codeWith yL_setPrice cL_setPrice 3 (some .int) [(0, 5, 6, 22)] :: WG) rL_setPrice (va_Pc [.ref (ad 0), .int z] (PR G B0 (wA G ad S ++ F))) (va_Qi (fun (r : Int32) (u : SA) => (∃ g : Nat, (cdPrice z = 0 ∧ z = nI g ∧ g ≤ 99 ∧ r = nI (S.1 8)) ∧ u = (sN S 8 g)) ∨ ∃ q : Nat, ¬ q = 0 ∧ r = wneg q ∧ cdPrice z = q ∧ u = S) (fun (u : SA) (t_ : State) => va_P G.1 vwCl (wA G ad u ++ F) t_.heap ∧ va_D (fun q => B0 ≤ q) (wA G ad u ++ F)) (fun q => B0 ≤ q)) rL_setPrice.cells rL_setPrice.slots (fun q => B0 ≤ q) := by
  refine metW_of RL [(0, .ref (ad 0)), (1, .int z)] rfl (by decide) (Nat.le_of_ble_eq_true rfl) rfl ?_
  intro p e s m args below meth c C hr hnm ht
  refine yq ?_
  intro QQ hQ
  refine yy_aload_n C 0 dL_setPrice_0 (pc' := 1) rfl rfl rfl ?_
  refine yy_iload_n C 1 dL_setPrice_1 (pc' := 2) rfl rfl rfl ?_
  refine xc_i (xr_V C (As := [.int z]) (rest := []) lk_L_98 cd_X6_setPrice im_X6_setPrice se_X6_setPrice (mX6_setPrice l hl0 G B0 ad F S z hI) ⟨by decide, by decide⟩ ⟨by decide, by decide⟩ 0 rfl rfl rfl rfl (Nat.le_of_ble_eq_true rfl) dL_setPrice_2) (pc' := 5) rfl (fun E _ hw1 => ?_) (fun r1 u1 hw1 => ?_)
  · skip
    obtain ⟨rfl, hx_⟩ := hw1
    · skip
      refine xe_catch C (name := "java/lang/IllegalArgumentException") [] ⟨0, 5, 6, 22⟩ [] (ht.trans rfl) (fun z hz => by cases hz) rfl (by decide) cl_L_22 (by decide +kernel) (pc' := 6) rfl (fun ce_ => ?_)
      refine yy_astore_n C dL_setPrice_6 (pc' := 7) rfl rfl (by decide) rfl ?_
      refine yy_iconst C (v := (-1)) dL_setPrice_7 (pc' := 8) rfl (by decide) ?_
      subst hQ
      exact ye_i C hr (vp_nar_int _) S dL_setPrice_8 rfl (by decide) (by decide) (Or.inr ⟨1, by decide, rfl, hx_, rfl⟩)
    
  subst hQ
  exact ye_i C hr (vp_nar_int _) (sN S 8 u1) dL_setPrice_5 rfl (by decide) (by decide) (Or.inl ⟨u1, hw1, rfl⟩)

abbrev rL_owed : Room := { frames := 8, cells := 1, slots := 6, locals := 133 }
set_option maxHeartbeats 4000000 in
set_option maxRecDepth 100000 in
theorem mL_owed (l : Launch) (hl0 : l.stackTraces = false) (G : gG) (B0 : Nat) (ad : Nat → Nat) (F : va_W) (S : SA) (a : Int32) (hI : IA S) : Met l yL_owed (Cond.codeWith yL_owed cL_owed 3 (some .int) [(0, 5, 6, 22)] :: WG) rL_owed (va_Pc [.ref (ad 0), .int a] (PR G B0 (wA G ad S ++ F))) (va_Qi (fun (r : Int32) (_ : Unit) => r = wq (cd1 5 a) (S.2.1 0 (ix a))) (fun (_ : Unit) (t_ : State) => va_P G.1 vwCl (wA G ad S ++ F) t_.heap ∧ va_D (fun q => B0 ≤ q) (wA G ad S ++ F)) (fun q => B0 ≤ q)) rL_owed.cells rL_owed.slots (fun q => B0 ≤ q) := by
  refine metW_of RL [(0, .ref (ad 0)), (1, .int a)] rfl (by decide) (Nat.le_of_ble_eq_true rfl) rfl ?_
  intro p e s m args below meth c C hr hnm ht
  refine yq ?_
  intro QQ hQ
  refine yy_aload_n C 0 dL_owed_0 (pc' := 1) rfl rfl rfl ?_
  refine yy_iload_n C 1 dL_owed_1 (pc' := 2) rfl rfl rfl ?_
  refine xc_i (xr_V C (As := [.int a]) (rest := []) lk_L_101 cd_X6_owed im_X6_owed se_X6_owed (mX6_owed l hl0 G B0 ad F S a hI) ⟨by decide, by decide⟩ ⟨by decide, by decide⟩ 0 rfl rfl rfl rfl (Nat.le_of_ble_eq_true rfl) dL_owed_2) (pc' := 5) rfl (fun E _ hw1 => ?_) (fun r1 _ hw1 => ?_)
  · skip
    obtain ⟨rfl, hx_⟩ := hw1
    · skip
      refine xe_catch C (name := "java/lang/IllegalArgumentException") [] ⟨0, 5, 6, 22⟩ [] (ht.trans rfl) (fun z hz => by cases hz) rfl (by decide) cl_L_22 (by decide +kernel) (pc' := 6) rfl (fun ce_ => ?_)
      refine yy_astore_n C dL_owed_6 (pc' := 7) rfl rfl (by decide) rfl ?_
      refine yy_iconst C (v := (-1)) dL_owed_7 (pc' := 8) rfl (by decide) ?_
      subst hQ
      exact ye_i C hr (vp_nar_int _) () dL_owed_8 rfl (by decide) (by decide) (by rw [hx_]; rfl)
    
  subst hQ
  exact ye_i C hr (vp_nar_int _) () dL_owed_5 rfl (by decide) (by decide) (wq_ok hw1)

abbrev rL_pay : Room := { frames := 8, cells := 1, slots := 6, locals := 134 }
set_option maxHeartbeats 4000000 in
set_option maxRecDepth 100000 in
theorem mL_pay (l : Launch) (hl0 : l.stackTraces = false) (G : gG) (B0 : Nat) (ad : Nat → Nat) (F : va_W) (S : SA) (a z : Int32) (hI : IA S) : Met l yL_pay (Cond.codeWith yL_pay cL_pay 4 (some .int) [(0, 6, 7, 22)] :: WG) rL_pay (va_Pc [.ref (ad 0), .int a, .int z] (PR G B0 (wA G ad S ++ F))) (va_Qi (fun (r : Int32) (u : SA) => (∃ g : Nat, (cdPay (S.2.1 0) a z = 0 ∧ a = nI g ∧ g < 5 ∧ r = S.2.1 0 g - z) ∧ u = (sI S 0 (upd (S.2.1 0) g (S.2.1 0 g - z)))) ∨ ∃ q : Nat, ¬ q = 0 ∧ r = wneg q ∧ cdPay (S.2.1 0) a z = q ∧ u = S) (fun (u : SA) (t_ : State) => va_P G.1 vwCl (wA G ad u ++ F) t_.heap ∧ va_D (fun q => B0 ≤ q) (wA G ad u ++ F)) (fun q => B0 ≤ q)) rL_pay.cells rL_pay.slots (fun q => B0 ≤ q) := by
  refine metW_of RL [(0, .ref (ad 0)), (1, .int a), (2, .int z)] rfl (by decide) (Nat.le_of_ble_eq_true rfl) rfl ?_
  intro p e s m args below meth c C hr hnm ht
  refine yq ?_
  intro QQ hQ
  refine yy_aload_n C 0 dL_pay_0 (pc' := 1) rfl rfl rfl ?_
  refine yy_iload_n C 1 dL_pay_1 (pc' := 2) rfl rfl rfl ?_
  refine yy_iload_n C 2 dL_pay_2 (pc' := 3) rfl rfl rfl ?_
  refine xc_i (xr_V C (As := [.int a, .int z]) (rest := []) lk_L_104 cd_X6_pay im_X6_pay se_X6_pay (mX6_pay l hl0 G B0 ad F S a z hI) ⟨by decide, by decide⟩ ⟨by decide, by decide⟩ 0 rfl rfl rfl rfl (Nat.le_of_ble_eq_true rfl) dL_pay_3) (pc' := 6) rfl (fun E _ hw1 => ?_) (fun r1 u1 hw1 => ?_)
  · skip
    obtain ⟨rfl, hx_⟩ := hw1
    · skip
      refine xe_catch C (name := "java/lang/IllegalArgumentException") [] ⟨0, 6, 7, 22⟩ [] (ht.trans rfl) (fun z hz => by cases hz) rfl (by decide) cl_L_22 (by decide +kernel) (pc' := 7) rfl (fun ce_ => ?_)
      refine yy_astore_n C dL_pay_7 (pc' := 8) rfl rfl (by decide) rfl ?_
      refine yy_iconst C (v := (-1)) dL_pay_8 (pc' := 9) rfl (by decide) ?_
      subst hQ
      exact ye_i C hr (vp_nar_int _) S dL_pay_9 rfl (by decide) (by decide) (Or.inr ⟨1, by decide, rfl, hx_, rfl⟩)
    
  subst hQ
  exact ye_i C hr (vp_nar_int _) (sI S 0 (upd (S.2.1 0) u1 (S.2.1 0 u1 - z))) dL_pay_6 rfl (by decide) (by decide) (Or.inl ⟨u1, hw1, rfl⟩)

abbrev rL_pass : Room := { frames := 7, cells := 1, slots := 6, locals := 114 }
set_option maxHeartbeats 4000000 in
set_option maxRecDepth 100000 in
theorem mL_pass (l : Launch) (hl0 : l.stackTraces = false) (G : gG) (B0 : Nat) (ad : Nat → Nat) (F : va_W) (S : SA) (z : Int32) (hI : IA S) : Met l yL_pass (Cond.codeWith yL_pass cL_pass 3 (some .int) [(0, 5, 6, 22)] :: WG) rL_pass (va_Pc [.ref (ad 0), .int z] (PR G B0 (wA G ad S ++ F))) (va_Qi (fun (r : Int32) (u : SA) => (∃ g : Nat, (cdPass (S.1 7) z = 0 ∧ z = nI g ∧ (1 ≤ g ∧ g ≤ 90 ∧ S.1 7 + g ≤ 9999) ∧ r = nI (lateC (S.1 6) (S.2.1 17) (S.2.1 18) (S.1 7 + g)) - nI (lateC (S.1 6) (S.2.1 17) (S.2.1 18) (S.1 7))) ∧ u = (sN S 7 (S.1 7 + g))) ∨ ∃ q : Nat, ¬ q = 0 ∧ r = wneg q ∧ cdPass (S.1 7) z = q ∧ u = S) (fun (u : SA) (t_ : State) => va_P G.1 vwCl (wA G ad u ++ F) t_.heap ∧ va_D (fun q => B0 ≤ q) (wA G ad u ++ F)) (fun q => B0 ≤ q)) rL_pass.cells rL_pass.slots (fun q => B0 ≤ q) := by
  refine metW_of RL [(0, .ref (ad 0)), (1, .int z)] rfl (by decide) (Nat.le_of_ble_eq_true rfl) rfl ?_
  intro p e s m args below meth c C hr hnm ht
  refine yq ?_
  intro QQ hQ
  refine yy_aload_n C 0 dL_pass_0 (pc' := 1) rfl rfl rfl ?_
  refine yy_iload_n C 1 dL_pass_1 (pc' := 2) rfl rfl rfl ?_
  refine xc_i (xr_V C (As := [.int z]) (rest := []) lk_L_107 cd_X6_pass im_X6_pass se_X6_pass (mX6_pass l hl0 G B0 ad F S z hI) ⟨by decide, by decide⟩ ⟨by decide, by decide⟩ 0 rfl rfl rfl rfl (Nat.le_of_ble_eq_true rfl) dL_pass_2) (pc' := 5) rfl (fun E _ hw1 => ?_) (fun r1 u1 hw1 => ?_)
  · skip
    obtain ⟨rfl, hx_⟩ := hw1
    · skip
      refine xe_catch C (name := "java/lang/IllegalArgumentException") [] ⟨0, 5, 6, 22⟩ [] (ht.trans rfl) (fun z hz => by cases hz) rfl (by decide) cl_L_22 (by decide +kernel) (pc' := 6) rfl (fun ce_ => ?_)
      refine yy_astore_n C dL_pass_6 (pc' := 7) rfl rfl (by decide) rfl ?_
      refine yy_iconst C (v := (-1)) dL_pass_7 (pc' := 8) rfl (by decide) ?_
      subst hQ
      exact ye_i C hr (vp_nar_int _) S dL_pass_8 rfl (by decide) (by decide) (Or.inr ⟨1, by decide, rfl, hx_, rfl⟩)
    
  subst hQ
  exact ye_i C hr (vp_nar_int _) (sN S 7 (S.1 7 + u1)) dL_pass_5 rfl (by decide) (by decide) (Or.inl ⟨u1, hw1, rfl⟩)

abbrev rL_answeredShare : Room := { frames := 7, cells := 1, slots := 6, locals := 113 }
set_option maxHeartbeats 4000000 in
set_option maxRecDepth 100000 in
theorem mL_answeredShare (l : Launch) (hl0 : l.stackTraces = false) (G : gG) (B0 : Nat) (ad : Nat → Nat) (F : va_W) (S : SA) (hI : IA S) : Met l yL_answeredShare (Cond.codeWith yL_answeredShare cL_answeredShare 2 (some .float) [(0, 4, 5, 78)] :: WG) rL_answeredShare (va_Pc [.ref (ad 0)] (PR G B0 (wA G ad S ++ F))) (va_Qf (fun (r : UInt32) (_ : Unit) => r = wqF (cdShare (S.1 6)) (shareF (fb_ct (fun k => decide (S.2.1 17 k = nI 97)) (S.1 6)) (S.1 6))) (fun (_ : Unit) (t_ : State) => va_P G.1 vwCl (wA G ad S ++ F) t_.heap ∧ va_D (fun q => B0 ≤ q) (wA G ad S ++ F)) (fun q => B0 ≤ q)) rL_answeredShare.cells rL_answeredShare.slots (fun q => B0 ≤ q) := by
  refine metW_of RL [(0, .ref (ad 0))] rfl (by decide) (Nat.le_of_ble_eq_true rfl) rfl ?_
  intro p e s m args below meth c C hr hnm ht
  refine yq ?_
  intro QQ hQ
  refine yy_aload_n C 0 dL_answeredShare_0 (pc' := 1) rfl rfl rfl ?_
  refine xc_f (xr_V C (As := []) (rest := []) lk_L_110 cd_X6_answeredShare im_X6_answeredShare se_X6_answeredShare (mX6_answeredShare l hl0 G B0 ad F S hI) ⟨by decide, by decide⟩ ⟨by decide, by decide⟩ 0 rfl rfl rfl rfl (Nat.le_of_ble_eq_true rfl) dL_answeredShare_1) (pc' := 4) rfl (fun E _ hw1 => ?_) (fun r1 _ hw1 => ?_)
  · skip
    obtain ⟨rfl, hx_⟩ := hw1
    · skip
      refine xe_catch C (name := "java/util/NoSuchElementException") [] ⟨0, 4, 5, 78⟩ [] (ht.trans rfl) (fun z hz => by cases hz) rfl (by decide) cl_L_78 (by decide +kernel) (pc' := 5) rfl (fun ce_ => ?_)
      refine yy_astore_n C dL_answeredShare_5 (pc' := 6) rfl rfl (by decide) rfl ?_
      refine yy_ldcf C dL_answeredShare_6 (pc' := 8) rfl lf_L_114 ?_
      subst hQ
      exact ye_f C hr () dL_answeredShare_8 rfl (by decide) (by decide) (by rw [hx_]; rfl)
    
  subst hQ
  exact ye_f C hr () dL_answeredShare_4 rfl (by decide) (by decide) (wq_okF hw1)
