theorem share_d00 : ∀ k, k < 21 → ∀ n, n < 21 → 0 < n → FP.f2d (FP.fdiv (FP.i2f (nI k)) (FP.i2f (nI n))) &&& 0x7fffffffffffffff ≤ 0x7ff0000000000000 := by decide +kernel
theorem share_d0 : ∀ k, k < 21 → ∀ n, n < 21 → 0 < n → vf_n64 (FP.f2d (FP.fdiv (FP.i2f (nI k)) (FP.i2f (nI n)))) := share_d00
theorem share_d {S : SA} (hI : IA S) {r : UInt32} {P_ : Nat → Bool} (h : cdShare (S.1 6) = 0 ∧ r = shareF (fb_ct P_ (S.1 6)) (S.1 6)) : vf_n64 (FP.f2d r) := by
  obtain ⟨h1, rfl⟩ := h
  have i6 : S.1 6 ≤ 20 := hI.2.2.2.2.2.2.1
  have h2 : ¬ S.1 6 = 0 := by
    intro h3
    rw [h3] at h1
    cases h1
  have h4 := fb_ct_le P_ (S.1 6)
  exact share_d0 _ (by omega) _ (by omega) (by omega)
abbrev rL_addDocument : Room := { frames := 8, cells := 1, slots := 6, locals := 132 }
set_option maxHeartbeats 4000000 in
set_option maxRecDepth 100000 in
theorem mL_addDocument (l : Launch) (hl0 : l.stackTraces = false) (G : gG) (B0 : Nat) (ad : Nat → Nat) (F : va_W) (S : SA) (hI : IA S) (o : Nat) (fo : Nat → Int64) : Met l yL_addDocument (Cond.codeWith yL_addDocument cL_addDocument 3 (some .int) [(0, 8, 11, 13)] :: WG) rL_addDocument (va_Pc [.ref (ad 0), .ref (o)] (PR G B0 (wA G ad S ++ ((o, .inl (G.2.2.1, 1, .inr (.inl fo))) :: F)))) (va_Qi (fun (r : Int32) (u : SA × (Nat → Int64)) => (r = nI 0 ∧ ∃ (v_ : Int32), (cdAddDoc (S.1 0) = 0 ∧ v_ = nI (S.1 0)) ∧ u = ((sN S 0 (S.1 0 + 1)), vp_updL fo 0 v_.toInt64)) ∨ ∃ q : Nat, ¬ q = 0 ∧ r = nI q ∧ cdAddDoc (S.1 0) = q ∧ u = (S, fo)) (fun (u : SA × (Nat → Int64)) (t_ : State) => va_P G.1 vwCl (wA G ad u.1 ++ ((o, .inl (G.2.2.1, 1, .inr (.inl u.2))) :: F)) t_.heap ∧ va_D (fun q => B0 ≤ q) (wA G ad u.1 ++ ((o, .inl (G.2.2.1, 1, .inr (.inl u.2))) :: F))) (fun q => B0 ≤ q)) rL_addDocument.cells rL_addDocument.slots (fun q => B0 ≤ q) := by
  refine metW_of RL [(0, .ref (ad 0)), (1, .ref (o))] rfl (by decide) (Nat.le_of_ble_eq_true rfl) rfl ?_
  intro p e s m args below meth c C hr hnm ht
  refine yq ?_
  intro QQ hQ
  refine yy_aload_n C 1 dL_addDocument_0 (pc' := 1) rfl rfl rfl ?_
  refine yy_iconst C (v := (nI 0)) dL_addDocument_1 (pc' := 2) rfl (by decide) ?_
  refine yy_aload_n C 0 dL_addDocument_2 (pc' := 3) rfl rfl rfl ?_
  refine xc_i (xr_V C (As := []) (rest := [.int (nI 0), .ref (o)]) lk_L_7 cd_X6_addDocument im_X6_addDocument se_X6_addDocument (mX6_addDocument l hl0 G B0 ad ((o, .inl (G.2.2.1, 1, .inr (.inl fo))) :: F) S hI) ⟨by decide, by decide⟩ ⟨by decide, by decide⟩ 0 rfl rfl rfl rfl (Nat.le_of_ble_eq_true rfl) dL_addDocument_3) (pc' := 6) rfl (fun E _ hw1 => ?_) (fun r1 _ hw1 => ?_)
  · skip
    obtain ⟨rfl, hx_⟩ := hw1
    · skip
      refine xe_catch C (name := "java/lang/IllegalStateException") [] ⟨0, 8, 11, 13⟩ [] (ht.trans rfl) (fun z hz => by cases hz) rfl (by decide) cl_L_13 (by decide +kernel) (pc' := 11) rfl (fun ce_ => ?_)
      refine yy_astore_n C dL_addDocument_11 (pc' := 12) rfl rfl (by decide) rfl ?_
      refine yy_iconst C (v := (nI 1)) dL_addDocument_12 (pc' := 13) rfl (by decide) ?_
      subst hQ
      exact ye_i C hr (vp_nar_int _) (S, fo) dL_addDocument_13 rfl (by decide) (by decide) (Or.inr ⟨1, by decide, rfl, hx_, rfl⟩)
    
  refine yy_i2l C (v := r1.toInt64) dL_addDocument_6 (pc' := 7) rfl rfl ?_
  refine yy_last C (w' := wA G ad (sN S 0 (S.1 0 + 1)) ++ ((o, .inl (G.2.2.1, 1, .inr (.inl (vp_updL fo 0 r1.toInt64)))) :: F)) 28 dL_addDocument_7 (pc' := 8) rfl rfl (by omega) (by decide) rfl ?_
  refine yy_goto C (tgt := 14) dL_addDocument_8 (by decide) ?_
  refine yy_iconst C (v := (nI 0)) dL_addDocument_14 (pc' := 15) rfl (by decide) ?_
  subst hQ
  exact ye_i C hr (vp_nar_int _) ((sN S 0 (S.1 0 + 1)), vp_updL fo 0 r1.toInt64) dL_addDocument_15 rfl (by decide) (by decide) (Or.inl ⟨rfl, r1, hw1, rfl⟩)

abbrev rL_addLine : Room := { frames := 8, cells := 1, slots := 6, locals := 136 }
set_option maxHeartbeats 4000000 in
set_option maxRecDepth 100000 in
theorem mL_addLine (l : Launch) (hl0 : l.stackTraces = false) (G : gG) (B0 : Nat) (ad : Nat → Nat) (F : va_W) (S : SA) (d v : Int32) (hI : IA S) (o : Nat) (fo : Nat → Int64) : Met l yL_addLine (Cond.codeWith yL_addLine cL_addLine 5 (some .int) [(0, 10, 13, 19), (0, 10, 17, 21), (0, 10, 21, 13)] :: WG) rL_addLine (va_Pc [.ref (ad 0), .int d, .int v, .ref (o)] (PR G B0 (wA G ad S ++ ((o, .inl (G.2.2.1, 1, .inr (.inl fo))) :: F)))) (va_Qi (fun (r : Int32) (u : SA × (Nat → Int64)) => (r = nI 0 ∧ ∃ (v_ : Int32) (g : Nat), (cdAddLine (S.1 0) (S.1 1) d v = 0 ∧ d = nI g ∧ g < S.1 0 ∧ v_ = nI (S.1 1)) ∧ u = ((sN (sI (sI (sI (sI S 1 (upd (S.2.1 1) g ((S.2.1 1) g + nI 1))) 2 (upd (S.2.1 2) (S.1 1) (nI g))) 3 (upd (S.2.1 3) (S.1 1) ((S.2.1 1) g))) 4 (upd (S.2.1 4) (S.1 1) v)) 1 (S.1 1 + 1)), vp_updL fo 0 v_.toInt64)) ∨ ∃ q : Nat, ¬ q = 0 ∧ r = nI q ∧ cdAddLine (S.1 0) (S.1 1) d v = q ∧ u = (S, fo)) (fun (u : SA × (Nat → Int64)) (t_ : State) => va_P G.1 vwCl (wA G ad u.1 ++ ((o, .inl (G.2.2.1, 1, .inr (.inl u.2))) :: F)) t_.heap ∧ va_D (fun q => B0 ≤ q) (wA G ad u.1 ++ ((o, .inl (G.2.2.1, 1, .inr (.inl u.2))) :: F))) (fun q => B0 ≤ q)) rL_addLine.cells rL_addLine.slots (fun q => B0 ≤ q) := by
  refine metW_of RL [(0, .ref (ad 0)), (1, .int d), (2, .int v), (3, .ref (o))] rfl (by decide) (Nat.le_of_ble_eq_true rfl) rfl ?_
  intro p e s m args below meth c C hr hnm ht
  refine yq ?_
  intro QQ hQ
  refine yy_aload_n C 3 dL_addLine_0 (pc' := 1) rfl rfl rfl ?_
  refine yy_iconst C (v := (nI 0)) dL_addLine_1 (pc' := 2) rfl (by decide) ?_
  refine yy_aload_n C 0 dL_addLine_2 (pc' := 3) rfl rfl rfl ?_
  refine yy_iload_n C 1 dL_addLine_3 (pc' := 4) rfl rfl rfl ?_
  refine yy_iload_n C 2 dL_addLine_4 (pc' := 5) rfl rfl rfl ?_
  refine xc_i (xr_V C (As := [.int d, .int v]) (rest := [.int (nI 0), .ref (o)]) lk_L_15 cd_X6_addLine im_X6_addLine se_X6_addLine (mX6_addLine l hl0 G B0 ad ((o, .inl (G.2.2.1, 1, .inr (.inl fo))) :: F) S d v hI) ⟨by decide, by decide⟩ ⟨by decide, by decide⟩ 0 rfl rfl rfl rfl (Nat.le_of_ble_eq_true rfl) dL_addLine_5) (pc' := 8) rfl (fun E _ hw1 => ?_) (fun r1 u1 hw1 => ?_)
  · skip
    rcases hw1 with ⟨rfl, hx_⟩ | ⟨rfl, hx_⟩ | ⟨rfl, hx_⟩
    · skip
      refine xe_catch C (name := "java/lang/IndexOutOfBoundsException") [] ⟨0, 10, 13, 19⟩ [⟨0, 10, 17, 21⟩, ⟨0, 10, 21, 13⟩] (ht.trans rfl) (fun z hz => by cases hz) rfl (by decide) cl_L_19 (by decide +kernel) (pc' := 13) rfl (fun ce_ => ?_)
      refine yy_astore C dL_addLine_13 (pc' := 15) rfl (by decide) rfl ?_
      refine yy_iconst C (v := (nI 1)) dL_addLine_15 (pc' := 16) rfl (by decide) ?_
      subst hQ
      exact ye_i C hr (vp_nar_int _) (S, fo) dL_addLine_16 rfl (by decide) (by decide) (Or.inr ⟨1, by decide, rfl, hx_, rfl⟩)
    · skip
      refine xe_catch C (name := "java/lang/IllegalArgumentException") [⟨0, 10, 13, 19⟩] ⟨0, 10, 17, 21⟩ [⟨0, 10, 21, 13⟩] (ht.trans rfl) (by
          intro z hz
          simp only [List.mem_cons, List.not_mem_nil, or_false] at hz
          rcases hz with rfl
          · exact Or.inr ⟨by decide, _, cl_L_19, by decide +kernel⟩) rfl (by decide) cl_L_21 (by decide +kernel) (pc' := 17) rfl (fun ce_ => ?_)
      refine yy_astore C dL_addLine_17 (pc' := 19) rfl (by decide) rfl ?_
      refine yy_iconst C (v := (nI 2)) dL_addLine_19 (pc' := 20) rfl (by decide) ?_
      subst hQ
      exact ye_i C hr (vp_nar_int _) (S, fo) dL_addLine_20 rfl (by decide) (by decide) (Or.inr ⟨2, by decide, rfl, hx_, rfl⟩)
    · skip
      refine xe_catch C (name := "java/lang/IllegalStateException") [⟨0, 10, 13, 19⟩, ⟨0, 10, 17, 21⟩] ⟨0, 10, 21, 13⟩ [] (ht.trans rfl) (by
          intro z hz
          simp only [List.mem_cons, List.not_mem_nil, or_false] at hz
          rcases hz with rfl | rfl
          · exact Or.inr ⟨by decide, _, cl_L_19, by decide +kernel⟩
          · exact Or.inr ⟨by decide, _, cl_L_21, by decide +kernel⟩) rfl (by decide) cl_L_13 (by decide +kernel) (pc' := 21) rfl (fun ce_ => ?_)
      refine yy_astore C dL_addLine_21 (pc' := 23) rfl (by decide) rfl ?_
      refine yy_iconst C (v := (nI 3)) dL_addLine_23 (pc' := 24) rfl (by decide) ?_
      subst hQ
      exact ye_i C hr (vp_nar_int _) (S, fo) dL_addLine_24 rfl (by decide) (by decide) (Or.inr ⟨3, by decide, rfl, hx_, rfl⟩)
    
  refine yy_i2l C (v := r1.toInt64) dL_addLine_8 (pc' := 9) rfl rfl ?_
  refine yy_last C (w' := wA G ad (sN (sI (sI (sI (sI S 1 (upd (S.2.1 1) u1 ((S.2.1 1) u1 + nI 1))) 2 (upd (S.2.1 2) (S.1 1) (nI u1))) 3 (upd (S.2.1 3) (S.1 1) ((S.2.1 1) u1))) 4 (upd (S.2.1 4) (S.1 1) v)) 1 (S.1 1 + 1)) ++ ((o, .inl (G.2.2.1, 1, .inr (.inl (vp_updL fo 0 r1.toInt64)))) :: F)) 28 dL_addLine_9 (pc' := 10) rfl rfl (by omega) (by decide) rfl ?_
  refine yy_goto C (tgt := 25) dL_addLine_10 (by decide) ?_
  refine yy_iconst C (v := (nI 0)) dL_addLine_25 (pc' := 26) rfl (by decide) ?_
  subst hQ
  exact ye_i C hr (vp_nar_int _) ((sN (sI (sI (sI (sI S 1 (upd (S.2.1 1) u1 ((S.2.1 1) u1 + nI 1))) 2 (upd (S.2.1 2) (S.1 1) (nI u1))) 3 (upd (S.2.1 3) (S.1 1) ((S.2.1 1) u1))) 4 (upd (S.2.1 4) (S.1 1) v)) 1 (S.1 1 + 1)), vp_updL fo 0 r1.toInt64) dL_addLine_26 rfl (by decide) (by decide) (Or.inl ⟨rfl, r1, u1, hw1, rfl⟩)

abbrev rL_rescan : Room := { frames := 8, cells := 1, slots := 6, locals := 136 }
set_option maxHeartbeats 4000000 in
set_option maxRecDepth 100000 in
theorem mL_rescan (l : Launch) (hl0 : l.stackTraces = false) (G : gG) (B0 : Nat) (ad : Nat → Nat) (F : va_W) (S : SA) (x v : Int32) (hI : IA S) (o : Nat) (fo : Nat → Int64) : Met l yL_rescan (Cond.codeWith yL_rescan cL_rescan 5 (some .int) [(0, 10, 13, 19), (0, 10, 17, 21)] :: WG) rL_rescan (va_Pc [.ref (ad 0), .int x, .int v, .ref (o)] (PR G B0 (wA G ad S ++ ((o, .inl (G.2.2.1, 1, .inr (.inl fo))) :: F)))) (va_Qi (fun (r : Int32) (u : SA × (Nat → Int64)) => (r = nI 0 ∧ ∃ (v_ : Int32) (g : Nat), (cdRescan (S.1 1) x v = 0 ∧ x = nI g ∧ g < S.1 1 ∧ v_ = S.2.1 4 g) ∧ u = ((sI S 4 (upd (S.2.1 4) g v)), vp_updL fo 0 v_.toInt64)) ∨ ∃ q : Nat, ¬ q = 0 ∧ r = nI q ∧ cdRescan (S.1 1) x v = q ∧ u = (S, fo)) (fun (u : SA × (Nat → Int64)) (t_ : State) => va_P G.1 vwCl (wA G ad u.1 ++ ((o, .inl (G.2.2.1, 1, .inr (.inl u.2))) :: F)) t_.heap ∧ va_D (fun q => B0 ≤ q) (wA G ad u.1 ++ ((o, .inl (G.2.2.1, 1, .inr (.inl u.2))) :: F))) (fun q => B0 ≤ q)) rL_rescan.cells rL_rescan.slots (fun q => B0 ≤ q) := by
  refine metW_of RL [(0, .ref (ad 0)), (1, .int x), (2, .int v), (3, .ref (o))] rfl (by decide) (Nat.le_of_ble_eq_true rfl) rfl ?_
  intro p e s m args below meth c C hr hnm ht
  refine yq ?_
  intro QQ hQ
  refine yy_aload_n C 3 dL_rescan_0 (pc' := 1) rfl rfl rfl ?_
  refine yy_iconst C (v := (nI 0)) dL_rescan_1 (pc' := 2) rfl (by decide) ?_
  refine yy_aload_n C 0 dL_rescan_2 (pc' := 3) rfl rfl rfl ?_
  refine yy_iload_n C 1 dL_rescan_3 (pc' := 4) rfl rfl rfl ?_
  refine yy_iload_n C 2 dL_rescan_4 (pc' := 5) rfl rfl rfl ?_
  refine xc_i (xr_V C (As := [.int x, .int v]) (rest := [.int (nI 0), .ref (o)]) lk_L_23 cd_X6_rescan im_X6_rescan se_X6_rescan (mX6_rescan l hl0 G B0 ad ((o, .inl (G.2.2.1, 1, .inr (.inl fo))) :: F) S x v hI) ⟨by decide, by decide⟩ ⟨by decide, by decide⟩ 0 rfl rfl rfl rfl (Nat.le_of_ble_eq_true rfl) dL_rescan_5) (pc' := 8) rfl (fun E _ hw1 => ?_) (fun r1 u1 hw1 => ?_)
  · skip
    rcases hw1 with ⟨rfl, hx_⟩ | ⟨rfl, hx_⟩
    · skip
      refine xe_catch C (name := "java/lang/IndexOutOfBoundsException") [] ⟨0, 10, 13, 19⟩ [⟨0, 10, 17, 21⟩] (ht.trans rfl) (fun z hz => by cases hz) rfl (by decide) cl_L_19 (by decide +kernel) (pc' := 13) rfl (fun ce_ => ?_)
      refine yy_astore C dL_rescan_13 (pc' := 15) rfl (by decide) rfl ?_
      refine yy_iconst C (v := (nI 1)) dL_rescan_15 (pc' := 16) rfl (by decide) ?_
      subst hQ
      exact ye_i C hr (vp_nar_int _) (S, fo) dL_rescan_16 rfl (by decide) (by decide) (Or.inr ⟨1, by decide, rfl, hx_, rfl⟩)
    · skip
      refine xe_catch C (name := "java/lang/IllegalArgumentException") [⟨0, 10, 13, 19⟩] ⟨0, 10, 17, 21⟩ [] (ht.trans rfl) (by
          intro z hz
          simp only [List.mem_cons, List.not_mem_nil, or_false] at hz
          rcases hz with rfl
          · exact Or.inr ⟨by decide, _, cl_L_19, by decide +kernel⟩) rfl (by decide) cl_L_21 (by decide +kernel) (pc' := 17) rfl (fun ce_ => ?_)
      refine yy_astore C dL_rescan_17 (pc' := 19) rfl (by decide) rfl ?_
      refine yy_iconst C (v := (nI 2)) dL_rescan_19 (pc' := 20) rfl (by decide) ?_
      subst hQ
      exact ye_i C hr (vp_nar_int _) (S, fo) dL_rescan_20 rfl (by decide) (by decide) (Or.inr ⟨2, by decide, rfl, hx_, rfl⟩)
    
  refine yy_i2l C (v := r1.toInt64) dL_rescan_8 (pc' := 9) rfl rfl ?_
  refine yy_last C (w' := wA G ad (sI S 4 (upd (S.2.1 4) u1 v)) ++ ((o, .inl (G.2.2.1, 1, .inr (.inl (vp_updL fo 0 r1.toInt64)))) :: F)) 28 dL_rescan_9 (pc' := 10) rfl rfl (by omega) (by decide) rfl ?_
  refine yy_goto C (tgt := 21) dL_rescan_10 (by decide) ?_
  refine yy_iconst C (v := (nI 0)) dL_rescan_21 (pc' := 22) rfl (by decide) ?_
  subst hQ
  exact ye_i C hr (vp_nar_int _) ((sI S 4 (upd (S.2.1 4) u1 v)), vp_updL fo 0 r1.toInt64) dL_rescan_22 rfl (by decide) (by decide) (Or.inl ⟨rfl, r1, u1, hw1, rfl⟩)

abbrev rL_documentOf : Room := { frames := 8, cells := 1, slots := 6, locals := 134 }
set_option maxHeartbeats 4000000 in
set_option maxRecDepth 100000 in
theorem mL_documentOf (l : Launch) (hl0 : l.stackTraces = false) (G : gG) (B0 : Nat) (ad : Nat → Nat) (F : va_W) (S : SA) (x : Int32) (hI : IA S) (o : Nat) (fo : Nat → Int64) : Met l yL_documentOf (Cond.codeWith yL_documentOf cL_documentOf 4 (some .int) [(0, 9, 12, 19)] :: WG) rL_documentOf (va_Pc [.ref (ad 0), .int x, .ref (o)] (PR G B0 (wA G ad S ++ ((o, .inl (G.2.2.1, 1, .inr (.inl fo))) :: F)))) (va_Qi (fun (r : Int32) (u : SA × (Nat → Int64)) => (r = nI 0 ∧ ∃ (v_ : Int32), (cd1 (S.1 1) x = 0 ∧ v_ = S.2.1 2 (ix x)) ∧ u = (S, vp_updL fo 0 v_.toInt64)) ∨ ∃ q : Nat, ¬ q = 0 ∧ r = nI q ∧ cd1 (S.1 1) x = q ∧ u = (S, fo)) (fun (u : SA × (Nat → Int64)) (t_ : State) => va_P G.1 vwCl (wA G ad u.1 ++ ((o, .inl (G.2.2.1, 1, .inr (.inl u.2))) :: F)) t_.heap ∧ va_D (fun q => B0 ≤ q) (wA G ad u.1 ++ ((o, .inl (G.2.2.1, 1, .inr (.inl u.2))) :: F))) (fun q => B0 ≤ q)) rL_documentOf.cells rL_documentOf.slots (fun q => B0 ≤ q) := by
  refine metW_of RL [(0, .ref (ad 0)), (1, .int x), (2, .ref (o))] rfl (by decide) (Nat.le_of_ble_eq_true rfl) rfl ?_
  intro p e s m args below meth c C hr hnm ht
  refine yq ?_
  intro QQ hQ
  refine yy_aload_n C 2 dL_documentOf_0 (pc' := 1) rfl rfl rfl ?_
  refine yy_iconst C (v := (nI 0)) dL_documentOf_1 (pc' := 2) rfl (by decide) ?_
  refine yy_aload_n C 0 dL_documentOf_2 (pc' := 3) rfl rfl rfl ?_
  refine yy_iload_n C 1 dL_documentOf_3 (pc' := 4) rfl rfl rfl ?_
  refine xc_i (xr_V C (As := [.int x]) (rest := [.int (nI 0), .ref (o)]) lk_L_26 cd_X6_documentOf im_X6_documentOf se_X6_documentOf (mX6_documentOf l hl0 G B0 ad ((o, .inl (G.2.2.1, 1, .inr (.inl fo))) :: F) S x hI) ⟨by decide, by decide⟩ ⟨by decide, by decide⟩ 0 rfl rfl rfl rfl (Nat.le_of_ble_eq_true rfl) dL_documentOf_4) (pc' := 7) rfl (fun E _ hw1 => ?_) (fun r1 _ hw1 => ?_)
  · skip
    obtain ⟨rfl, hx_⟩ := hw1
    · skip
      refine xe_catch C (name := "java/lang/IndexOutOfBoundsException") [] ⟨0, 9, 12, 19⟩ [] (ht.trans rfl) (fun z hz => by cases hz) rfl (by decide) cl_L_19 (by decide +kernel) (pc' := 12) rfl (fun ce_ => ?_)
      refine yy_astore_n C dL_documentOf_12 (pc' := 13) rfl rfl (by decide) rfl ?_
      refine yy_iconst C (v := (nI 1)) dL_documentOf_13 (pc' := 14) rfl (by decide) ?_
      subst hQ
      exact ye_i C hr (vp_nar_int _) (S, fo) dL_documentOf_14 rfl (by decide) (by decide) (Or.inr ⟨1, by decide, rfl, hx_, rfl⟩)
    
  refine yy_i2l C (v := r1.toInt64) dL_documentOf_7 (pc' := 8) rfl rfl ?_
  refine yy_last C (w' := wA G ad S ++ ((o, .inl (G.2.2.1, 1, .inr (.inl (vp_updL fo 0 r1.toInt64)))) :: F)) 28 dL_documentOf_8 (pc' := 9) rfl rfl (by omega) (by decide) rfl ?_
  refine yy_goto C (tgt := 15) dL_documentOf_9 (by decide) ?_
  refine yy_iconst C (v := (nI 0)) dL_documentOf_15 (pc' := 16) rfl (by decide) ?_
  subst hQ
  exact ye_i C hr (vp_nar_int _) (S, vp_updL fo 0 r1.toInt64) dL_documentOf_16 rfl (by decide) (by decide) (Or.inl ⟨rfl, r1, hw1, rfl⟩)

abbrev rL_indexOf : Room := { frames := 8, cells := 1, slots := 6, locals := 134 }
set_option maxHeartbeats 4000000 in
set_option maxRecDepth 100000 in
theorem mL_indexOf (l : Launch) (hl0 : l.stackTraces = false) (G : gG) (B0 : Nat) (ad : Nat → Nat) (F : va_W) (S : SA) (x : Int32) (hI : IA S) (o : Nat) (fo : Nat → Int64) : Met l yL_indexOf (Cond.codeWith yL_indexOf cL_indexOf 4 (some .int) [(0, 9, 12, 19)] :: WG) rL_indexOf (va_Pc [.ref (ad 0), .int x, .ref (o)] (PR G B0 (wA G ad S ++ ((o, .inl (G.2.2.1, 1, .inr (.inl fo))) :: F)))) (va_Qi (fun (r : Int32) (u : SA × (Nat → Int64)) => (r = nI 0 ∧ ∃ (v_ : Int32), (cd1 (S.1 1) x = 0 ∧ v_ = S.2.1 3 (ix x)) ∧ u = (S, vp_updL fo 0 v_.toInt64)) ∨ ∃ q : Nat, ¬ q = 0 ∧ r = nI q ∧ cd1 (S.1 1) x = q ∧ u = (S, fo)) (fun (u : SA × (Nat → Int64)) (t_ : State) => va_P G.1 vwCl (wA G ad u.1 ++ ((o, .inl (G.2.2.1, 1, .inr (.inl u.2))) :: F)) t_.heap ∧ va_D (fun q => B0 ≤ q) (wA G ad u.1 ++ ((o, .inl (G.2.2.1, 1, .inr (.inl u.2))) :: F))) (fun q => B0 ≤ q)) rL_indexOf.cells rL_indexOf.slots (fun q => B0 ≤ q) := by
  refine metW_of RL [(0, .ref (ad 0)), (1, .int x), (2, .ref (o))] rfl (by decide) (Nat.le_of_ble_eq_true rfl) rfl ?_
  intro p e s m args below meth c C hr hnm ht
  refine yq ?_
  intro QQ hQ
  refine yy_aload_n C 2 dL_indexOf_0 (pc' := 1) rfl rfl rfl ?_
  refine yy_iconst C (v := (nI 0)) dL_indexOf_1 (pc' := 2) rfl (by decide) ?_
  refine yy_aload_n C 0 dL_indexOf_2 (pc' := 3) rfl rfl rfl ?_
  refine yy_iload_n C 1 dL_indexOf_3 (pc' := 4) rfl rfl rfl ?_
  refine xc_i (xr_V C (As := [.int x]) (rest := [.int (nI 0), .ref (o)]) lk_L_30 cd_X6_indexOf im_X6_indexOf se_X6_indexOf (mX6_indexOf l hl0 G B0 ad ((o, .inl (G.2.2.1, 1, .inr (.inl fo))) :: F) S x hI) ⟨by decide, by decide⟩ ⟨by decide, by decide⟩ 0 rfl rfl rfl rfl (Nat.le_of_ble_eq_true rfl) dL_indexOf_4) (pc' := 7) rfl (fun E _ hw1 => ?_) (fun r1 _ hw1 => ?_)
  · skip
    obtain ⟨rfl, hx_⟩ := hw1
    · skip
      refine xe_catch C (name := "java/lang/IndexOutOfBoundsException") [] ⟨0, 9, 12, 19⟩ [] (ht.trans rfl) (fun z hz => by cases hz) rfl (by decide) cl_L_19 (by decide +kernel) (pc' := 12) rfl (fun ce_ => ?_)
      refine yy_astore_n C dL_indexOf_12 (pc' := 13) rfl rfl (by decide) rfl ?_
      refine yy_iconst C (v := (nI 1)) dL_indexOf_13 (pc' := 14) rfl (by decide) ?_
      subst hQ
      exact ye_i C hr (vp_nar_int _) (S, fo) dL_indexOf_14 rfl (by decide) (by decide) (Or.inr ⟨1, by decide, rfl, hx_, rfl⟩)
    
  refine yy_i2l C (v := r1.toInt64) dL_indexOf_7 (pc' := 8) rfl rfl ?_
  refine yy_last C (w' := wA G ad S ++ ((o, .inl (G.2.2.1, 1, .inr (.inl (vp_updL fo 0 r1.toInt64)))) :: F)) 28 dL_indexOf_8 (pc' := 9) rfl rfl (by omega) (by decide) rfl ?_
  refine yy_goto C (tgt := 15) dL_indexOf_9 (by decide) ?_
  refine yy_iconst C (v := (nI 0)) dL_indexOf_15 (pc' := 16) rfl (by decide) ?_
  subst hQ
  exact ye_i C hr (vp_nar_int _) (S, vp_updL fo 0 r1.toInt64) dL_indexOf_16 rfl (by decide) (by decide) (Or.inl ⟨rfl, r1, hw1, rfl⟩)

abbrev rL_lines : Room := { frames := 8, cells := 1, slots := 6, locals := 134 }
set_option maxHeartbeats 4000000 in
set_option maxRecDepth 100000 in
theorem mL_lines (l : Launch) (hl0 : l.stackTraces = false) (G : gG) (B0 : Nat) (ad : Nat → Nat) (F : va_W) (S : SA) (d : Int32) (hI : IA S) (o : Nat) (fo : Nat → Int64) : Met l yL_lines (Cond.codeWith yL_lines cL_lines 4 (some .int) [(0, 9, 12, 19)] :: WG) rL_lines (va_Pc [.ref (ad 0), .int d, .ref (o)] (PR G B0 (wA G ad S ++ ((o, .inl (G.2.2.1, 1, .inr (.inl fo))) :: F)))) (va_Qi (fun (r : Int32) (u : SA × (Nat → Int64)) => (r = nI 0 ∧ ∃ (v_ : Int32), (cd1 (S.1 0) d = 0 ∧ v_ = S.2.1 1 (ix d)) ∧ u = (S, vp_updL fo 0 v_.toInt64)) ∨ ∃ q : Nat, ¬ q = 0 ∧ r = nI q ∧ cd1 (S.1 0) d = q ∧ u = (S, fo)) (fun (u : SA × (Nat → Int64)) (t_ : State) => va_P G.1 vwCl (wA G ad u.1 ++ ((o, .inl (G.2.2.1, 1, .inr (.inl u.2))) :: F)) t_.heap ∧ va_D (fun q => B0 ≤ q) (wA G ad u.1 ++ ((o, .inl (G.2.2.1, 1, .inr (.inl u.2))) :: F))) (fun q => B0 ≤ q)) rL_lines.cells rL_lines.slots (fun q => B0 ≤ q) := by
  refine metW_of RL [(0, .ref (ad 0)), (1, .int d), (2, .ref (o))] rfl (by decide) (Nat.le_of_ble_eq_true rfl) rfl ?_
  intro p e s m args below meth c C hr hnm ht
  refine yq ?_
  intro QQ hQ
  refine yy_aload_n C 2 dL_lines_0 (pc' := 1) rfl rfl rfl ?_
  refine yy_iconst C (v := (nI 0)) dL_lines_1 (pc' := 2) rfl (by decide) ?_
  refine yy_aload_n C 0 dL_lines_2 (pc' := 3) rfl rfl rfl ?_
  refine yy_iload_n C 1 dL_lines_3 (pc' := 4) rfl rfl rfl ?_
  refine xc_i (xr_V C (As := [.int d]) (rest := [.int (nI 0), .ref (o)]) lk_L_33 cd_X6_lines im_X6_lines se_X6_lines (mX6_lines l hl0 G B0 ad ((o, .inl (G.2.2.1, 1, .inr (.inl fo))) :: F) S d hI) ⟨by decide, by decide⟩ ⟨by decide, by decide⟩ 0 rfl rfl rfl rfl (Nat.le_of_ble_eq_true rfl) dL_lines_4) (pc' := 7) rfl (fun E _ hw1 => ?_) (fun r1 _ hw1 => ?_)
  · skip
    obtain ⟨rfl, hx_⟩ := hw1
    · skip
      refine xe_catch C (name := "java/lang/IndexOutOfBoundsException") [] ⟨0, 9, 12, 19⟩ [] (ht.trans rfl) (fun z hz => by cases hz) rfl (by decide) cl_L_19 (by decide +kernel) (pc' := 12) rfl (fun ce_ => ?_)
      refine yy_astore_n C dL_lines_12 (pc' := 13) rfl rfl (by decide) rfl ?_
      refine yy_iconst C (v := (nI 1)) dL_lines_13 (pc' := 14) rfl (by decide) ?_
      subst hQ
      exact ye_i C hr (vp_nar_int _) (S, fo) dL_lines_14 rfl (by decide) (by decide) (Or.inr ⟨1, by decide, rfl, hx_, rfl⟩)
    
  refine yy_i2l C (v := r1.toInt64) dL_lines_7 (pc' := 8) rfl rfl ?_
  refine yy_last C (w' := wA G ad S ++ ((o, .inl (G.2.2.1, 1, .inr (.inl (vp_updL fo 0 r1.toInt64)))) :: F)) 28 dL_lines_8 (pc' := 9) rfl rfl (by omega) (by decide) rfl ?_
  refine yy_goto C (tgt := 15) dL_lines_9 (by decide) ?_
  refine yy_iconst C (v := (nI 0)) dL_lines_15 (pc' := 16) rfl (by decide) ?_
  subst hQ
  exact ye_i C hr (vp_nar_int _) (S, vp_updL fo 0 r1.toInt64) dL_lines_16 rfl (by decide) (by decide) (Or.inl ⟨rfl, r1, hw1, rfl⟩)

abbrev rL_addRule : Room := { frames := 8, cells := 1, slots := 6, locals := 138 }
set_option maxHeartbeats 4000000 in
set_option maxRecDepth 100000 in
theorem mL_addRule (l : Launch) (hl0 : l.stackTraces = false) (G : gG) (B0 : Nat) (ad : Nat → Nat) (F : va_W) (S : SA) (f g t : Int32) (hI : IA S) (o : Nat) (fo : Nat → Int64) : Met l yL_addRule (Cond.codeWith yL_addRule cL_addRule 6 (some .int) [(0, 12, 15, 21), (0, 12, 19, 13)] :: WG) rL_addRule (va_Pc [.ref (ad 0), .int f, .int g, .int t, .ref (o)] (PR G B0 (wA G ad S ++ ((o, .inl (G.2.2.1, 1, .inr (.inl fo))) :: F)))) (va_Qi (fun (r : Int32) (u : SA × (Nat → Int64)) => (r = nI 0 ∧ ∃ (v_ : Int32), (cdAddRule (S.1 2) (S.1 7) f g t = 0 ∧ v_ = nI (S.1 2)) ∧ u = ((sN (sI (sI (sI S 5 (upd (S.2.1 5) (S.1 2) f)) 6 (upd (S.2.1 6) (S.1 2) g)) 7 (upd (S.2.1 7) (S.1 2) t)) 2 (S.1 2 + 1)), vp_updL fo 0 v_.toInt64)) ∨ ∃ q : Nat, ¬ q = 0 ∧ r = nI q ∧ cdAddRule (S.1 2) (S.1 7) f g t = q ∧ u = (S, fo)) (fun (u : SA × (Nat → Int64)) (t_ : State) => va_P G.1 vwCl (wA G ad u.1 ++ ((o, .inl (G.2.2.1, 1, .inr (.inl u.2))) :: F)) t_.heap ∧ va_D (fun q => B0 ≤ q) (wA G ad u.1 ++ ((o, .inl (G.2.2.1, 1, .inr (.inl u.2))) :: F))) (fun q => B0 ≤ q)) rL_addRule.cells rL_addRule.slots (fun q => B0 ≤ q) := by
  refine metW_of RL [(0, .ref (ad 0)), (1, .int f), (2, .int g), (3, .int t), (4, .ref (o))] rfl (by decide) (Nat.le_of_ble_eq_true rfl) rfl ?_
  intro p e s m args below meth c C hr hnm ht
  refine yq ?_
  intro QQ hQ
  refine yy_aload C 4 dL_addRule_0 (pc' := 2) rfl rfl ?_
  refine yy_iconst C (v := (nI 0)) dL_addRule_2 (pc' := 3) rfl (by decide) ?_
  refine yy_aload_n C 0 dL_addRule_3 (pc' := 4) rfl rfl rfl ?_
  refine yy_iload_n C 1 dL_addRule_4 (pc' := 5) rfl rfl rfl ?_
  refine yy_iload_n C 2 dL_addRule_5 (pc' := 6) rfl rfl rfl ?_
  refine yy_iload_n C 3 dL_addRule_6 (pc' := 7) rfl rfl rfl ?_
  refine xc_i (xr_V C (As := [.int f, .int g, .int t]) (rest := [.int (nI 0), .ref (o)]) lk_L_36 cd_X6_addRule im_X6_addRule se_X6_addRule (mX6_addRule l hl0 G B0 ad ((o, .inl (G.2.2.1, 1, .inr (.inl fo))) :: F) S f g t hI) ⟨by decide, by decide⟩ ⟨by decide, by decide⟩ 0 rfl rfl rfl rfl (Nat.le_of_ble_eq_true rfl) dL_addRule_7) (pc' := 10) rfl (fun E _ hw1 => ?_) (fun r1 _ hw1 => ?_)
  · skip
    rcases hw1 with ⟨rfl, hx_⟩ | ⟨rfl, hx_⟩
    · skip
      refine xe_catch C (name := "java/lang/IllegalArgumentException") [] ⟨0, 12, 15, 21⟩ [⟨0, 12, 19, 13⟩] (ht.trans rfl) (fun z hz => by cases hz) rfl (by decide) cl_L_21 (by decide +kernel) (pc' := 15) rfl (fun ce_ => ?_)
      refine yy_astore C dL_addRule_15 (pc' := 17) rfl (by decide) rfl ?_
      refine yy_iconst C (v := (nI 1)) dL_addRule_17 (pc' := 18) rfl (by decide) ?_
      subst hQ
      exact ye_i C hr (vp_nar_int _) (S, fo) dL_addRule_18 rfl (by decide) (by decide) (Or.inr ⟨1, by decide, rfl, hx_, rfl⟩)
    · skip
      refine xe_catch C (name := "java/lang/IllegalStateException") [⟨0, 12, 15, 21⟩] ⟨0, 12, 19, 13⟩ [] (ht.trans rfl) (by
          intro z hz
          simp only [List.mem_cons, List.not_mem_nil, or_false] at hz
          rcases hz with rfl
          · exact Or.inr ⟨by decide, _, cl_L_21, by decide +kernel⟩) rfl (by decide) cl_L_13 (by decide +kernel) (pc' := 19) rfl (fun ce_ => ?_)
      refine yy_astore C dL_addRule_19 (pc' := 21) rfl (by decide) rfl ?_
      refine yy_iconst C (v := (nI 2)) dL_addRule_21 (pc' := 22) rfl (by decide) ?_
      subst hQ
      exact ye_i C hr (vp_nar_int _) (S, fo) dL_addRule_22 rfl (by decide) (by decide) (Or.inr ⟨2, by decide, rfl, hx_, rfl⟩)
    
  refine yy_i2l C (v := r1.toInt64) dL_addRule_10 (pc' := 11) rfl rfl ?_
  refine yy_last C (w' := wA G ad (sN (sI (sI (sI S 5 (upd (S.2.1 5) (S.1 2) f)) 6 (upd (S.2.1 6) (S.1 2) g)) 7 (upd (S.2.1 7) (S.1 2) t)) 2 (S.1 2 + 1)) ++ ((o, .inl (G.2.2.1, 1, .inr (.inl (vp_updL fo 0 r1.toInt64)))) :: F)) 28 dL_addRule_11 (pc' := 12) rfl rfl (by omega) (by decide) rfl ?_
  refine yy_goto C (tgt := 23) dL_addRule_12 (by decide) ?_
  refine yy_iconst C (v := (nI 0)) dL_addRule_23 (pc' := 24) rfl (by decide) ?_
  subst hQ
  exact ye_i C hr (vp_nar_int _) ((sN (sI (sI (sI S 5 (upd (S.2.1 5) (S.1 2) f)) 6 (upd (S.2.1 6) (S.1 2) g)) 7 (upd (S.2.1 7) (S.1 2) t)) 2 (S.1 2 + 1)), vp_updL fo 0 r1.toInt64) dL_addRule_24 rfl (by decide) (by decide) (Or.inl ⟨rfl, r1, hw1, rfl⟩)

abbrev rL_addSpan : Room := { frames := 8, cells := 1, slots := 6, locals := 140 }
set_option maxHeartbeats 4000000 in
set_option maxRecDepth 100000 in
theorem mL_addSpan (l : Launch) (hl0 : l.stackTraces = false) (G : gG) (B0 : Nat) (ad : Nat → Nat) (F : va_W) (S : SA) (d f g t : Int32) (hI : IA S) (o : Nat) (fo : Nat → Int64) : Met l yL_addSpan (Cond.codeWith yL_addSpan cL_addSpan 7 (some .int) [(0, 14, 17, 19), (0, 14, 21, 21), (0, 14, 25, 13)] :: WG) rL_addSpan (va_Pc [.ref (ad 0), .int d, .int f, .int g, .int t, .ref (o)] (PR G B0 (wA G ad S ++ ((o, .inl (G.2.2.1, 1, .inr (.inl fo))) :: F)))) (va_Qi (fun (r : Int32) (u : SA × (Nat → Int64)) => (r = nI 0 ∧ ∃ (v_ : Int32), (cdAddSpan (S.1 0) (S.1 3) (S.1 7) d f g t = 0 ∧ v_ = nI (S.1 3)) ∧ u = ((sN (sI (sI (sI (sI S 8 (upd (S.2.1 8) (S.1 3) d)) 9 (upd (S.2.1 9) (S.1 3) f)) 10 (upd (S.2.1 10) (S.1 3) g)) 11 (upd (S.2.1 11) (S.1 3) t)) 3 (S.1 3 + 1)), vp_updL fo 0 v_.toInt64)) ∨ ∃ q : Nat, ¬ q = 0 ∧ r = nI q ∧ cdAddSpan (S.1 0) (S.1 3) (S.1 7) d f g t = q ∧ u = (S, fo)) (fun (u : SA × (Nat → Int64)) (t_ : State) => va_P G.1 vwCl (wA G ad u.1 ++ ((o, .inl (G.2.2.1, 1, .inr (.inl u.2))) :: F)) t_.heap ∧ va_D (fun q => B0 ≤ q) (wA G ad u.1 ++ ((o, .inl (G.2.2.1, 1, .inr (.inl u.2))) :: F))) (fun q => B0 ≤ q)) rL_addSpan.cells rL_addSpan.slots (fun q => B0 ≤ q) := by
  refine metW_of RL [(0, .ref (ad 0)), (1, .int d), (2, .int f), (3, .int g), (4, .int t), (5, .ref (o))] rfl (by decide) (Nat.le_of_ble_eq_true rfl) rfl ?_
  intro p e s m args below meth c C hr hnm ht
  refine yq ?_
  intro QQ hQ
  refine yy_aload C 5 dL_addSpan_0 (pc' := 2) rfl rfl ?_
  refine yy_iconst C (v := (nI 0)) dL_addSpan_2 (pc' := 3) rfl (by decide) ?_
  refine yy_aload_n C 0 dL_addSpan_3 (pc' := 4) rfl rfl rfl ?_
  refine yy_iload_n C 1 dL_addSpan_4 (pc' := 5) rfl rfl rfl ?_
  refine yy_iload_n C 2 dL_addSpan_5 (pc' := 6) rfl rfl rfl ?_
  refine yy_iload_n C 3 dL_addSpan_6 (pc' := 7) rfl rfl rfl ?_
  refine yy_iload C 4 dL_addSpan_7 (pc' := 9) rfl rfl ?_
  refine xc_i (xr_V C (As := [.int d, .int f, .int g, .int t]) (rest := [.int (nI 0), .ref (o)]) lk_L_40 cd_X6_addSpan im_X6_addSpan se_X6_addSpan (mX6_addSpan l hl0 G B0 ad ((o, .inl (G.2.2.1, 1, .inr (.inl fo))) :: F) S d f g t hI) ⟨by decide, by decide⟩ ⟨by decide, by decide⟩ 0 rfl rfl rfl rfl (Nat.le_of_ble_eq_true rfl) dL_addSpan_9) (pc' := 12) rfl (fun E _ hw1 => ?_) (fun r1 _ hw1 => ?_)
  · skip
    rcases hw1 with ⟨rfl, hx_⟩ | ⟨rfl, hx_⟩ | ⟨rfl, hx_⟩
    · skip
      refine xe_catch C (name := "java/lang/IndexOutOfBoundsException") [] ⟨0, 14, 17, 19⟩ [⟨0, 14, 21, 21⟩, ⟨0, 14, 25, 13⟩] (ht.trans rfl) (fun z hz => by cases hz) rfl (by decide) cl_L_19 (by decide +kernel) (pc' := 17) rfl (fun ce_ => ?_)
      refine yy_astore C dL_addSpan_17 (pc' := 19) rfl (by decide) rfl ?_
      refine yy_iconst C (v := (nI 1)) dL_addSpan_19 (pc' := 20) rfl (by decide) ?_
      subst hQ
      exact ye_i C hr (vp_nar_int _) (S, fo) dL_addSpan_20 rfl (by decide) (by decide) (Or.inr ⟨1, by decide, rfl, hx_, rfl⟩)
    · skip
      refine xe_catch C (name := "java/lang/IllegalArgumentException") [⟨0, 14, 17, 19⟩] ⟨0, 14, 21, 21⟩ [⟨0, 14, 25, 13⟩] (ht.trans rfl) (by
          intro z hz
          simp only [List.mem_cons, List.not_mem_nil, or_false] at hz
          rcases hz with rfl
          · exact Or.inr ⟨by decide, _, cl_L_19, by decide +kernel⟩) rfl (by decide) cl_L_21 (by decide +kernel) (pc' := 21) rfl (fun ce_ => ?_)
      refine yy_astore C dL_addSpan_21 (pc' := 23) rfl (by decide) rfl ?_
      refine yy_iconst C (v := (nI 2)) dL_addSpan_23 (pc' := 24) rfl (by decide) ?_
      subst hQ
      exact ye_i C hr (vp_nar_int _) (S, fo) dL_addSpan_24 rfl (by decide) (by decide) (Or.inr ⟨2, by decide, rfl, hx_, rfl⟩)
    · skip
      refine xe_catch C (name := "java/lang/IllegalStateException") [⟨0, 14, 17, 19⟩, ⟨0, 14, 21, 21⟩] ⟨0, 14, 25, 13⟩ [] (ht.trans rfl) (by
          intro z hz
          simp only [List.mem_cons, List.not_mem_nil, or_false] at hz
          rcases hz with rfl | rfl
          · exact Or.inr ⟨by decide, _, cl_L_19, by decide +kernel⟩
          · exact Or.inr ⟨by decide, _, cl_L_21, by decide +kernel⟩) rfl (by decide) cl_L_13 (by decide +kernel) (pc' := 25) rfl (fun ce_ => ?_)
      refine yy_astore C dL_addSpan_25 (pc' := 27) rfl (by decide) rfl ?_
      refine yy_iconst C (v := (nI 3)) dL_addSpan_27 (pc' := 28) rfl (by decide) ?_
      subst hQ
      exact ye_i C hr (vp_nar_int _) (S, fo) dL_addSpan_28 rfl (by decide) (by decide) (Or.inr ⟨3, by decide, rfl, hx_, rfl⟩)
    
  refine yy_i2l C (v := r1.toInt64) dL_addSpan_12 (pc' := 13) rfl rfl ?_
  refine yy_last C (w' := wA G ad (sN (sI (sI (sI (sI S 8 (upd (S.2.1 8) (S.1 3) d)) 9 (upd (S.2.1 9) (S.1 3) f)) 10 (upd (S.2.1 10) (S.1 3) g)) 11 (upd (S.2.1 11) (S.1 3) t)) 3 (S.1 3 + 1)) ++ ((o, .inl (G.2.2.1, 1, .inr (.inl (vp_updL fo 0 r1.toInt64)))) :: F)) 28 dL_addSpan_13 (pc' := 14) rfl rfl (by omega) (by decide) rfl ?_
  refine yy_goto C (tgt := 29) dL_addSpan_14 (by decide) ?_
  refine yy_iconst C (v := (nI 0)) dL_addSpan_29 (pc' := 30) rfl (by decide) ?_
  subst hQ
  exact ye_i C hr (vp_nar_int _) ((sN (sI (sI (sI (sI S 8 (upd (S.2.1 8) (S.1 3) d)) 9 (upd (S.2.1 9) (S.1 3) f)) 10 (upd (S.2.1 10) (S.1 3) g)) 11 (upd (S.2.1 11) (S.1 3) t)) 3 (S.1 3 + 1)), vp_updL fo 0 r1.toInt64) dL_addSpan_30 rfl (by decide) (by decide) (Or.inl ⟨rfl, r1, hw1, rfl⟩)

abbrev rL_lift : Room := { frames := 7, cells := 1, slots := 6, locals := 114 }
set_option maxHeartbeats 4000000 in
set_option maxRecDepth 100000 in
theorem mL_lift (l : Launch) (hl0 : l.stackTraces = false) (G : gG) (B0 : Nat) (ad : Nat → Nat) (F : va_W) (S : SA) (k : Int32) (hI : IA S) (o : Nat) (fo : Nat → Int64) : Met l yL_lift (Cond.codeWith yL_lift cL_lift 4 (some .int) [(0, 9, 12, 19), (0, 9, 15, 13)] :: WG) rL_lift (va_Pc [.ref (ad 0), .int k, .ref (o)] (PR G B0 (wA G ad S ++ ((o, .inl (G.2.2.1, 1, .inr (.inl fo))) :: F)))) (va_Qi (fun (r : Int32) (u : SA × (Nat → Int64)) => (r = nI 0 ∧ ∃ (v_ : Int32) (g : Nat), (cdLiftA (S.1 3) (S.2.1 11) (S.1 7) k = 0 ∧ k = nI g ∧ g < S.1 3 ∧ v_ = nI (fb_ct (hidA S) (S.1 1)) - nI (fb_ct (hidA (sI S 11 (upd (S.2.1 11) g (-1)))) (S.1 1))) ∧ u = ((sI S 11 (upd (S.2.1 11) g (-1))), vp_updL fo 0 v_.toInt64)) ∨ ∃ q : Nat, ¬ q = 0 ∧ r = nI q ∧ cdLiftA (S.1 3) (S.2.1 11) (S.1 7) k = q ∧ u = (S, fo)) (fun (u : SA × (Nat → Int64)) (t_ : State) => va_P G.1 vwCl (wA G ad u.1 ++ ((o, .inl (G.2.2.1, 1, .inr (.inl u.2))) :: F)) t_.heap ∧ va_D (fun q => B0 ≤ q) (wA G ad u.1 ++ ((o, .inl (G.2.2.1, 1, .inr (.inl u.2))) :: F))) (fun q => B0 ≤ q)) rL_lift.cells rL_lift.slots (fun q => B0 ≤ q) := by
  refine metW_of RL [(0, .ref (ad 0)), (1, .int k), (2, .ref (o))] rfl (by decide) (Nat.le_of_ble_eq_true rfl) rfl ?_
  intro p e s m args below meth c C hr hnm ht
  refine yq ?_
  intro QQ hQ
  refine yy_aload_n C 2 dL_lift_0 (pc' := 1) rfl rfl rfl ?_
  refine yy_iconst C (v := (nI 0)) dL_lift_1 (pc' := 2) rfl (by decide) ?_
  refine yy_aload_n C 0 dL_lift_2 (pc' := 3) rfl rfl rfl ?_
  refine yy_iload_n C 1 dL_lift_3 (pc' := 4) rfl rfl rfl ?_
  refine xc_i (xr_V C (As := [.int k]) (rest := [.int (nI 0), .ref (o)]) lk_L_44 cd_X6_lift im_X6_lift se_X6_lift (mX6_lift l hl0 G B0 ad ((o, .inl (G.2.2.1, 1, .inr (.inl fo))) :: F) S k hI) ⟨by decide, by decide⟩ ⟨by decide, by decide⟩ 0 rfl rfl rfl rfl (Nat.le_of_ble_eq_true rfl) dL_lift_4) (pc' := 7) rfl (fun E _ hw1 => ?_) (fun r1 u1 hw1 => ?_)
  · skip
    rcases hw1 with ⟨rfl, hx_⟩ | ⟨rfl, hx_⟩
    · skip
      refine xe_catch C (name := "java/lang/IndexOutOfBoundsException") [] ⟨0, 9, 12, 19⟩ [⟨0, 9, 15, 13⟩] (ht.trans rfl) (fun z hz => by cases hz) rfl (by decide) cl_L_19 (by decide +kernel) (pc' := 12) rfl (fun ce_ => ?_)
      refine yy_astore_n C dL_lift_12 (pc' := 13) rfl rfl (by decide) rfl ?_
      refine yy_iconst C (v := (nI 1)) dL_lift_13 (pc' := 14) rfl (by decide) ?_
      subst hQ
      exact ye_i C hr (vp_nar_int _) (S, fo) dL_lift_14 rfl (by decide) (by decide) (Or.inr ⟨1, by decide, rfl, hx_, rfl⟩)
    · skip
      refine xe_catch C (name := "java/lang/IllegalStateException") [⟨0, 9, 12, 19⟩] ⟨0, 9, 15, 13⟩ [] (ht.trans rfl) (by
          intro z hz
          simp only [List.mem_cons, List.not_mem_nil, or_false] at hz
          rcases hz with rfl
          · exact Or.inr ⟨by decide, _, cl_L_19, by decide +kernel⟩) rfl (by decide) cl_L_13 (by decide +kernel) (pc' := 15) rfl (fun ce_ => ?_)
      refine yy_astore_n C dL_lift_15 (pc' := 16) rfl rfl (by decide) rfl ?_
      refine yy_iconst C (v := (nI 2)) dL_lift_16 (pc' := 17) rfl (by decide) ?_
      subst hQ
      exact ye_i C hr (vp_nar_int _) (S, fo) dL_lift_17 rfl (by decide) (by decide) (Or.inr ⟨2, by decide, rfl, hx_, rfl⟩)
    
  refine yy_i2l C (v := r1.toInt64) dL_lift_7 (pc' := 8) rfl rfl ?_
  refine yy_last C (w' := wA G ad (sI S 11 (upd (S.2.1 11) u1 (-1))) ++ ((o, .inl (G.2.2.1, 1, .inr (.inl (vp_updL fo 0 r1.toInt64)))) :: F)) 28 dL_lift_8 (pc' := 9) rfl rfl (by omega) (by decide) rfl ?_
  refine yy_goto C (tgt := 18) dL_lift_9 (by decide) ?_
  refine yy_iconst C (v := (nI 0)) dL_lift_18 (pc' := 19) rfl (by decide) ?_
  subst hQ
  exact ye_i C hr (vp_nar_int _) ((sI S 11 (upd (S.2.1 11) u1 (-1))), vp_updL fo 0 r1.toInt64) dL_lift_19 rfl (by decide) (by decide) (Or.inl ⟨rfl, r1, u1, hw1, rfl⟩)

abbrev rL_isHidden : Room := { frames := 8, cells := 1, slots := 6, locals := 134 }
set_option maxHeartbeats 4000000 in
set_option maxRecDepth 100000 in
theorem mL_isHidden (l : Launch) (hl0 : l.stackTraces = false) (G : gG) (B0 : Nat) (ad : Nat → Nat) (F : va_W) (S : SA) (x : Int32) (hI : IA S) (o : Nat) (fo : Nat → Int64) : Met l yL_isHidden (Cond.codeWith yL_isHidden cL_isHidden 4 (some .int) [(0, 16, 19, 19)] :: WG) rL_isHidden (va_Pc [.ref (ad 0), .int x, .ref (o)] (PR G B0 (wA G ad S ++ ((o, .inl (G.2.2.1, 1, .inr (.inl fo))) :: F)))) (va_Qi (fun (r : Int32) (u : SA × (Nat → Int64)) => (r = nI 0 ∧ ∃ (v_ : Int32), (cd1 (S.1 1) x = 0 ∧ v_ = bI (hidA S (ix x))) ∧ u = (S, vp_updL fo 0 (if v_ = 0 then lN 0 else lN 1))) ∨ ∃ q : Nat, ¬ q = 0 ∧ r = nI q ∧ cd1 (S.1 1) x = q ∧ u = (S, fo)) (fun (u : SA × (Nat → Int64)) (t_ : State) => va_P G.1 vwCl (wA G ad u.1 ++ ((o, .inl (G.2.2.1, 1, .inr (.inl u.2))) :: F)) t_.heap ∧ va_D (fun q => B0 ≤ q) (wA G ad u.1 ++ ((o, .inl (G.2.2.1, 1, .inr (.inl u.2))) :: F))) (fun q => B0 ≤ q)) rL_isHidden.cells rL_isHidden.slots (fun q => B0 ≤ q) := by
  refine metW_of RL [(0, .ref (ad 0)), (1, .int x), (2, .ref (o))] rfl (by decide) (Nat.le_of_ble_eq_true rfl) rfl ?_
  intro p e s m args below meth c C hr hnm ht
  refine yq ?_
  intro QQ hQ
  refine yy_aload_n C 2 dL_isHidden_0 (pc' := 1) rfl rfl rfl ?_
  refine yy_iconst C (v := (nI 0)) dL_isHidden_1 (pc' := 2) rfl (by decide) ?_
  refine yy_aload_n C 0 dL_isHidden_2 (pc' := 3) rfl rfl rfl ?_
  refine yy_iload_n C 1 dL_isHidden_3 (pc' := 4) rfl rfl rfl ?_
  refine xc_i (xr_V C (As := [.int x]) (rest := [.int (nI 0), .ref (o)]) lk_L_47 cd_X6_isHidden im_X6_isHidden se_X6_isHidden (mX6_isHidden l hl0 G B0 ad ((o, .inl (G.2.2.1, 1, .inr (.inl fo))) :: F) S x hI) ⟨by decide, by decide⟩ ⟨by decide, by decide⟩ 0 rfl rfl rfl rfl (Nat.le_of_ble_eq_true rfl) dL_isHidden_4) (pc' := 7) rfl (fun E _ hw1 => ?_) (fun r1 _ hw1 => ?_)
  · skip
    obtain ⟨rfl, hx_⟩ := hw1
    · skip
      refine xe_catch C (name := "java/lang/IndexOutOfBoundsException") [] ⟨0, 16, 19, 19⟩ [] (ht.trans rfl) (fun z hz => by cases hz) rfl (by decide) cl_L_19 (by decide +kernel) (pc' := 19) rfl (fun ce_ => ?_)
      refine yy_astore_n C dL_isHidden_19 (pc' := 20) rfl rfl (by decide) rfl ?_
      refine yy_iconst C (v := (nI 1)) dL_isHidden_20 (pc' := 21) rfl (by decide) ?_
      subst hQ
      exact ye_i C hr (vp_nar_int _) (S, fo) dL_isHidden_21 rfl (by decide) (by decide) (Or.inr ⟨1, by decide, rfl, hx_, rfl⟩)
    
  refine yy_if_eq C dL_isHidden_7 (pc' := 10) rfl (tgt := 14) (by decide) (fun c_7 => ?_) (fun c_7 => ?_)
  · skip
    refine yy_lconst C (v := (lN 0)) dL_isHidden_14 (pc' := 15) rfl (by decide) ?_
    refine yy_last C (w' := wA G ad S ++ ((o, .inl (G.2.2.1, 1, .inr (.inl (vp_updL fo 0 (lN 0))))) :: F)) 28 dL_isHidden_15 (pc' := 16) rfl rfl (by omega) (by decide) rfl ?_
    refine yy_goto C (tgt := 22) dL_isHidden_16 (by decide) ?_
    refine yy_iconst C (v := (nI 0)) dL_isHidden_22 (pc' := 23) rfl (by decide) ?_
    subst hQ
    exact ye_i C hr (vp_nar_int _) (S, vp_updL fo 0 (lN 0)) dL_isHidden_23 rfl (by decide) (by decide) (Or.inl ⟨rfl, r1, hw1, by rw [if_pos c_7]⟩)
  · skip
    refine yy_lconst C (v := (lN 1)) dL_isHidden_10 (pc' := 11) rfl (by decide) ?_
    refine yy_goto C (tgt := 15) dL_isHidden_11 (by decide) ?_
    refine yy_last C (w' := wA G ad S ++ ((o, .inl (G.2.2.1, 1, .inr (.inl (vp_updL fo 0 (lN 1))))) :: F)) 28 dL_isHidden_15 (pc' := 16) rfl rfl (by omega) (by decide) rfl ?_
    refine yy_goto C (tgt := 22) dL_isHidden_16 (by decide) ?_
    refine yy_iconst C (v := (nI 0)) dL_isHidden_22 (pc' := 23) rfl (by decide) ?_
    subst hQ
    exact ye_i C hr (vp_nar_int _) (S, vp_updL fo 0 (lN 1)) dL_isHidden_23 rfl (by decide) (by decide) (Or.inl ⟨rfl, r1, hw1, by rw [if_neg c_7]⟩)

abbrev rL_addJoin : Room := { frames := 8, cells := 1, slots := 6, locals := 139 }
set_option maxHeartbeats 4000000 in
set_option maxRecDepth 100000 in
theorem mL_addJoin (l : Launch) (hl0 : l.stackTraces = false) (G : gG) (B0 : Nat) (ad : Nat → Nat) (F : va_W) (S : SA) (a b t : Int32) (hI : IA S) (o : Nat) (fo : Nat → Int64) : Met l yL_addJoin (Cond.codeWith yL_addJoin cL_addJoin 6 (some .int) [(0, 12, 15, 19), (0, 12, 19, 21), (0, 12, 23, 13)] :: WG) rL_addJoin (va_Pc [.ref (ad 0), .int a, .int b, .int t, .ref (o)] (PR G B0 (wA G ad S ++ ((o, .inl (G.2.2.1, 1, .inr (.inl fo))) :: F)))) (va_Qi (fun (r : Int32) (u : SA × (Nat → Int64)) => (r = nI 0 ∧ ∃ (v_ : Int32) (g : Nat × Nat × Nat), (cdAddJoin (S.1 1) (S.1 4) a b t = 0 ∧ (a = nI g.1 ∧ b = nI g.2.1 ∧ t = nI g.2.2) ∧ (g.1 < S.1 1 ∧ g.2.1 < S.1 1 ∧ g.2.2 < S.1 1) ∧ v_ = nI (S.1 4)) ∧ u = ((grS (jnS S g.1 g.2.1 g.2.2) 5), vp_updL fo 0 v_.toInt64)) ∨ ∃ q : Nat, ¬ q = 0 ∧ r = nI q ∧ cdAddJoin (S.1 1) (S.1 4) a b t = q ∧ u = (S, fo)) (fun (u : SA × (Nat → Int64)) (t_ : State) => va_P G.1 vwCl (wA G ad u.1 ++ ((o, .inl (G.2.2.1, 1, .inr (.inl u.2))) :: F)) t_.heap ∧ va_D (fun q => B0 ≤ q) (wA G ad u.1 ++ ((o, .inl (G.2.2.1, 1, .inr (.inl u.2))) :: F))) (fun q => B0 ≤ q)) rL_addJoin.cells rL_addJoin.slots (fun q => B0 ≤ q) := by
  refine metW_of RL [(0, .ref (ad 0)), (1, .int a), (2, .int b), (3, .int t), (4, .ref (o))] rfl (by decide) (Nat.le_of_ble_eq_true rfl) rfl ?_
  intro p e s m args below meth c C hr hnm ht
  refine yq ?_
  intro QQ hQ
  refine yy_aload C 4 dL_addJoin_0 (pc' := 2) rfl rfl ?_
  refine yy_iconst C (v := (nI 0)) dL_addJoin_2 (pc' := 3) rfl (by decide) ?_
  refine yy_aload_n C 0 dL_addJoin_3 (pc' := 4) rfl rfl rfl ?_
  refine yy_iload_n C 1 dL_addJoin_4 (pc' := 5) rfl rfl rfl ?_
  refine yy_iload_n C 2 dL_addJoin_5 (pc' := 6) rfl rfl rfl ?_
  refine yy_iload_n C 3 dL_addJoin_6 (pc' := 7) rfl rfl rfl ?_
  refine xc_i (xr_V C (As := [.int a, .int b, .int t]) (rest := [.int (nI 0), .ref (o)]) lk_L_51 cd_X6_addJoin im_X6_addJoin se_X6_addJoin (mX6_addJoin l hl0 G B0 ad ((o, .inl (G.2.2.1, 1, .inr (.inl fo))) :: F) S a b t hI) ⟨by decide, by decide⟩ ⟨by decide, by decide⟩ 0 rfl rfl rfl rfl (Nat.le_of_ble_eq_true rfl) dL_addJoin_7) (pc' := 10) rfl (fun E _ hw1 => ?_) (fun r1 u1 hw1 => ?_)
  · skip
    rcases hw1 with ⟨rfl, hx_⟩ | ⟨rfl, hx_⟩ | ⟨rfl, hx_⟩
    · skip
      refine xe_catch C (name := "java/lang/IndexOutOfBoundsException") [] ⟨0, 12, 15, 19⟩ [⟨0, 12, 19, 21⟩, ⟨0, 12, 23, 13⟩] (ht.trans rfl) (fun z hz => by cases hz) rfl (by decide) cl_L_19 (by decide +kernel) (pc' := 15) rfl (fun ce_ => ?_)
      refine yy_astore C dL_addJoin_15 (pc' := 17) rfl (by decide) rfl ?_
      refine yy_iconst C (v := (nI 1)) dL_addJoin_17 (pc' := 18) rfl (by decide) ?_
      subst hQ
      exact ye_i C hr (vp_nar_int _) (S, fo) dL_addJoin_18 rfl (by decide) (by decide) (Or.inr ⟨1, by decide, rfl, hx_, rfl⟩)
    · skip
      refine xe_catch C (name := "java/lang/IllegalArgumentException") [⟨0, 12, 15, 19⟩] ⟨0, 12, 19, 21⟩ [⟨0, 12, 23, 13⟩] (ht.trans rfl) (by
          intro z hz
          simp only [List.mem_cons, List.not_mem_nil, or_false] at hz
          rcases hz with rfl
          · exact Or.inr ⟨by decide, _, cl_L_19, by decide +kernel⟩) rfl (by decide) cl_L_21 (by decide +kernel) (pc' := 19) rfl (fun ce_ => ?_)
      refine yy_astore C dL_addJoin_19 (pc' := 21) rfl (by decide) rfl ?_
      refine yy_iconst C (v := (nI 2)) dL_addJoin_21 (pc' := 22) rfl (by decide) ?_
      subst hQ
      exact ye_i C hr (vp_nar_int _) (S, fo) dL_addJoin_22 rfl (by decide) (by decide) (Or.inr ⟨2, by decide, rfl, hx_, rfl⟩)
    · skip
      refine xe_catch C (name := "java/lang/IllegalStateException") [⟨0, 12, 15, 19⟩, ⟨0, 12, 19, 21⟩] ⟨0, 12, 23, 13⟩ [] (ht.trans rfl) (by
          intro z hz
          simp only [List.mem_cons, List.not_mem_nil, or_false] at hz
          rcases hz with rfl | rfl
          · exact Or.inr ⟨by decide, _, cl_L_19, by decide +kernel⟩
          · exact Or.inr ⟨by decide, _, cl_L_21, by decide +kernel⟩) rfl (by decide) cl_L_13 (by decide +kernel) (pc' := 23) rfl (fun ce_ => ?_)
      refine yy_astore C dL_addJoin_23 (pc' := 25) rfl (by decide) rfl ?_
      refine yy_iconst C (v := (nI 3)) dL_addJoin_25 (pc' := 26) rfl (by decide) ?_
      subst hQ
      exact ye_i C hr (vp_nar_int _) (S, fo) dL_addJoin_26 rfl (by decide) (by decide) (Or.inr ⟨3, by decide, rfl, hx_, rfl⟩)
    
  refine yy_i2l C (v := r1.toInt64) dL_addJoin_10 (pc' := 11) rfl rfl ?_
  refine yy_last C (w' := wA G ad (grS (jnS S u1.1 u1.2.1 u1.2.2) 5) ++ ((o, .inl (G.2.2.1, 1, .inr (.inl (vp_updL fo 0 r1.toInt64)))) :: F)) 28 dL_addJoin_11 (pc' := 12) rfl rfl (by omega) (by decide) rfl ?_
  refine yy_goto C (tgt := 27) dL_addJoin_12 (by decide) ?_
  refine yy_iconst C (v := (nI 0)) dL_addJoin_27 (pc' := 28) rfl (by decide) ?_
  subst hQ
  exact ye_i C hr (vp_nar_int _) ((grS (jnS S u1.1 u1.2.1 u1.2.2) 5), vp_updL fo 0 r1.toInt64) dL_addJoin_28 rfl (by decide) (by decide) (Or.inl ⟨rfl, r1, u1, hw1, rfl⟩)

abbrev rL_holds : Room := { frames := 8, cells := 1, slots := 6, locals := 135 }
set_option maxHeartbeats 4000000 in
set_option maxRecDepth 100000 in
theorem mL_holds (l : Launch) (hl0 : l.stackTraces = false) (G : gG) (B0 : Nat) (ad : Nat → Nat) (F : va_W) (S : SA) (a x : Int32) (hI : IA S) (o : Nat) (fo : Nat → Int64) : Met l yL_holds (Cond.codeWith yL_holds cL_holds 5 (some .int) [(0, 17, 20, 21), (0, 17, 24, 19)] :: WG) rL_holds (va_Pc [.ref (ad 0), .int a, .int x, .ref (o)] (PR G B0 (wA G ad S ++ ((o, .inl (G.2.2.1, 1, .inr (.inl fo))) :: F)))) (va_Qi (fun (r : Int32) (u : SA × (Nat → Int64)) => (r = nI 0 ∧ ∃ (v_ : Int32), (cdHolds (S.1 1) a x = 0 ∧ v_ = bI (hb S (ix a) (ix x))) ∧ u = (S, vp_updL fo 0 (if v_ = 0 then lN 0 else lN 1))) ∨ ∃ q : Nat, ¬ q = 0 ∧ r = nI q ∧ cdHolds (S.1 1) a x = q ∧ u = (S, fo)) (fun (u : SA × (Nat → Int64)) (t_ : State) => va_P G.1 vwCl (wA G ad u.1 ++ ((o, .inl (G.2.2.1, 1, .inr (.inl u.2))) :: F)) t_.heap ∧ va_D (fun q => B0 ≤ q) (wA G ad u.1 ++ ((o, .inl (G.2.2.1, 1, .inr (.inl u.2))) :: F))) (fun q => B0 ≤ q)) rL_holds.cells rL_holds.slots (fun q => B0 ≤ q) := by
  refine metW_of RL [(0, .ref (ad 0)), (1, .int a), (2, .int x), (3, .ref (o))] rfl (by decide) (Nat.le_of_ble_eq_true rfl) rfl ?_
  intro p e s m args below meth c C hr hnm ht
  refine yq ?_
  intro QQ hQ
  refine yy_aload_n C 3 dL_holds_0 (pc' := 1) rfl rfl rfl ?_
  refine yy_iconst C (v := (nI 0)) dL_holds_1 (pc' := 2) rfl (by decide) ?_
  refine yy_aload_n C 0 dL_holds_2 (pc' := 3) rfl rfl rfl ?_
  refine yy_iload_n C 1 dL_holds_3 (pc' := 4) rfl rfl rfl ?_
  refine yy_iload_n C 2 dL_holds_4 (pc' := 5) rfl rfl rfl ?_
  refine xc_i (xr_V C (As := [.int a, .int x]) (rest := [.int (nI 0), .ref (o)]) lk_L_54 cd_X6_holds im_X6_holds se_X6_holds (mX6_holds l hl0 G B0 ad ((o, .inl (G.2.2.1, 1, .inr (.inl fo))) :: F) S a x hI) ⟨by decide, by decide⟩ ⟨by decide, by decide⟩ 0 rfl rfl rfl rfl (Nat.le_of_ble_eq_true rfl) dL_holds_5) (pc' := 8) rfl (fun E _ hw1 => ?_) (fun r1 _ hw1 => ?_)
  · skip
    rcases hw1 with ⟨rfl, hx_⟩ | ⟨rfl, hx_⟩
    · skip
      refine xe_catch C (name := "java/lang/IllegalArgumentException") [] ⟨0, 17, 20, 21⟩ [⟨0, 17, 24, 19⟩] (ht.trans rfl) (fun z hz => by cases hz) rfl (by decide) cl_L_21 (by decide +kernel) (pc' := 20) rfl (fun ce_ => ?_)
      refine yy_astore C dL_holds_20 (pc' := 22) rfl (by decide) rfl ?_
      refine yy_iconst C (v := (nI 1)) dL_holds_22 (pc' := 23) rfl (by decide) ?_
      subst hQ
      exact ye_i C hr (vp_nar_int _) (S, fo) dL_holds_23 rfl (by decide) (by decide) (Or.inr ⟨1, by decide, rfl, hx_, rfl⟩)
    · skip
      refine xe_catch C (name := "java/lang/IndexOutOfBoundsException") [⟨0, 17, 20, 21⟩] ⟨0, 17, 24, 19⟩ [] (ht.trans rfl) (by
          intro z hz
          simp only [List.mem_cons, List.not_mem_nil, or_false] at hz
          rcases hz with rfl
          · exact Or.inr ⟨by decide, _, cl_L_21, by decide +kernel⟩) rfl (by decide) cl_L_19 (by decide +kernel) (pc' := 24) rfl (fun ce_ => ?_)
      refine yy_astore C dL_holds_24 (pc' := 26) rfl (by decide) rfl ?_
      refine yy_iconst C (v := (nI 2)) dL_holds_26 (pc' := 27) rfl (by decide) ?_
      subst hQ
      exact ye_i C hr (vp_nar_int _) (S, fo) dL_holds_27 rfl (by decide) (by decide) (Or.inr ⟨2, by decide, rfl, hx_, rfl⟩)
    
  refine yy_if_eq C dL_holds_8 (pc' := 11) rfl (tgt := 15) (by decide) (fun c_8 => ?_) (fun c_8 => ?_)
  · skip
    refine yy_lconst C (v := (lN 0)) dL_holds_15 (pc' := 16) rfl (by decide) ?_
    refine yy_last C (w' := wA G ad S ++ ((o, .inl (G.2.2.1, 1, .inr (.inl (vp_updL fo 0 (lN 0))))) :: F)) 28 dL_holds_16 (pc' := 17) rfl rfl (by omega) (by decide) rfl ?_
    refine yy_goto C (tgt := 28) dL_holds_17 (by decide) ?_
    refine yy_iconst C (v := (nI 0)) dL_holds_28 (pc' := 29) rfl (by decide) ?_
    subst hQ
    exact ye_i C hr (vp_nar_int _) (S, vp_updL fo 0 (lN 0)) dL_holds_29 rfl (by decide) (by decide) (Or.inl ⟨rfl, r1, hw1, by rw [if_pos c_8]⟩)
  · skip
    refine yy_lconst C (v := (lN 1)) dL_holds_11 (pc' := 12) rfl (by decide) ?_
    refine yy_goto C (tgt := 16) dL_holds_12 (by decide) ?_
    refine yy_last C (w' := wA G ad S ++ ((o, .inl (G.2.2.1, 1, .inr (.inl (vp_updL fo 0 (lN 1))))) :: F)) 28 dL_holds_16 (pc' := 17) rfl rfl (by omega) (by decide) rfl ?_
    refine yy_goto C (tgt := 28) dL_holds_17 (by decide) ?_
    refine yy_iconst C (v := (nI 0)) dL_holds_28 (pc' := 29) rfl (by decide) ?_
    subst hQ
    exact ye_i C hr (vp_nar_int _) (S, vp_updL fo 0 (lN 1)) dL_holds_29 rfl (by decide) (by decide) (Or.inl ⟨rfl, r1, hw1, by rw [if_neg c_8]⟩)

abbrev rL_holdsByLog : Room := { frames := 8, cells := 1, slots := 6, locals := 135 }
set_option maxHeartbeats 4000000 in
set_option maxRecDepth 100000 in
theorem mL_holdsByLog (l : Launch) (hl0 : l.stackTraces = false) (G : gG) (B0 : Nat) (ad : Nat → Nat) (F : va_W) (S : SA) (a x : Int32) (hI : IA S) (o : Nat) (fo : Nat → Int64) : Met l yL_holdsByLog (Cond.codeWith yL_holdsByLog cL_holdsByLog 5 (some .int) [(0, 17, 20, 21), (0, 17, 24, 19)] :: WG) rL_holdsByLog (va_Pc [.ref (ad 0), .int a, .int x, .ref (o)] (PR G B0 (wA G ad S ++ ((o, .inl (G.2.2.1, 1, .inr (.inl fo))) :: F)))) (va_Qi (fun (r : Int32) (u : SA × (Nat → Int64)) => (r = nI 0 ∧ ∃ (v_ : Int32), (cdHolds (S.1 1) a x = 0 ∧ v_ = bI ((cloA S (lgM (S.2.1 13) (S.2.1 14) a (S.1 5))).testBit (ix x))) ∧ u = (S, vp_updL fo 0 (if v_ = 0 then lN 0 else lN 1))) ∨ ∃ q : Nat, ¬ q = 0 ∧ r = nI q ∧ cdHolds (S.1 1) a x = q ∧ u = (S, fo)) (fun (u : SA × (Nat → Int64)) (t_ : State) => va_P G.1 vwCl (wA G ad u.1 ++ ((o, .inl (G.2.2.1, 1, .inr (.inl u.2))) :: F)) t_.heap ∧ va_D (fun q => B0 ≤ q) (wA G ad u.1 ++ ((o, .inl (G.2.2.1, 1, .inr (.inl u.2))) :: F))) (fun q => B0 ≤ q)) rL_holdsByLog.cells rL_holdsByLog.slots (fun q => B0 ≤ q) := by
  refine metW_of RL [(0, .ref (ad 0)), (1, .int a), (2, .int x), (3, .ref (o))] rfl (by decide) (Nat.le_of_ble_eq_true rfl) rfl ?_
  intro p e s m args below meth c C hr hnm ht
  refine yq ?_
  intro QQ hQ
  refine yy_aload_n C 3 dL_holdsByLog_0 (pc' := 1) rfl rfl rfl ?_
  refine yy_iconst C (v := (nI 0)) dL_holdsByLog_1 (pc' := 2) rfl (by decide) ?_
  refine yy_aload_n C 0 dL_holdsByLog_2 (pc' := 3) rfl rfl rfl ?_
  refine yy_iload_n C 1 dL_holdsByLog_3 (pc' := 4) rfl rfl rfl ?_
  refine yy_iload_n C 2 dL_holdsByLog_4 (pc' := 5) rfl rfl rfl ?_
  refine xc_i (xr_V C (As := [.int a, .int x]) (rest := [.int (nI 0), .ref (o)]) lk_L_58 cd_X6_holdsByLog im_X6_holdsByLog se_X6_holdsByLog (mX6_holdsByLog l hl0 G B0 ad ((o, .inl (G.2.2.1, 1, .inr (.inl fo))) :: F) S a x hI) ⟨by decide, by decide⟩ ⟨by decide, by decide⟩ 0 rfl rfl rfl rfl (Nat.le_of_ble_eq_true rfl) dL_holdsByLog_5) (pc' := 8) rfl (fun E _ hw1 => ?_) (fun r1 _ hw1 => ?_)
  · skip
    rcases hw1 with ⟨rfl, hx_⟩ | ⟨rfl, hx_⟩
    · skip
      refine xe_catch C (name := "java/lang/IllegalArgumentException") [] ⟨0, 17, 20, 21⟩ [⟨0, 17, 24, 19⟩] (ht.trans rfl) (fun z hz => by cases hz) rfl (by decide) cl_L_21 (by decide +kernel) (pc' := 20) rfl (fun ce_ => ?_)
      refine yy_astore C dL_holdsByLog_20 (pc' := 22) rfl (by decide) rfl ?_
      refine yy_iconst C (v := (nI 1)) dL_holdsByLog_22 (pc' := 23) rfl (by decide) ?_
      subst hQ
      exact ye_i C hr (vp_nar_int _) (S, fo) dL_holdsByLog_23 rfl (by decide) (by decide) (Or.inr ⟨1, by decide, rfl, hx_, rfl⟩)
    · skip
      refine xe_catch C (name := "java/lang/IndexOutOfBoundsException") [⟨0, 17, 20, 21⟩] ⟨0, 17, 24, 19⟩ [] (ht.trans rfl) (by
          intro z hz
          simp only [List.mem_cons, List.not_mem_nil, or_false] at hz
          rcases hz with rfl
          · exact Or.inr ⟨by decide, _, cl_L_21, by decide +kernel⟩) rfl (by decide) cl_L_19 (by decide +kernel) (pc' := 24) rfl (fun ce_ => ?_)
      refine yy_astore C dL_holdsByLog_24 (pc' := 26) rfl (by decide) rfl ?_
      refine yy_iconst C (v := (nI 2)) dL_holdsByLog_26 (pc' := 27) rfl (by decide) ?_
      subst hQ
      exact ye_i C hr (vp_nar_int _) (S, fo) dL_holdsByLog_27 rfl (by decide) (by decide) (Or.inr ⟨2, by decide, rfl, hx_, rfl⟩)
    
  refine yy_if_eq C dL_holdsByLog_8 (pc' := 11) rfl (tgt := 15) (by decide) (fun c_8 => ?_) (fun c_8 => ?_)
  · skip
    refine yy_lconst C (v := (lN 0)) dL_holdsByLog_15 (pc' := 16) rfl (by decide) ?_
    refine yy_last C (w' := wA G ad S ++ ((o, .inl (G.2.2.1, 1, .inr (.inl (vp_updL fo 0 (lN 0))))) :: F)) 28 dL_holdsByLog_16 (pc' := 17) rfl rfl (by omega) (by decide) rfl ?_
    refine yy_goto C (tgt := 28) dL_holdsByLog_17 (by decide) ?_
    refine yy_iconst C (v := (nI 0)) dL_holdsByLog_28 (pc' := 29) rfl (by decide) ?_
    subst hQ
    exact ye_i C hr (vp_nar_int _) (S, vp_updL fo 0 (lN 0)) dL_holdsByLog_29 rfl (by decide) (by decide) (Or.inl ⟨rfl, r1, hw1, by rw [if_pos c_8]⟩)
  · skip
    refine yy_lconst C (v := (lN 1)) dL_holdsByLog_11 (pc' := 12) rfl (by decide) ?_
    refine yy_goto C (tgt := 16) dL_holdsByLog_12 (by decide) ?_
    refine yy_last C (w' := wA G ad S ++ ((o, .inl (G.2.2.1, 1, .inr (.inl (vp_updL fo 0 (lN 1))))) :: F)) 28 dL_holdsByLog_16 (pc' := 17) rfl rfl (by omega) (by decide) rfl ?_
    refine yy_goto C (tgt := 28) dL_holdsByLog_17 (by decide) ?_
    refine yy_iconst C (v := (nI 0)) dL_holdsByLog_28 (pc' := 29) rfl (by decide) ?_
    subst hQ
    exact ye_i C hr (vp_nar_int _) (S, vp_updL fo 0 (lN 1)) dL_holdsByLog_29 rfl (by decide) (by decide) (Or.inl ⟨rfl, r1, hw1, by rw [if_neg c_8]⟩)

abbrev rL_held : Room := { frames := 8, cells := 1, slots := 6, locals := 133 }
set_option maxHeartbeats 4000000 in
set_option maxRecDepth 100000 in
theorem mL_held (l : Launch) (hl0 : l.stackTraces = false) (G : gG) (B0 : Nat) (ad : Nat → Nat) (F : va_W) (S : SA) (a : Int32) (hI : IA S) (o : Nat) (fo : Nat → Int64) : Met l yL_held (Cond.codeWith yL_held cL_held 4 (some .int) [(0, 9, 12, 21)] :: WG) rL_held (va_Pc [.ref (ad 0), .int a, .ref (o)] (PR G B0 (wA G ad S ++ ((o, .inl (G.2.2.1, 1, .inr (.inl fo))) :: F)))) (va_Qi (fun (r : Int32) (u : SA × (Nat → Int64)) => (r = nI 0 ∧ ∃ (v_ : Int32), (cd1 5 a = 0 ∧ v_ = nI (fb_ct (fun k => hb S (ix a) k) 40)) ∧ u = (S, vp_updL fo 0 v_.toInt64)) ∨ ∃ q : Nat, ¬ q = 0 ∧ r = nI q ∧ cd1 5 a = q ∧ u = (S, fo)) (fun (u : SA × (Nat → Int64)) (t_ : State) => va_P G.1 vwCl (wA G ad u.1 ++ ((o, .inl (G.2.2.1, 1, .inr (.inl u.2))) :: F)) t_.heap ∧ va_D (fun q => B0 ≤ q) (wA G ad u.1 ++ ((o, .inl (G.2.2.1, 1, .inr (.inl u.2))) :: F))) (fun q => B0 ≤ q)) rL_held.cells rL_held.slots (fun q => B0 ≤ q) := by
  refine metW_of RL [(0, .ref (ad 0)), (1, .int a), (2, .ref (o))] rfl (by decide) (Nat.le_of_ble_eq_true rfl) rfl ?_
  intro p e s m args below meth c C hr hnm ht
  refine yq ?_
  intro QQ hQ
  refine yy_aload_n C 2 dL_held_0 (pc' := 1) rfl rfl rfl ?_
  refine yy_iconst C (v := (nI 0)) dL_held_1 (pc' := 2) rfl (by decide) ?_
  refine yy_aload_n C 0 dL_held_2 (pc' := 3) rfl rfl rfl ?_
  refine yy_iload_n C 1 dL_held_3 (pc' := 4) rfl rfl rfl ?_
  refine xc_i (xr_V C (As := [.int a]) (rest := [.int (nI 0), .ref (o)]) lk_L_61 cd_X6_held im_X6_held se_X6_held (mX6_held l hl0 G B0 ad ((o, .inl (G.2.2.1, 1, .inr (.inl fo))) :: F) S a hI) ⟨by decide, by decide⟩ ⟨by decide, by decide⟩ 0 rfl rfl rfl rfl (Nat.le_of_ble_eq_true rfl) dL_held_4) (pc' := 7) rfl (fun E _ hw1 => ?_) (fun r1 _ hw1 => ?_)
  · skip
    obtain ⟨rfl, hx_⟩ := hw1
    · skip
      refine xe_catch C (name := "java/lang/IllegalArgumentException") [] ⟨0, 9, 12, 21⟩ [] (ht.trans rfl) (fun z hz => by cases hz) rfl (by decide) cl_L_21 (by decide +kernel) (pc' := 12) rfl (fun ce_ => ?_)
      refine yy_astore_n C dL_held_12 (pc' := 13) rfl rfl (by decide) rfl ?_
      refine yy_iconst C (v := (nI 1)) dL_held_13 (pc' := 14) rfl (by decide) ?_
      subst hQ
      exact ye_i C hr (vp_nar_int _) (S, fo) dL_held_14 rfl (by decide) (by decide) (Or.inr ⟨1, by decide, rfl, hx_, rfl⟩)
    
  refine yy_i2l C (v := r1.toInt64) dL_held_7 (pc' := 8) rfl rfl ?_
  refine yy_last C (w' := wA G ad S ++ ((o, .inl (G.2.2.1, 1, .inr (.inl (vp_updL fo 0 r1.toInt64)))) :: F)) 28 dL_held_8 (pc' := 9) rfl rfl (by omega) (by decide) rfl ?_
  refine yy_goto C (tgt := 15) dL_held_9 (by decide) ?_
  refine yy_iconst C (v := (nI 0)) dL_held_15 (pc' := 16) rfl (by decide) ?_
  subst hQ
  exact ye_i C hr (vp_nar_int _) (S, vp_updL fo 0 r1.toInt64) dL_held_16 rfl (by decide) (by decide) (Or.inl ⟨rfl, r1, hw1, rfl⟩)

abbrev rL_given : Room := { frames := 8, cells := 1, slots := 6, locals := 133 }
set_option maxHeartbeats 4000000 in
set_option maxRecDepth 100000 in
theorem mL_given (l : Launch) (hl0 : l.stackTraces = false) (G : gG) (B0 : Nat) (ad : Nat → Nat) (F : va_W) (S : SA) (a : Int32) (hI : IA S) (o : Nat) (fo : Nat → Int64) : Met l yL_given (Cond.codeWith yL_given cL_given 4 (some .int) [(0, 9, 12, 21)] :: WG) rL_given (va_Pc [.ref (ad 0), .int a, .ref (o)] (PR G B0 (wA G ad S ++ ((o, .inl (G.2.2.1, 1, .inr (.inl fo))) :: F)))) (va_Qi (fun (r : Int32) (u : SA × (Nat → Int64)) => (r = nI 0 ∧ ∃ (v_ : Int32), (cd1 5 a = 0 ∧ v_ = nI (fb_ct (fun k => (lgM (S.2.1 13) (S.2.1 14) a (S.1 5)).testBit k) 40)) ∧ u = (S, vp_updL fo 0 v_.toInt64)) ∨ ∃ q : Nat, ¬ q = 0 ∧ r = nI q ∧ cd1 5 a = q ∧ u = (S, fo)) (fun (u : SA × (Nat → Int64)) (t_ : State) => va_P G.1 vwCl (wA G ad u.1 ++ ((o, .inl (G.2.2.1, 1, .inr (.inl u.2))) :: F)) t_.heap ∧ va_D (fun q => B0 ≤ q) (wA G ad u.1 ++ ((o, .inl (G.2.2.1, 1, .inr (.inl u.2))) :: F))) (fun q => B0 ≤ q)) rL_given.cells rL_given.slots (fun q => B0 ≤ q) := by
  refine metW_of RL [(0, .ref (ad 0)), (1, .int a), (2, .ref (o))] rfl (by decide) (Nat.le_of_ble_eq_true rfl) rfl ?_
  intro p e s m args below meth c C hr hnm ht
  refine yq ?_
  intro QQ hQ
  refine yy_aload_n C 2 dL_given_0 (pc' := 1) rfl rfl rfl ?_
  refine yy_iconst C (v := (nI 0)) dL_given_1 (pc' := 2) rfl (by decide) ?_
  refine yy_aload_n C 0 dL_given_2 (pc' := 3) rfl rfl rfl ?_
  refine yy_iload_n C 1 dL_given_3 (pc' := 4) rfl rfl rfl ?_
  refine xc_i (xr_V C (As := [.int a]) (rest := [.int (nI 0), .ref (o)]) lk_L_64 cd_X6_given im_X6_given se_X6_given (mX6_given l hl0 G B0 ad ((o, .inl (G.2.2.1, 1, .inr (.inl fo))) :: F) S a hI) ⟨by decide, by decide⟩ ⟨by decide, by decide⟩ 0 rfl rfl rfl rfl (Nat.le_of_ble_eq_true rfl) dL_given_4) (pc' := 7) rfl (fun E _ hw1 => ?_) (fun r1 _ hw1 => ?_)
  · skip
    obtain ⟨rfl, hx_⟩ := hw1
    · skip
      refine xe_catch C (name := "java/lang/IllegalArgumentException") [] ⟨0, 9, 12, 21⟩ [] (ht.trans rfl) (fun z hz => by cases hz) rfl (by decide) cl_L_21 (by decide +kernel) (pc' := 12) rfl (fun ce_ => ?_)
      refine yy_astore_n C dL_given_12 (pc' := 13) rfl rfl (by decide) rfl ?_
      refine yy_iconst C (v := (nI 1)) dL_given_13 (pc' := 14) rfl (by decide) ?_
      subst hQ
      exact ye_i C hr (vp_nar_int _) (S, fo) dL_given_14 rfl (by decide) (by decide) (Or.inr ⟨1, by decide, rfl, hx_, rfl⟩)
    
  refine yy_i2l C (v := r1.toInt64) dL_given_7 (pc' := 8) rfl rfl ?_
  refine yy_last C (w' := wA G ad S ++ ((o, .inl (G.2.2.1, 1, .inr (.inl (vp_updL fo 0 r1.toInt64)))) :: F)) 28 dL_given_8 (pc' := 9) rfl rfl (by omega) (by decide) rfl ?_
  refine yy_goto C (tgt := 15) dL_given_9 (by decide) ?_
  refine yy_iconst C (v := (nI 0)) dL_given_15 (pc' := 16) rfl (by decide) ?_
  subst hQ
  exact ye_i C hr (vp_nar_int _) (S, vp_updL fo 0 r1.toInt64) dL_given_16 rfl (by decide) (by decide) (Or.inl ⟨rfl, r1, hw1, rfl⟩)

abbrev rL_holders : Room := { frames := 8, cells := 1, slots := 6, locals := 136 }
set_option maxHeartbeats 4000000 in
set_option maxRecDepth 100000 in
theorem mL_holders (l : Launch) (hl0 : l.stackTraces = false) (G : gG) (B0 : Nat) (ad : Nat → Nat) (F : va_W) (S : SA) (x : Int32) (hI : IA S) (o : Nat) (fo : Nat → Int64) : Met l yL_holders (Cond.codeWith yL_holders cL_holders 4 (some .int) [(0, 9, 12, 19)] :: WG) rL_holders (va_Pc [.ref (ad 0), .int x, .ref (o)] (PR G B0 (wA G ad S ++ ((o, .inl (G.2.2.1, 1, .inr (.inl fo))) :: F)))) (va_Qi (fun (r : Int32) (u : SA × (Nat → Int64)) => (r = nI 0 ∧ ∃ (v_ : Int32), (cd1 (S.1 1) x = 0 ∧ v_ = nI (fb_ct (fun z => hb S z (ix x)) 5)) ∧ u = (S, vp_updL fo 0 v_.toInt64)) ∨ ∃ q : Nat, ¬ q = 0 ∧ r = nI q ∧ cd1 (S.1 1) x = q ∧ u = (S, fo)) (fun (u : SA × (Nat → Int64)) (t_ : State) => va_P G.1 vwCl (wA G ad u.1 ++ ((o, .inl (G.2.2.1, 1, .inr (.inl u.2))) :: F)) t_.heap ∧ va_D (fun q => B0 ≤ q) (wA G ad u.1 ++ ((o, .inl (G.2.2.1, 1, .inr (.inl u.2))) :: F))) (fun q => B0 ≤ q)) rL_holders.cells rL_holders.slots (fun q => B0 ≤ q) := by
  refine metW_of RL [(0, .ref (ad 0)), (1, .int x), (2, .ref (o))] rfl (by decide) (Nat.le_of_ble_eq_true rfl) rfl ?_
  intro p e s m args below meth c C hr hnm ht
  refine yq ?_
  intro QQ hQ
  refine yy_aload_n C 2 dL_holders_0 (pc' := 1) rfl rfl rfl ?_
  refine yy_iconst C (v := (nI 0)) dL_holders_1 (pc' := 2) rfl (by decide) ?_
  refine yy_aload_n C 0 dL_holders_2 (pc' := 3) rfl rfl rfl ?_
  refine yy_iload_n C 1 dL_holders_3 (pc' := 4) rfl rfl rfl ?_
  refine xc_i (xr_V C (As := [.int x]) (rest := [.int (nI 0), .ref (o)]) lk_L_67 cd_X6_holders im_X6_holders se_X6_holders (mX6_holders l hl0 G B0 ad ((o, .inl (G.2.2.1, 1, .inr (.inl fo))) :: F) S x hI) ⟨by decide, by decide⟩ ⟨by decide, by decide⟩ 0 rfl rfl rfl rfl (Nat.le_of_ble_eq_true rfl) dL_holders_4) (pc' := 7) rfl (fun E _ hw1 => ?_) (fun r1 _ hw1 => ?_)
  · skip
    obtain ⟨rfl, hx_⟩ := hw1
    · skip
      refine xe_catch C (name := "java/lang/IndexOutOfBoundsException") [] ⟨0, 9, 12, 19⟩ [] (ht.trans rfl) (fun z hz => by cases hz) rfl (by decide) cl_L_19 (by decide +kernel) (pc' := 12) rfl (fun ce_ => ?_)
      refine yy_astore_n C dL_holders_12 (pc' := 13) rfl rfl (by decide) rfl ?_
      refine yy_iconst C (v := (nI 1)) dL_holders_13 (pc' := 14) rfl (by decide) ?_
      subst hQ
      exact ye_i C hr (vp_nar_int _) (S, fo) dL_holders_14 rfl (by decide) (by decide) (Or.inr ⟨1, by decide, rfl, hx_, rfl⟩)
    
  refine yy_i2l C (v := r1.toInt64) dL_holders_7 (pc' := 8) rfl rfl ?_
  refine yy_last C (w' := wA G ad S ++ ((o, .inl (G.2.2.1, 1, .inr (.inl (vp_updL fo 0 r1.toInt64)))) :: F)) 28 dL_holders_8 (pc' := 9) rfl rfl (by omega) (by decide) rfl ?_
  refine yy_goto C (tgt := 15) dL_holders_9 (by decide) ?_
  refine yy_iconst C (v := (nI 0)) dL_holders_15 (pc' := 16) rfl (by decide) ?_
  subst hQ
  exact ye_i C hr (vp_nar_int _) (S, vp_updL fo 0 r1.toInt64) dL_holders_16 rfl (by decide) (by decide) (Or.inl ⟨rfl, r1, hw1, rfl⟩)

abbrev rL_why : Room := { frames := 9, cells := 1, slots := 6, locals := 158 }
set_option maxHeartbeats 4000000 in
set_option maxRecDepth 100000 in
theorem mL_why (l : Launch) (hl0 : l.stackTraces = false) (G : gG) (B0 : Nat) (ad : Nat → Nat) (F : va_W) (S : SA) (a x : Int32) (hI : IA S) (o : Nat) (fo : Nat → Int64) : Met l yL_why (Cond.codeWith yL_why cL_why 5 (some .int) [(0, 10, 13, 21), (0, 10, 17, 19), (0, 10, 21, 13)] :: WG) rL_why (va_Pc [.ref (ad 0), .int a, .int x, .ref (o)] (PR G B0 (wA G ad S ++ ((o, .inl (G.2.2.1, 1, .inr (.inl fo))) :: F)))) (va_Qi (fun (r : Int32) (u : SA × (Nat → Int64)) => (r = nI 0 ∧ ∃ (v_ : Int32), (cdNH (S.1 1) (hb S) a x = 0 ∧ v_ = whyC S (ix a) (ix x)) ∧ u = (S, vp_updL fo 0 v_.toInt64)) ∨ ∃ q : Nat, ¬ q = 0 ∧ r = nI q ∧ cdNH (S.1 1) (hb S) a x = q ∧ u = (S, fo)) (fun (u : SA × (Nat → Int64)) (t_ : State) => va_P G.1 vwCl (wA G ad u.1 ++ ((o, .inl (G.2.2.1, 1, .inr (.inl u.2))) :: F)) t_.heap ∧ va_D (fun q => B0 ≤ q) (wA G ad u.1 ++ ((o, .inl (G.2.2.1, 1, .inr (.inl u.2))) :: F))) (fun q => B0 ≤ q)) rL_why.cells rL_why.slots (fun q => B0 ≤ q) := by
  refine metW_of RL [(0, .ref (ad 0)), (1, .int a), (2, .int x), (3, .ref (o))] rfl (by decide) (Nat.le_of_ble_eq_true rfl) rfl ?_
  intro p e s m args below meth c C hr hnm ht
  refine yq ?_
  intro QQ hQ
  refine yy_aload_n C 3 dL_why_0 (pc' := 1) rfl rfl rfl ?_
  refine yy_iconst C (v := (nI 0)) dL_why_1 (pc' := 2) rfl (by decide) ?_
  refine yy_aload_n C 0 dL_why_2 (pc' := 3) rfl rfl rfl ?_
  refine yy_iload_n C 1 dL_why_3 (pc' := 4) rfl rfl rfl ?_
  refine yy_iload_n C 2 dL_why_4 (pc' := 5) rfl rfl rfl ?_
  refine xc_i (xr_V C (As := [.int a, .int x]) (rest := [.int (nI 0), .ref (o)]) lk_L_70 cd_X6_why im_X6_why se_X6_why (mX6_why l hl0 G B0 ad ((o, .inl (G.2.2.1, 1, .inr (.inl fo))) :: F) S a x hI) ⟨by decide, by decide⟩ ⟨by decide, by decide⟩ 0 rfl rfl rfl rfl (Nat.le_of_ble_eq_true rfl) dL_why_5) (pc' := 8) rfl (fun E _ hw1 => ?_) (fun r1 _ hw1 => ?_)
  · skip
    rcases hw1 with ⟨rfl, hx_⟩ | ⟨rfl, hx_⟩ | ⟨rfl, hx_⟩
    · skip
      refine xe_catch C (name := "java/lang/IllegalArgumentException") [] ⟨0, 10, 13, 21⟩ [⟨0, 10, 17, 19⟩, ⟨0, 10, 21, 13⟩] (ht.trans rfl) (fun z hz => by cases hz) rfl (by decide) cl_L_21 (by decide +kernel) (pc' := 13) rfl (fun ce_ => ?_)
      refine yy_astore C dL_why_13 (pc' := 15) rfl (by decide) rfl ?_
      refine yy_iconst C (v := (nI 1)) dL_why_15 (pc' := 16) rfl (by decide) ?_
      subst hQ
      exact ye_i C hr (vp_nar_int _) (S, fo) dL_why_16 rfl (by decide) (by decide) (Or.inr ⟨1, by decide, rfl, hx_, rfl⟩)
    · skip
      refine xe_catch C (name := "java/lang/IndexOutOfBoundsException") [⟨0, 10, 13, 21⟩] ⟨0, 10, 17, 19⟩ [⟨0, 10, 21, 13⟩] (ht.trans rfl) (by
          intro z hz
          simp only [List.mem_cons, List.not_mem_nil, or_false] at hz
          rcases hz with rfl
          · exact Or.inr ⟨by decide, _, cl_L_21, by decide +kernel⟩) rfl (by decide) cl_L_19 (by decide +kernel) (pc' := 17) rfl (fun ce_ => ?_)
      refine yy_astore C dL_why_17 (pc' := 19) rfl (by decide) rfl ?_
      refine yy_iconst C (v := (nI 2)) dL_why_19 (pc' := 20) rfl (by decide) ?_
      subst hQ
      exact ye_i C hr (vp_nar_int _) (S, fo) dL_why_20 rfl (by decide) (by decide) (Or.inr ⟨2, by decide, rfl, hx_, rfl⟩)
    · skip
      refine xe_catch C (name := "java/lang/IllegalStateException") [⟨0, 10, 13, 21⟩, ⟨0, 10, 17, 19⟩] ⟨0, 10, 21, 13⟩ [] (ht.trans rfl) (by
          intro z hz
          simp only [List.mem_cons, List.not_mem_nil, or_false] at hz
          rcases hz with rfl | rfl
          · exact Or.inr ⟨by decide, _, cl_L_21, by decide +kernel⟩
          · exact Or.inr ⟨by decide, _, cl_L_19, by decide +kernel⟩) rfl (by decide) cl_L_13 (by decide +kernel) (pc' := 21) rfl (fun ce_ => ?_)
      refine yy_astore C dL_why_21 (pc' := 23) rfl (by decide) rfl ?_
      refine yy_iconst C (v := (nI 3)) dL_why_23 (pc' := 24) rfl (by decide) ?_
      subst hQ
      exact ye_i C hr (vp_nar_int _) (S, fo) dL_why_24 rfl (by decide) (by decide) (Or.inr ⟨3, by decide, rfl, hx_, rfl⟩)
    
  refine yy_i2l C (v := r1.toInt64) dL_why_8 (pc' := 9) rfl rfl ?_
  refine yy_last C (w' := wA G ad S ++ ((o, .inl (G.2.2.1, 1, .inr (.inl (vp_updL fo 0 r1.toInt64)))) :: F)) 28 dL_why_9 (pc' := 10) rfl rfl (by omega) (by decide) rfl ?_
  refine yy_goto C (tgt := 25) dL_why_10 (by decide) ?_
  refine yy_iconst C (v := (nI 0)) dL_why_25 (pc' := 26) rfl (by decide) ?_
  subst hQ
  exact ye_i C hr (vp_nar_int _) (S, vp_updL fo 0 r1.toInt64) dL_why_26 rfl (by decide) (by decide) (Or.inl ⟨rfl, r1, hw1, rfl⟩)

abbrev rL_root : Room := { frames := 9, cells := 1, slots := 6, locals := 158 }
set_option maxHeartbeats 4000000 in
set_option maxRecDepth 100000 in
theorem mL_root (l : Launch) (hl0 : l.stackTraces = false) (G : gG) (B0 : Nat) (ad : Nat → Nat) (F : va_W) (S : SA) (a x : Int32) (hI : IA S) (o : Nat) (fo : Nat → Int64) : Met l yL_root (Cond.codeWith yL_root cL_root 5 (some .int) [(0, 10, 13, 21), (0, 10, 17, 19), (0, 10, 21, 13), (0, 10, 25, 77)] :: WG) rL_root (va_Pc [.ref (ad 0), .int a, .int x, .ref (o)] (PR G B0 (wA G ad S ++ ((o, .inl (G.2.2.1, 1, .inr (.inl fo))) :: F)))) (va_Qi (fun (r : Int32) (u : SA × (Nat → Int64)) => (r = nI 0 ∧ ∃ (v_ : Int32), (cdRoot S a x = 0 ∧ v_ = rootC S (ix a) (ix x)) ∧ u = (S, vp_updL fo 0 v_.toInt64)) ∨ ∃ q : Nat, ¬ q = 0 ∧ r = nI q ∧ cdRoot S a x = q ∧ u = (S, fo)) (fun (u : SA × (Nat → Int64)) (t_ : State) => va_P G.1 vwCl (wA G ad u.1 ++ ((o, .inl (G.2.2.1, 1, .inr (.inl u.2))) :: F)) t_.heap ∧ va_D (fun q => B0 ≤ q) (wA G ad u.1 ++ ((o, .inl (G.2.2.1, 1, .inr (.inl u.2))) :: F))) (fun q => B0 ≤ q)) rL_root.cells rL_root.slots (fun q => B0 ≤ q) := by
  refine metW_of RL [(0, .ref (ad 0)), (1, .int a), (2, .int x), (3, .ref (o))] rfl (by decide) (Nat.le_of_ble_eq_true rfl) rfl ?_
  intro p e s m args below meth c C hr hnm ht
  refine yq ?_
  intro QQ hQ
  refine yy_aload_n C 3 dL_root_0 (pc' := 1) rfl rfl rfl ?_
  refine yy_iconst C (v := (nI 0)) dL_root_1 (pc' := 2) rfl (by decide) ?_
  refine yy_aload_n C 0 dL_root_2 (pc' := 3) rfl rfl rfl ?_
  refine yy_iload_n C 1 dL_root_3 (pc' := 4) rfl rfl rfl ?_
  refine yy_iload_n C 2 dL_root_4 (pc' := 5) rfl rfl rfl ?_
  refine xc_i (xr_V C (As := [.int a, .int x]) (rest := [.int (nI 0), .ref (o)]) lk_L_74 cd_X6_root im_X6_root se_X6_root (mX6_root l hl0 G B0 ad ((o, .inl (G.2.2.1, 1, .inr (.inl fo))) :: F) S a x hI) ⟨by decide, by decide⟩ ⟨by decide, by decide⟩ 0 rfl rfl rfl rfl (Nat.le_of_ble_eq_true rfl) dL_root_5) (pc' := 8) rfl (fun E _ hw1 => ?_) (fun r1 _ hw1 => ?_)
  · skip
    rcases hw1 with ⟨rfl, hx_⟩ | ⟨rfl, hx_⟩ | ⟨rfl, hx_⟩ | ⟨rfl, hx_⟩
    · skip
      refine xe_catch C (name := "java/lang/IllegalArgumentException") [] ⟨0, 10, 13, 21⟩ [⟨0, 10, 17, 19⟩, ⟨0, 10, 21, 13⟩, ⟨0, 10, 25, 77⟩] (ht.trans rfl) (fun z hz => by cases hz) rfl (by decide) cl_L_21 (by decide +kernel) (pc' := 13) rfl (fun ce_ => ?_)
      refine yy_astore C dL_root_13 (pc' := 15) rfl (by decide) rfl ?_
      refine yy_iconst C (v := (nI 1)) dL_root_15 (pc' := 16) rfl (by decide) ?_
      subst hQ
      exact ye_i C hr (vp_nar_int _) (S, fo) dL_root_16 rfl (by decide) (by decide) (Or.inr ⟨1, by decide, rfl, hx_, rfl⟩)
    · skip
      refine xe_catch C (name := "java/lang/IndexOutOfBoundsException") [⟨0, 10, 13, 21⟩] ⟨0, 10, 17, 19⟩ [⟨0, 10, 21, 13⟩, ⟨0, 10, 25, 77⟩] (ht.trans rfl) (by
          intro z hz
          simp only [List.mem_cons, List.not_mem_nil, or_false] at hz
          rcases hz with rfl
          · exact Or.inr ⟨by decide, _, cl_L_21, by decide +kernel⟩) rfl (by decide) cl_L_19 (by decide +kernel) (pc' := 17) rfl (fun ce_ => ?_)
      refine yy_astore C dL_root_17 (pc' := 19) rfl (by decide) rfl ?_
      refine yy_iconst C (v := (nI 2)) dL_root_19 (pc' := 20) rfl (by decide) ?_
      subst hQ
      exact ye_i C hr (vp_nar_int _) (S, fo) dL_root_20 rfl (by decide) (by decide) (Or.inr ⟨2, by decide, rfl, hx_, rfl⟩)
    · skip
      refine xe_catch C (name := "java/lang/IllegalStateException") [⟨0, 10, 13, 21⟩, ⟨0, 10, 17, 19⟩] ⟨0, 10, 21, 13⟩ [⟨0, 10, 25, 77⟩] (ht.trans rfl) (by
          intro z hz
          simp only [List.mem_cons, List.not_mem_nil, or_false] at hz
          rcases hz with rfl | rfl
          · exact Or.inr ⟨by decide, _, cl_L_21, by decide +kernel⟩
          · exact Or.inr ⟨by decide, _, cl_L_19, by decide +kernel⟩) rfl (by decide) cl_L_13 (by decide +kernel) (pc' := 21) rfl (fun ce_ => ?_)
      refine yy_astore C dL_root_21 (pc' := 23) rfl (by decide) rfl ?_
      refine yy_iconst C (v := (nI 3)) dL_root_23 (pc' := 24) rfl (by decide) ?_
      subst hQ
      exact ye_i C hr (vp_nar_int _) (S, fo) dL_root_24 rfl (by decide) (by decide) (Or.inr ⟨3, by decide, rfl, hx_, rfl⟩)
    · skip
      refine xe_catch C (name := "java/util/NoSuchElementException") [⟨0, 10, 13, 21⟩, ⟨0, 10, 17, 19⟩, ⟨0, 10, 21, 13⟩] ⟨0, 10, 25, 77⟩ [] (ht.trans rfl) (by
          intro z hz
          simp only [List.mem_cons, List.not_mem_nil, or_false] at hz
          rcases hz with rfl | rfl | rfl
          · exact Or.inr ⟨by decide, _, cl_L_21, by decide +kernel⟩
          · exact Or.inr ⟨by decide, _, cl_L_19, by decide +kernel⟩
          · exact Or.inr ⟨by decide, _, cl_L_13, by decide +kernel⟩) rfl (by decide) cl_L_77 (by decide +kernel) (pc' := 25) rfl (fun ce_ => ?_)
      refine yy_astore C dL_root_25 (pc' := 27) rfl (by decide) rfl ?_
      refine yy_iconst C (v := (nI 4)) dL_root_27 (pc' := 28) rfl (by decide) ?_
      subst hQ
      exact ye_i C hr (vp_nar_int _) (S, fo) dL_root_28 rfl (by decide) (by decide) (Or.inr ⟨4, by decide, rfl, hx_, rfl⟩)
    
  refine yy_i2l C (v := r1.toInt64) dL_root_8 (pc' := 9) rfl rfl ?_
  refine yy_last C (w' := wA G ad S ++ ((o, .inl (G.2.2.1, 1, .inr (.inl (vp_updL fo 0 r1.toInt64)))) :: F)) 28 dL_root_9 (pc' := 10) rfl rfl (by omega) (by decide) rfl ?_
  refine yy_goto C (tgt := 29) dL_root_10 (by decide) ?_
  refine yy_iconst C (v := (nI 0)) dL_root_29 (pc' := 30) rfl (by decide) ?_
  subst hQ
  exact ye_i C hr (vp_nar_int _) (S, vp_updL fo 0 r1.toInt64) dL_root_30 rfl (by decide) (by decide) (Or.inl ⟨rfl, r1, hw1, rfl⟩)

abbrev rL_causes : Room := { frames := 9, cells := 1, slots := 6, locals := 159 }
set_option maxHeartbeats 4000000 in
set_option maxRecDepth 100000 in
theorem mL_causes (l : Launch) (hl0 : l.stackTraces = false) (G : gG) (B0 : Nat) (ad : Nat → Nat) (F : va_W) (S : SA) (a x : Int32) (hI : IA S) (o : Nat) (fo : Nat → Int64) : Met l yL_causes (Cond.codeWith yL_causes cL_causes 5 (some .int) [(0, 10, 13, 21), (0, 10, 17, 19), (0, 10, 21, 13)] :: WG) rL_causes (va_Pc [.ref (ad 0), .int a, .int x, .ref (o)] (PR G B0 (wA G ad S ++ ((o, .inl (G.2.2.1, 1, .inr (.inl fo))) :: F)))) (va_Qi (fun (r : Int32) (u : SA × (Nat → Int64)) => (r = nI 0 ∧ ∃ (v_ : Int32), (cdNH (S.1 1) (hb S) a x = 0 ∧ v_ = causesI S (ix a) (ix x)) ∧ u = (S, vp_updL fo 0 v_.toInt64)) ∨ ∃ q : Nat, ¬ q = 0 ∧ r = nI q ∧ cdNH (S.1 1) (hb S) a x = q ∧ u = (S, fo)) (fun (u : SA × (Nat → Int64)) (t_ : State) => va_P G.1 vwCl (wA G ad u.1 ++ ((o, .inl (G.2.2.1, 1, .inr (.inl u.2))) :: F)) t_.heap ∧ va_D (fun q => B0 ≤ q) (wA G ad u.1 ++ ((o, .inl (G.2.2.1, 1, .inr (.inl u.2))) :: F))) (fun q => B0 ≤ q)) rL_causes.cells rL_causes.slots (fun q => B0 ≤ q) := by
  refine metW_of RL [(0, .ref (ad 0)), (1, .int a), (2, .int x), (3, .ref (o))] rfl (by decide) (Nat.le_of_ble_eq_true rfl) rfl ?_
  intro p e s m args below meth c C hr hnm ht
  refine yq ?_
  intro QQ hQ
  refine yy_aload_n C 3 dL_causes_0 (pc' := 1) rfl rfl rfl ?_
  refine yy_iconst C (v := (nI 0)) dL_causes_1 (pc' := 2) rfl (by decide) ?_
  refine yy_aload_n C 0 dL_causes_2 (pc' := 3) rfl rfl rfl ?_
  refine yy_iload_n C 1 dL_causes_3 (pc' := 4) rfl rfl rfl ?_
  refine yy_iload_n C 2 dL_causes_4 (pc' := 5) rfl rfl rfl ?_
  refine xc_i (xr_V C (As := [.int a, .int x]) (rest := [.int (nI 0), .ref (o)]) lk_L_79 cd_X6_causes im_X6_causes se_X6_causes (mX6_causes l hl0 G B0 ad ((o, .inl (G.2.2.1, 1, .inr (.inl fo))) :: F) S a x hI) ⟨by decide, by decide⟩ ⟨by decide, by decide⟩ 0 rfl rfl rfl rfl (Nat.le_of_ble_eq_true rfl) dL_causes_5) (pc' := 8) rfl (fun E _ hw1 => ?_) (fun r1 _ hw1 => ?_)
  · skip
    rcases hw1 with ⟨rfl, hx_⟩ | ⟨rfl, hx_⟩ | ⟨rfl, hx_⟩
    · skip
      refine xe_catch C (name := "java/lang/IllegalArgumentException") [] ⟨0, 10, 13, 21⟩ [⟨0, 10, 17, 19⟩, ⟨0, 10, 21, 13⟩] (ht.trans rfl) (fun z hz => by cases hz) rfl (by decide) cl_L_21 (by decide +kernel) (pc' := 13) rfl (fun ce_ => ?_)
      refine yy_astore C dL_causes_13 (pc' := 15) rfl (by decide) rfl ?_
      refine yy_iconst C (v := (nI 1)) dL_causes_15 (pc' := 16) rfl (by decide) ?_
      subst hQ
      exact ye_i C hr (vp_nar_int _) (S, fo) dL_causes_16 rfl (by decide) (by decide) (Or.inr ⟨1, by decide, rfl, hx_, rfl⟩)
    · skip
      refine xe_catch C (name := "java/lang/IndexOutOfBoundsException") [⟨0, 10, 13, 21⟩] ⟨0, 10, 17, 19⟩ [⟨0, 10, 21, 13⟩] (ht.trans rfl) (by
          intro z hz
          simp only [List.mem_cons, List.not_mem_nil, or_false] at hz
          rcases hz with rfl
          · exact Or.inr ⟨by decide, _, cl_L_21, by decide +kernel⟩) rfl (by decide) cl_L_19 (by decide +kernel) (pc' := 17) rfl (fun ce_ => ?_)
      refine yy_astore C dL_causes_17 (pc' := 19) rfl (by decide) rfl ?_
      refine yy_iconst C (v := (nI 2)) dL_causes_19 (pc' := 20) rfl (by decide) ?_
      subst hQ
      exact ye_i C hr (vp_nar_int _) (S, fo) dL_causes_20 rfl (by decide) (by decide) (Or.inr ⟨2, by decide, rfl, hx_, rfl⟩)
    · skip
      refine xe_catch C (name := "java/lang/IllegalStateException") [⟨0, 10, 13, 21⟩, ⟨0, 10, 17, 19⟩] ⟨0, 10, 21, 13⟩ [] (ht.trans rfl) (by
          intro z hz
          simp only [List.mem_cons, List.not_mem_nil, or_false] at hz
          rcases hz with rfl | rfl
          · exact Or.inr ⟨by decide, _, cl_L_21, by decide +kernel⟩
          · exact Or.inr ⟨by decide, _, cl_L_19, by decide +kernel⟩) rfl (by decide) cl_L_13 (by decide +kernel) (pc' := 21) rfl (fun ce_ => ?_)
      refine yy_astore C dL_causes_21 (pc' := 23) rfl (by decide) rfl ?_
      refine yy_iconst C (v := (nI 3)) dL_causes_23 (pc' := 24) rfl (by decide) ?_
      subst hQ
      exact ye_i C hr (vp_nar_int _) (S, fo) dL_causes_24 rfl (by decide) (by decide) (Or.inr ⟨3, by decide, rfl, hx_, rfl⟩)
    
  refine yy_i2l C (v := r1.toInt64) dL_causes_8 (pc' := 9) rfl rfl ?_
  refine yy_last C (w' := wA G ad S ++ ((o, .inl (G.2.2.1, 1, .inr (.inl (vp_updL fo 0 r1.toInt64)))) :: F)) 28 dL_causes_9 (pc' := 10) rfl rfl (by omega) (by decide) rfl ?_
  refine yy_goto C (tgt := 25) dL_causes_10 (by decide) ?_
  refine yy_iconst C (v := (nI 0)) dL_causes_25 (pc' := 26) rfl (by decide) ?_
  subst hQ
  exact ye_i C hr (vp_nar_int _) (S, vp_updL fo 0 r1.toInt64) dL_causes_26 rfl (by decide) (by decide) (Or.inl ⟨rfl, r1, hw1, rfl⟩)

abbrev rL_request : Room := { frames := 8, cells := 1, slots := 6, locals := 137 }
set_option maxHeartbeats 4000000 in
set_option maxRecDepth 100000 in
theorem mL_request (l : Launch) (hl0 : l.stackTraces = false) (G : gG) (B0 : Nat) (ad : Nat → Nat) (F : va_W) (S : SA) (a d : Int32) (hI : IA S) (o : Nat) (fo : Nat → Int64) : Met l yL_request (Cond.codeWith yL_request cL_request 5 (some .int) [(0, 10, 13, 21), (0, 10, 17, 19), (0, 10, 21, 85), (0, 10, 25, 13)] :: WG) rL_request (va_Pc [.ref (ad 0), .int a, .int d, .ref (o)] (PR G B0 (wA G ad S ++ ((o, .inl (G.2.2.1, 1, .inr (.inl fo))) :: F)))) (va_Qi (fun (r : Int32) (u : SA × (Nat → Int64)) => (r = nI 0 ∧ ∃ (v_ : Int32), (cdReq (S.1 0) (S.1 6) (S.2.1 0) (wtg (S.1 6) (S.2.1 17) (S.2.1 15) (S.2.1 16) a d) a d = 0 ∧ v_ = nI (S.1 6)) ∧ u = ((sN (sI (sI (sI (sI S 15 (upd (S.2.1 15) (S.1 6) a)) 16 (upd (S.2.1 16) (S.1 6) d)) 17 (upd (S.2.1 17) (S.1 6) (nI 119))) 18 (upd (S.2.1 18) (S.1 6) (nI (S.1 7)))) 6 (S.1 6 + 1)), vp_updL fo 0 v_.toInt64)) ∨ ∃ q : Nat, ¬ q = 0 ∧ r = nI q ∧ cdReq (S.1 0) (S.1 6) (S.2.1 0) (wtg (S.1 6) (S.2.1 17) (S.2.1 15) (S.2.1 16) a d) a d = q ∧ u = (S, fo)) (fun (u : SA × (Nat → Int64)) (t_ : State) => va_P G.1 vwCl (wA G ad u.1 ++ ((o, .inl (G.2.2.1, 1, .inr (.inl u.2))) :: F)) t_.heap ∧ va_D (fun q => B0 ≤ q) (wA G ad u.1 ++ ((o, .inl (G.2.2.1, 1, .inr (.inl u.2))) :: F))) (fun q => B0 ≤ q)) rL_request.cells rL_request.slots (fun q => B0 ≤ q) := by
  refine metW_of RL [(0, .ref (ad 0)), (1, .int a), (2, .int d), (3, .ref (o))] rfl (by decide) (Nat.le_of_ble_eq_true rfl) rfl ?_
  intro p e s m args below meth c C hr hnm ht
  refine yq ?_
  intro QQ hQ
  refine yy_aload_n C 3 dL_request_0 (pc' := 1) rfl rfl rfl ?_
  refine yy_iconst C (v := (nI 0)) dL_request_1 (pc' := 2) rfl (by decide) ?_
  refine yy_aload_n C 0 dL_request_2 (pc' := 3) rfl rfl rfl ?_
  refine yy_iload_n C 1 dL_request_3 (pc' := 4) rfl rfl rfl ?_
  refine yy_iload_n C 2 dL_request_4 (pc' := 5) rfl rfl rfl ?_
  refine xc_i (xr_V C (As := [.int a, .int d]) (rest := [.int (nI 0), .ref (o)]) lk_L_82 cd_X6_request im_X6_request se_X6_request (mX6_request l hl0 G B0 ad ((o, .inl (G.2.2.1, 1, .inr (.inl fo))) :: F) S a d hI) ⟨by decide, by decide⟩ ⟨by decide, by decide⟩ 0 rfl rfl rfl rfl (Nat.le_of_ble_eq_true rfl) dL_request_5) (pc' := 8) rfl (fun E _ hw1 => ?_) (fun r1 _ hw1 => ?_)
  · skip
    rcases hw1 with ⟨rfl, hx_⟩ | ⟨rfl, hx_⟩ | ⟨rfl, hx_⟩ | ⟨rfl, hx_⟩
    · skip
      refine xe_catch C (name := "java/lang/IllegalArgumentException") [] ⟨0, 10, 13, 21⟩ [⟨0, 10, 17, 19⟩, ⟨0, 10, 21, 85⟩, ⟨0, 10, 25, 13⟩] (ht.trans rfl) (fun z hz => by cases hz) rfl (by decide) cl_L_21 (by decide +kernel) (pc' := 13) rfl (fun ce_ => ?_)
      refine yy_astore C dL_request_13 (pc' := 15) rfl (by decide) rfl ?_
      refine yy_iconst C (v := (nI 1)) dL_request_15 (pc' := 16) rfl (by decide) ?_
      subst hQ
      exact ye_i C hr (vp_nar_int _) (S, fo) dL_request_16 rfl (by decide) (by decide) (Or.inr ⟨1, by decide, rfl, hx_, rfl⟩)
    · skip
      refine xe_catch C (name := "java/lang/IndexOutOfBoundsException") [⟨0, 10, 13, 21⟩] ⟨0, 10, 17, 19⟩ [⟨0, 10, 21, 85⟩, ⟨0, 10, 25, 13⟩] (ht.trans rfl) (by
          intro z hz
          simp only [List.mem_cons, List.not_mem_nil, or_false] at hz
          rcases hz with rfl
          · exact Or.inr ⟨by decide, _, cl_L_21, by decide +kernel⟩) rfl (by decide) cl_L_19 (by decide +kernel) (pc' := 17) rfl (fun ce_ => ?_)
      refine yy_astore C dL_request_17 (pc' := 19) rfl (by decide) rfl ?_
      refine yy_iconst C (v := (nI 2)) dL_request_19 (pc' := 20) rfl (by decide) ?_
      subst hQ
      exact ye_i C hr (vp_nar_int _) (S, fo) dL_request_20 rfl (by decide) (by decide) (Or.inr ⟨2, by decide, rfl, hx_, rfl⟩)
    · skip
      refine xe_catch C (name := "java/lang/UnsupportedOperationException") [⟨0, 10, 13, 21⟩, ⟨0, 10, 17, 19⟩] ⟨0, 10, 21, 85⟩ [⟨0, 10, 25, 13⟩] (ht.trans rfl) (by
          intro z hz
          simp only [List.mem_cons, List.not_mem_nil, or_false] at hz
          rcases hz with rfl | rfl
          · exact Or.inr ⟨by decide, _, cl_L_21, by decide +kernel⟩
          · exact Or.inr ⟨by decide, _, cl_L_19, by decide +kernel⟩) rfl (by decide) cl_L_85 (by decide +kernel) (pc' := 21) rfl (fun ce_ => ?_)
      refine yy_astore C dL_request_21 (pc' := 23) rfl (by decide) rfl ?_
      refine yy_iconst C (v := (nI 3)) dL_request_23 (pc' := 24) rfl (by decide) ?_
      subst hQ
      exact ye_i C hr (vp_nar_int _) (S, fo) dL_request_24 rfl (by decide) (by decide) (Or.inr ⟨3, by decide, rfl, hx_, rfl⟩)
    · skip
      refine xe_catch C (name := "java/lang/IllegalStateException") [⟨0, 10, 13, 21⟩, ⟨0, 10, 17, 19⟩, ⟨0, 10, 21, 85⟩] ⟨0, 10, 25, 13⟩ [] (ht.trans rfl) (by
          intro z hz
          simp only [List.mem_cons, List.not_mem_nil, or_false] at hz
          rcases hz with rfl | rfl | rfl
          · exact Or.inr ⟨by decide, _, cl_L_21, by decide +kernel⟩
          · exact Or.inr ⟨by decide, _, cl_L_19, by decide +kernel⟩
          · exact Or.inr ⟨by decide, _, cl_L_85, by decide +kernel⟩) rfl (by decide) cl_L_13 (by decide +kernel) (pc' := 25) rfl (fun ce_ => ?_)
      refine yy_astore C dL_request_25 (pc' := 27) rfl (by decide) rfl ?_
      refine yy_iconst C (v := (nI 4)) dL_request_27 (pc' := 28) rfl (by decide) ?_
      subst hQ
      exact ye_i C hr (vp_nar_int _) (S, fo) dL_request_28 rfl (by decide) (by decide) (Or.inr ⟨4, by decide, rfl, hx_, rfl⟩)
    
  refine yy_i2l C (v := r1.toInt64) dL_request_8 (pc' := 9) rfl rfl ?_
  refine yy_last C (w' := wA G ad (sN (sI (sI (sI (sI S 15 (upd (S.2.1 15) (S.1 6) a)) 16 (upd (S.2.1 16) (S.1 6) d)) 17 (upd (S.2.1 17) (S.1 6) (nI 119))) 18 (upd (S.2.1 18) (S.1 6) (nI (S.1 7)))) 6 (S.1 6 + 1)) ++ ((o, .inl (G.2.2.1, 1, .inr (.inl (vp_updL fo 0 r1.toInt64)))) :: F)) 28 dL_request_9 (pc' := 10) rfl rfl (by omega) (by decide) rfl ?_
  refine yy_goto C (tgt := 29) dL_request_10 (by decide) ?_
  refine yy_iconst C (v := (nI 0)) dL_request_29 (pc' := 30) rfl (by decide) ?_
  subst hQ
  exact ye_i C hr (vp_nar_int _) ((sN (sI (sI (sI (sI S 15 (upd (S.2.1 15) (S.1 6) a)) 16 (upd (S.2.1 16) (S.1 6) d)) 17 (upd (S.2.1 17) (S.1 6) (nI 119))) 18 (upd (S.2.1 18) (S.1 6) (nI (S.1 7)))) 6 (S.1 6 + 1)), vp_updL fo 0 r1.toInt64) dL_request_30 rfl (by decide) (by decide) (Or.inl ⟨rfl, r1, hw1, rfl⟩)

abbrev rL_state : Room := { frames := 8, cells := 1, slots := 6, locals := 134 }
set_option maxHeartbeats 4000000 in
set_option maxRecDepth 100000 in
theorem mL_state (l : Launch) (hl0 : l.stackTraces = false) (G : gG) (B0 : Nat) (ad : Nat → Nat) (F : va_W) (S : SA) (k : Int32) (hI : IA S) (hq : ∀ j, j < S.1 6 → narrow .char (.int (S.2.1 17 j)) = .int (S.2.1 17 j)) (o : Nat) (fo : Nat → Int64) : Met l yL_state (Cond.codeWith yL_state cL_state 4 (some .int) [(0, 9, 12, 19)] :: WG) rL_state (va_Pc [.ref (ad 0), .int k, .ref (o)] (PR G B0 (wA G ad S ++ ((o, .inl (G.2.2.1, 1, .inr (.inl fo))) :: F)))) (va_Qi (fun (r : Int32) (u : SA × (Nat → Int64)) => (r = nI 0 ∧ ∃ (v_ : Int32), (cd1 (S.1 6) k = 0 ∧ v_ = S.2.1 17 (ix k)) ∧ u = (S, vp_updL fo 0 v_.toInt64)) ∨ ∃ q : Nat, ¬ q = 0 ∧ r = nI q ∧ cd1 (S.1 6) k = q ∧ u = (S, fo)) (fun (u : SA × (Nat → Int64)) (t_ : State) => va_P G.1 vwCl (wA G ad u.1 ++ ((o, .inl (G.2.2.1, 1, .inr (.inl u.2))) :: F)) t_.heap ∧ va_D (fun q => B0 ≤ q) (wA G ad u.1 ++ ((o, .inl (G.2.2.1, 1, .inr (.inl u.2))) :: F))) (fun q => B0 ≤ q)) rL_state.cells rL_state.slots (fun q => B0 ≤ q) := by
  refine metW_of RL [(0, .ref (ad 0)), (1, .int k), (2, .ref (o))] rfl (by decide) (Nat.le_of_ble_eq_true rfl) rfl ?_
  intro p e s m args below meth c C hr hnm ht
  refine yq ?_
  intro QQ hQ
  refine yy_aload_n C 2 dL_state_0 (pc' := 1) rfl rfl rfl ?_
  refine yy_iconst C (v := (nI 0)) dL_state_1 (pc' := 2) rfl (by decide) ?_
  refine yy_aload_n C 0 dL_state_2 (pc' := 3) rfl rfl rfl ?_
  refine yy_iload_n C 1 dL_state_3 (pc' := 4) rfl rfl rfl ?_
  refine xc_i (xr_V C (As := [.int k]) (rest := [.int (nI 0), .ref (o)]) lk_L_87 cd_X6_state im_X6_state se_X6_state (mX6_state l hl0 G B0 ad ((o, .inl (G.2.2.1, 1, .inr (.inl fo))) :: F) S k hI hq) ⟨by decide, by decide⟩ ⟨by decide, by decide⟩ 0 rfl rfl rfl rfl (Nat.le_of_ble_eq_true rfl) dL_state_4) (pc' := 7) rfl (fun E _ hw1 => ?_) (fun r1 _ hw1 => ?_)
  · skip
    obtain ⟨rfl, hx_⟩ := hw1
    · skip
      refine xe_catch C (name := "java/lang/IndexOutOfBoundsException") [] ⟨0, 9, 12, 19⟩ [] (ht.trans rfl) (fun z hz => by cases hz) rfl (by decide) cl_L_19 (by decide +kernel) (pc' := 12) rfl (fun ce_ => ?_)
      refine yy_astore_n C dL_state_12 (pc' := 13) rfl rfl (by decide) rfl ?_
      refine yy_iconst C (v := (nI 1)) dL_state_13 (pc' := 14) rfl (by decide) ?_
      subst hQ
      exact ye_i C hr (vp_nar_int _) (S, fo) dL_state_14 rfl (by decide) (by decide) (Or.inr ⟨1, by decide, rfl, hx_, rfl⟩)
    
  refine yy_i2l C (v := r1.toInt64) dL_state_7 (pc' := 8) rfl rfl ?_
  refine yy_last C (w' := wA G ad S ++ ((o, .inl (G.2.2.1, 1, .inr (.inl (vp_updL fo 0 r1.toInt64)))) :: F)) 28 dL_state_8 (pc' := 9) rfl rfl (by omega) (by decide) rfl ?_
  refine yy_goto C (tgt := 15) dL_state_9 (by decide) ?_
  refine yy_iconst C (v := (nI 0)) dL_state_15 (pc' := 16) rfl (by decide) ?_
  subst hQ
  exact ye_i C hr (vp_nar_int _) (S, vp_updL fo 0 r1.toInt64) dL_state_16 rfl (by decide) (by decide) (Or.inl ⟨rfl, r1, hw1, rfl⟩)

abbrev rL_answer : Room := { frames := 8, cells := 1, slots := 6, locals := 160 }
set_option maxHeartbeats 4000000 in
set_option maxRecDepth 100000 in
theorem mL_answer (l : Launch) (hl0 : l.stackTraces = false) (G : gG) (B0 : Nat) (ad : Nat → Nat) (F : va_W) (S : SA) (k : Int32) (hI : IA S) (hJ : JA S) (o : Nat) (fo : Nat → Int64) : Met l yL_answer (Cond.codeWith yL_answer cL_answer 4 (some .int) [(0, 9, 12, 19), (0, 9, 15, 13)] :: WG) rL_answer (va_Pc [.ref (ad 0), .int k, .ref (o)] (PR G B0 (wA G ad S ++ ((o, .inl (G.2.2.1, 1, .inr (.inl fo))) :: F)))) (va_Qi (fun (r : Int32) (u : SA × (Nat → Int64)) => (r = nI 0 ∧ ∃ (v_ : Int32) (g : Nat), (cdAns (S.1 6) (S.2.1 17) k = 0 ∧ k = nI g ∧ g < S.1 6 ∧ v_ = nI (gvC (sI S 17 (upd (S.2.1 17) g (nI 97))) (ix (S.2.1 15 g)) (S.2.1 16 g) (S.1 1))) ∧ u = ((gvS (sI S 17 (upd (S.2.1 17) g (nI 97))) (ix (S.2.1 15 g)) (S.2.1 16 g) (S.1 1)), vp_updL fo 0 v_.toInt64)) ∨ ∃ q : Nat, ¬ q = 0 ∧ r = nI q ∧ cdAns (S.1 6) (S.2.1 17) k = q ∧ u = (S, fo)) (fun (u : SA × (Nat → Int64)) (t_ : State) => va_P G.1 vwCl (wA G ad u.1 ++ ((o, .inl (G.2.2.1, 1, .inr (.inl u.2))) :: F)) t_.heap ∧ va_D (fun q => B0 ≤ q) (wA G ad u.1 ++ ((o, .inl (G.2.2.1, 1, .inr (.inl u.2))) :: F))) (fun q => B0 ≤ q)) rL_answer.cells rL_answer.slots (fun q => B0 ≤ q) := by
  refine metW_of RL [(0, .ref (ad 0)), (1, .int k), (2, .ref (o))] rfl (by decide) (Nat.le_of_ble_eq_true rfl) rfl ?_
  intro p e s m args below meth c C hr hnm ht
  refine yq ?_
  intro QQ hQ
  refine yy_aload_n C 2 dL_answer_0 (pc' := 1) rfl rfl rfl ?_
  refine yy_iconst C (v := (nI 0)) dL_answer_1 (pc' := 2) rfl (by decide) ?_
  refine yy_aload_n C 0 dL_answer_2 (pc' := 3) rfl rfl rfl ?_
  refine yy_iload_n C 1 dL_answer_3 (pc' := 4) rfl rfl rfl ?_
  refine xc_i (xr_V C (As := [.int k]) (rest := [.int (nI 0), .ref (o)]) lk_L_91 cd_X6_answer im_X6_answer se_X6_answer (mX6_answer l hl0 G B0 ad ((o, .inl (G.2.2.1, 1, .inr (.inl fo))) :: F) S k hI hJ) ⟨by decide, by decide⟩ ⟨by decide, by decide⟩ 0 rfl rfl rfl rfl (Nat.le_of_ble_eq_true rfl) dL_answer_4) (pc' := 7) rfl (fun E _ hw1 => ?_) (fun r1 u1 hw1 => ?_)
  · skip
    rcases hw1 with ⟨rfl, hx_⟩ | ⟨rfl, hx_⟩
    · skip
      refine xe_catch C (name := "java/lang/IndexOutOfBoundsException") [] ⟨0, 9, 12, 19⟩ [⟨0, 9, 15, 13⟩] (ht.trans rfl) (fun z hz => by cases hz) rfl (by decide) cl_L_19 (by decide +kernel) (pc' := 12) rfl (fun ce_ => ?_)
      refine yy_astore_n C dL_answer_12 (pc' := 13) rfl rfl (by decide) rfl ?_
      refine yy_iconst C (v := (nI 1)) dL_answer_13 (pc' := 14) rfl (by decide) ?_
      subst hQ
      exact ye_i C hr (vp_nar_int _) (S, fo) dL_answer_14 rfl (by decide) (by decide) (Or.inr ⟨1, by decide, rfl, hx_, rfl⟩)
    · skip
      refine xe_catch C (name := "java/lang/IllegalStateException") [⟨0, 9, 12, 19⟩] ⟨0, 9, 15, 13⟩ [] (ht.trans rfl) (by
          intro z hz
          simp only [List.mem_cons, List.not_mem_nil, or_false] at hz
          rcases hz with rfl
          · exact Or.inr ⟨by decide, _, cl_L_19, by decide +kernel⟩) rfl (by decide) cl_L_13 (by decide +kernel) (pc' := 15) rfl (fun ce_ => ?_)
      refine yy_astore_n C dL_answer_15 (pc' := 16) rfl rfl (by decide) rfl ?_
      refine yy_iconst C (v := (nI 2)) dL_answer_16 (pc' := 17) rfl (by decide) ?_
      subst hQ
      exact ye_i C hr (vp_nar_int _) (S, fo) dL_answer_17 rfl (by decide) (by decide) (Or.inr ⟨2, by decide, rfl, hx_, rfl⟩)
    
  refine yy_i2l C (v := r1.toInt64) dL_answer_7 (pc' := 8) rfl rfl ?_
  refine yy_last C (w' := wA G ad (gvS (sI S 17 (upd (S.2.1 17) u1 (nI 97))) (ix (S.2.1 15 u1)) (S.2.1 16 u1) (S.1 1)) ++ ((o, .inl (G.2.2.1, 1, .inr (.inl (vp_updL fo 0 r1.toInt64)))) :: F)) 28 dL_answer_8 (pc' := 9) rfl rfl (by omega) (by decide) rfl ?_
  refine yy_goto C (tgt := 18) dL_answer_9 (by decide) ?_
  refine yy_iconst C (v := (nI 0)) dL_answer_18 (pc' := 19) rfl (by decide) ?_
  subst hQ
  exact ye_i C hr (vp_nar_int _) ((gvS (sI S 17 (upd (S.2.1 17) u1 (nI 97))) (ix (S.2.1 15 u1)) (S.2.1 16 u1) (S.1 1)), vp_updL fo 0 r1.toInt64) dL_answer_19 rfl (by decide) (by decide) (Or.inl ⟨rfl, r1, u1, hw1, rfl⟩)

abbrev rL_withdraw : Room := { frames := 8, cells := 1, slots := 6, locals := 134 }
set_option maxHeartbeats 4000000 in
set_option maxRecDepth 100000 in
theorem mL_withdraw (l : Launch) (hl0 : l.stackTraces = false) (G : gG) (B0 : Nat) (ad : Nat → Nat) (F : va_W) (S : SA) (k : Int32) (hI : IA S) (o : Nat) (fo : Nat → Int64) : Met l yL_withdraw (Cond.codeWith yL_withdraw cL_withdraw 4 (some .int) [(0, 9, 12, 19), (0, 9, 15, 13)] :: WG) rL_withdraw (va_Pc [.ref (ad 0), .int k, .ref (o)] (PR G B0 (wA G ad S ++ ((o, .inl (G.2.2.1, 1, .inr (.inl fo))) :: F)))) (va_Qi (fun (r : Int32) (u : SA × (Nat → Int64)) => (r = nI 0 ∧ ∃ (v_ : Int32) (g : Nat), (cdAns (S.1 6) (S.2.1 17) k = 0 ∧ k = nI g ∧ g < S.1 6 ∧ v_ = nI (fb_ct (fun z => decide (upd (S.2.1 17) g (nI 120) z = nI 119)) (S.1 6))) ∧ u = ((sI S 17 (upd (S.2.1 17) g (nI 120))), vp_updL fo 0 v_.toInt64)) ∨ ∃ q : Nat, ¬ q = 0 ∧ r = nI q ∧ cdAns (S.1 6) (S.2.1 17) k = q ∧ u = (S, fo)) (fun (u : SA × (Nat → Int64)) (t_ : State) => va_P G.1 vwCl (wA G ad u.1 ++ ((o, .inl (G.2.2.1, 1, .inr (.inl u.2))) :: F)) t_.heap ∧ va_D (fun q => B0 ≤ q) (wA G ad u.1 ++ ((o, .inl (G.2.2.1, 1, .inr (.inl u.2))) :: F))) (fun q => B0 ≤ q)) rL_withdraw.cells rL_withdraw.slots (fun q => B0 ≤ q) := by
  refine metW_of RL [(0, .ref (ad 0)), (1, .int k), (2, .ref (o))] rfl (by decide) (Nat.le_of_ble_eq_true rfl) rfl ?_
  intro p e s m args below meth c C hr hnm ht
  refine yq ?_
  intro QQ hQ
  refine yy_aload_n C 2 dL_withdraw_0 (pc' := 1) rfl rfl rfl ?_
  refine yy_iconst C (v := (nI 0)) dL_withdraw_1 (pc' := 2) rfl (by decide) ?_
  refine yy_aload_n C 0 dL_withdraw_2 (pc' := 3) rfl rfl rfl ?_
  refine yy_iload_n C 1 dL_withdraw_3 (pc' := 4) rfl rfl rfl ?_
  refine xc_i (xr_V C (As := [.int k]) (rest := [.int (nI 0), .ref (o)]) lk_L_94 cd_X6_withdraw im_X6_withdraw se_X6_withdraw (mX6_withdraw l hl0 G B0 ad ((o, .inl (G.2.2.1, 1, .inr (.inl fo))) :: F) S k hI) ⟨by decide, by decide⟩ ⟨by decide, by decide⟩ 0 rfl rfl rfl rfl (Nat.le_of_ble_eq_true rfl) dL_withdraw_4) (pc' := 7) rfl (fun E _ hw1 => ?_) (fun r1 u1 hw1 => ?_)
  · skip
    rcases hw1 with ⟨rfl, hx_⟩ | ⟨rfl, hx_⟩
    · skip
      refine xe_catch C (name := "java/lang/IndexOutOfBoundsException") [] ⟨0, 9, 12, 19⟩ [⟨0, 9, 15, 13⟩] (ht.trans rfl) (fun z hz => by cases hz) rfl (by decide) cl_L_19 (by decide +kernel) (pc' := 12) rfl (fun ce_ => ?_)
      refine yy_astore_n C dL_withdraw_12 (pc' := 13) rfl rfl (by decide) rfl ?_
      refine yy_iconst C (v := (nI 1)) dL_withdraw_13 (pc' := 14) rfl (by decide) ?_
      subst hQ
      exact ye_i C hr (vp_nar_int _) (S, fo) dL_withdraw_14 rfl (by decide) (by decide) (Or.inr ⟨1, by decide, rfl, hx_, rfl⟩)
    · skip
      refine xe_catch C (name := "java/lang/IllegalStateException") [⟨0, 9, 12, 19⟩] ⟨0, 9, 15, 13⟩ [] (ht.trans rfl) (by
          intro z hz
          simp only [List.mem_cons, List.not_mem_nil, or_false] at hz
          rcases hz with rfl
          · exact Or.inr ⟨by decide, _, cl_L_19, by decide +kernel⟩) rfl (by decide) cl_L_13 (by decide +kernel) (pc' := 15) rfl (fun ce_ => ?_)
      refine yy_astore_n C dL_withdraw_15 (pc' := 16) rfl rfl (by decide) rfl ?_
      refine yy_iconst C (v := (nI 2)) dL_withdraw_16 (pc' := 17) rfl (by decide) ?_
      subst hQ
      exact ye_i C hr (vp_nar_int _) (S, fo) dL_withdraw_17 rfl (by decide) (by decide) (Or.inr ⟨2, by decide, rfl, hx_, rfl⟩)
    
  refine yy_i2l C (v := r1.toInt64) dL_withdraw_7 (pc' := 8) rfl rfl ?_
  refine yy_last C (w' := wA G ad (sI S 17 (upd (S.2.1 17) u1 (nI 120))) ++ ((o, .inl (G.2.2.1, 1, .inr (.inl (vp_updL fo 0 r1.toInt64)))) :: F)) 28 dL_withdraw_8 (pc' := 9) rfl rfl (by omega) (by decide) rfl ?_
  refine yy_goto C (tgt := 18) dL_withdraw_9 (by decide) ?_
  refine yy_iconst C (v := (nI 0)) dL_withdraw_18 (pc' := 19) rfl (by decide) ?_
  subst hQ
  exact ye_i C hr (vp_nar_int _) ((sI S 17 (upd (S.2.1 17) u1 (nI 120))), vp_updL fo 0 r1.toInt64) dL_withdraw_19 rfl (by decide) (by decide) (Or.inl ⟨rfl, r1, u1, hw1, rfl⟩)

abbrev rL_setPrice : Room := { frames := 7, cells := 1, slots := 6, locals := 114 }
set_option maxHeartbeats 4000000 in
set_option maxRecDepth 100000 in
theorem mL_setPrice (l : Launch) (hl0 : l.stackTraces = false) (G : gG) (B0 : Nat) (ad : Nat → Nat) (F : va_W) (S : SA) (z : Int32) (hI : IA S) (o : Nat) (fo : Nat → Int64) : Met l yL_setPrice (Cond.codeWith yL_setPrice cL_setPrice 4 (some .int) [(0, 9, 12, 21)] :: WG) rL_setPrice (va_Pc [.ref (ad 0), .int z, .ref (o)] (PR G B0 (wA G ad S ++ ((o, .inl (G.2.2.1, 1, .inr (.inl fo))) :: F)))) (va_Qi (fun (r : Int32) (u : SA × (Nat → Int64)) => (r = nI 0 ∧ ∃ (v_ : Int32) (g : Nat), (cdPrice z = 0 ∧ z = nI g ∧ g ≤ 99 ∧ v_ = nI (S.1 8)) ∧ u = ((sN S 8 g), vp_updL fo 0 v_.toInt64)) ∨ ∃ q : Nat, ¬ q = 0 ∧ r = nI q ∧ cdPrice z = q ∧ u = (S, fo)) (fun (u : SA × (Nat → Int64)) (t_ : State) => va_P G.1 vwCl (wA G ad u.1 ++ ((o, .inl (G.2.2.1, 1, .inr (.inl u.2))) :: F)) t_.heap ∧ va_D (fun q => B0 ≤ q) (wA G ad u.1 ++ ((o, .inl (G.2.2.1, 1, .inr (.inl u.2))) :: F))) (fun q => B0 ≤ q)) rL_setPrice.cells rL_setPrice.slots (fun q => B0 ≤ q) := by
  refine metW_of RL [(0, .ref (ad 0)), (1, .int z), (2, .ref (o))] rfl (by decide) (Nat.le_of_ble_eq_true rfl) rfl ?_
  intro p e s m args below meth c C hr hnm ht
  refine yq ?_
  intro QQ hQ
  refine yy_aload_n C 2 dL_setPrice_0 (pc' := 1) rfl rfl rfl ?_
  refine yy_iconst C (v := (nI 0)) dL_setPrice_1 (pc' := 2) rfl (by decide) ?_
  refine yy_aload_n C 0 dL_setPrice_2 (pc' := 3) rfl rfl rfl ?_
  refine yy_iload_n C 1 dL_setPrice_3 (pc' := 4) rfl rfl rfl ?_
  refine xc_i (xr_V C (As := [.int z]) (rest := [.int (nI 0), .ref (o)]) lk_L_97 cd_X6_setPrice im_X6_setPrice se_X6_setPrice (mX6_setPrice l hl0 G B0 ad ((o, .inl (G.2.2.1, 1, .inr (.inl fo))) :: F) S z hI) ⟨by decide, by decide⟩ ⟨by decide, by decide⟩ 0 rfl rfl rfl rfl (Nat.le_of_ble_eq_true rfl) dL_setPrice_4) (pc' := 7) rfl (fun E _ hw1 => ?_) (fun r1 u1 hw1 => ?_)
  · skip
    obtain ⟨rfl, hx_⟩ := hw1
    · skip
      refine xe_catch C (name := "java/lang/IllegalArgumentException") [] ⟨0, 9, 12, 21⟩ [] (ht.trans rfl) (fun z hz => by cases hz) rfl (by decide) cl_L_21 (by decide +kernel) (pc' := 12) rfl (fun ce_ => ?_)
      refine yy_astore_n C dL_setPrice_12 (pc' := 13) rfl rfl (by decide) rfl ?_
      refine yy_iconst C (v := (nI 1)) dL_setPrice_13 (pc' := 14) rfl (by decide) ?_
      subst hQ
      exact ye_i C hr (vp_nar_int _) (S, fo) dL_setPrice_14 rfl (by decide) (by decide) (Or.inr ⟨1, by decide, rfl, hx_, rfl⟩)
    
  refine yy_i2l C (v := r1.toInt64) dL_setPrice_7 (pc' := 8) rfl rfl ?_
  refine yy_last C (w' := wA G ad (sN S 8 u1) ++ ((o, .inl (G.2.2.1, 1, .inr (.inl (vp_updL fo 0 r1.toInt64)))) :: F)) 28 dL_setPrice_8 (pc' := 9) rfl rfl (by omega) (by decide) rfl ?_
  refine yy_goto C (tgt := 15) dL_setPrice_9 (by decide) ?_
  refine yy_iconst C (v := (nI 0)) dL_setPrice_15 (pc' := 16) rfl (by decide) ?_
  subst hQ
  exact ye_i C hr (vp_nar_int _) ((sN S 8 u1), vp_updL fo 0 r1.toInt64) dL_setPrice_16 rfl (by decide) (by decide) (Or.inl ⟨rfl, r1, u1, hw1, rfl⟩)

abbrev rL_owed : Room := { frames := 8, cells := 1, slots := 6, locals := 133 }
set_option maxHeartbeats 4000000 in
set_option maxRecDepth 100000 in
theorem mL_owed (l : Launch) (hl0 : l.stackTraces = false) (G : gG) (B0 : Nat) (ad : Nat → Nat) (F : va_W) (S : SA) (a : Int32) (hI : IA S) (o : Nat) (fo : Nat → Int64) : Met l yL_owed (Cond.codeWith yL_owed cL_owed 4 (some .int) [(0, 9, 12, 21)] :: WG) rL_owed (va_Pc [.ref (ad 0), .int a, .ref (o)] (PR G B0 (wA G ad S ++ ((o, .inl (G.2.2.1, 1, .inr (.inl fo))) :: F)))) (va_Qi (fun (r : Int32) (u : SA × (Nat → Int64)) => (r = nI 0 ∧ ∃ (v_ : Int32), (cd1 5 a = 0 ∧ v_ = S.2.1 0 (ix a)) ∧ u = (S, vp_updL fo 0 v_.toInt64)) ∨ ∃ q : Nat, ¬ q = 0 ∧ r = nI q ∧ cd1 5 a = q ∧ u = (S, fo)) (fun (u : SA × (Nat → Int64)) (t_ : State) => va_P G.1 vwCl (wA G ad u.1 ++ ((o, .inl (G.2.2.1, 1, .inr (.inl u.2))) :: F)) t_.heap ∧ va_D (fun q => B0 ≤ q) (wA G ad u.1 ++ ((o, .inl (G.2.2.1, 1, .inr (.inl u.2))) :: F))) (fun q => B0 ≤ q)) rL_owed.cells rL_owed.slots (fun q => B0 ≤ q) := by
  refine metW_of RL [(0, .ref (ad 0)), (1, .int a), (2, .ref (o))] rfl (by decide) (Nat.le_of_ble_eq_true rfl) rfl ?_
  intro p e s m args below meth c C hr hnm ht
  refine yq ?_
  intro QQ hQ
  refine yy_aload_n C 2 dL_owed_0 (pc' := 1) rfl rfl rfl ?_
  refine yy_iconst C (v := (nI 0)) dL_owed_1 (pc' := 2) rfl (by decide) ?_
  refine yy_aload_n C 0 dL_owed_2 (pc' := 3) rfl rfl rfl ?_
  refine yy_iload_n C 1 dL_owed_3 (pc' := 4) rfl rfl rfl ?_
  refine xc_i (xr_V C (As := [.int a]) (rest := [.int (nI 0), .ref (o)]) lk_L_100 cd_X6_owed im_X6_owed se_X6_owed (mX6_owed l hl0 G B0 ad ((o, .inl (G.2.2.1, 1, .inr (.inl fo))) :: F) S a hI) ⟨by decide, by decide⟩ ⟨by decide, by decide⟩ 0 rfl rfl rfl rfl (Nat.le_of_ble_eq_true rfl) dL_owed_4) (pc' := 7) rfl (fun E _ hw1 => ?_) (fun r1 _ hw1 => ?_)
  · skip
    obtain ⟨rfl, hx_⟩ := hw1
    · skip
      refine xe_catch C (name := "java/lang/IllegalArgumentException") [] ⟨0, 9, 12, 21⟩ [] (ht.trans rfl) (fun z hz => by cases hz) rfl (by decide) cl_L_21 (by decide +kernel) (pc' := 12) rfl (fun ce_ => ?_)
      refine yy_astore_n C dL_owed_12 (pc' := 13) rfl rfl (by decide) rfl ?_
      refine yy_iconst C (v := (nI 1)) dL_owed_13 (pc' := 14) rfl (by decide) ?_
      subst hQ
      exact ye_i C hr (vp_nar_int _) (S, fo) dL_owed_14 rfl (by decide) (by decide) (Or.inr ⟨1, by decide, rfl, hx_, rfl⟩)
    
  refine yy_i2l C (v := r1.toInt64) dL_owed_7 (pc' := 8) rfl rfl ?_
  refine yy_last C (w' := wA G ad S ++ ((o, .inl (G.2.2.1, 1, .inr (.inl (vp_updL fo 0 r1.toInt64)))) :: F)) 28 dL_owed_8 (pc' := 9) rfl rfl (by omega) (by decide) rfl ?_
  refine yy_goto C (tgt := 15) dL_owed_9 (by decide) ?_
  refine yy_iconst C (v := (nI 0)) dL_owed_15 (pc' := 16) rfl (by decide) ?_
  subst hQ
  exact ye_i C hr (vp_nar_int _) (S, vp_updL fo 0 r1.toInt64) dL_owed_16 rfl (by decide) (by decide) (Or.inl ⟨rfl, r1, hw1, rfl⟩)

abbrev rL_pay : Room := { frames := 8, cells := 1, slots := 6, locals := 134 }
set_option maxHeartbeats 4000000 in
set_option maxRecDepth 100000 in
theorem mL_pay (l : Launch) (hl0 : l.stackTraces = false) (G : gG) (B0 : Nat) (ad : Nat → Nat) (F : va_W) (S : SA) (a z : Int32) (hI : IA S) (o : Nat) (fo : Nat → Int64) : Met l yL_pay (Cond.codeWith yL_pay cL_pay 5 (some .int) [(0, 10, 13, 21)] :: WG) rL_pay (va_Pc [.ref (ad 0), .int a, .int z, .ref (o)] (PR G B0 (wA G ad S ++ ((o, .inl (G.2.2.1, 1, .inr (.inl fo))) :: F)))) (va_Qi (fun (r : Int32) (u : SA × (Nat → Int64)) => (r = nI 0 ∧ ∃ (v_ : Int32) (g : Nat), (cdPay (S.2.1 0) a z = 0 ∧ a = nI g ∧ g < 5 ∧ v_ = S.2.1 0 g - z) ∧ u = ((sI S 0 (upd (S.2.1 0) g (S.2.1 0 g - z))), vp_updL fo 0 v_.toInt64)) ∨ ∃ q : Nat, ¬ q = 0 ∧ r = nI q ∧ cdPay (S.2.1 0) a z = q ∧ u = (S, fo)) (fun (u : SA × (Nat → Int64)) (t_ : State) => va_P G.1 vwCl (wA G ad u.1 ++ ((o, .inl (G.2.2.1, 1, .inr (.inl u.2))) :: F)) t_.heap ∧ va_D (fun q => B0 ≤ q) (wA G ad u.1 ++ ((o, .inl (G.2.2.1, 1, .inr (.inl u.2))) :: F))) (fun q => B0 ≤ q)) rL_pay.cells rL_pay.slots (fun q => B0 ≤ q) := by
  refine metW_of RL [(0, .ref (ad 0)), (1, .int a), (2, .int z), (3, .ref (o))] rfl (by decide) (Nat.le_of_ble_eq_true rfl) rfl ?_
  intro p e s m args below meth c C hr hnm ht
  refine yq ?_
  intro QQ hQ
  refine yy_aload_n C 3 dL_pay_0 (pc' := 1) rfl rfl rfl ?_
  refine yy_iconst C (v := (nI 0)) dL_pay_1 (pc' := 2) rfl (by decide) ?_
  refine yy_aload_n C 0 dL_pay_2 (pc' := 3) rfl rfl rfl ?_
  refine yy_iload_n C 1 dL_pay_3 (pc' := 4) rfl rfl rfl ?_
  refine yy_iload_n C 2 dL_pay_4 (pc' := 5) rfl rfl rfl ?_
  refine xc_i (xr_V C (As := [.int a, .int z]) (rest := [.int (nI 0), .ref (o)]) lk_L_103 cd_X6_pay im_X6_pay se_X6_pay (mX6_pay l hl0 G B0 ad ((o, .inl (G.2.2.1, 1, .inr (.inl fo))) :: F) S a z hI) ⟨by decide, by decide⟩ ⟨by decide, by decide⟩ 0 rfl rfl rfl rfl (Nat.le_of_ble_eq_true rfl) dL_pay_5) (pc' := 8) rfl (fun E _ hw1 => ?_) (fun r1 u1 hw1 => ?_)
  · skip
    obtain ⟨rfl, hx_⟩ := hw1
    · skip
      refine xe_catch C (name := "java/lang/IllegalArgumentException") [] ⟨0, 10, 13, 21⟩ [] (ht.trans rfl) (fun z hz => by cases hz) rfl (by decide) cl_L_21 (by decide +kernel) (pc' := 13) rfl (fun ce_ => ?_)
      refine yy_astore C dL_pay_13 (pc' := 15) rfl (by decide) rfl ?_
      refine yy_iconst C (v := (nI 1)) dL_pay_15 (pc' := 16) rfl (by decide) ?_
      subst hQ
      exact ye_i C hr (vp_nar_int _) (S, fo) dL_pay_16 rfl (by decide) (by decide) (Or.inr ⟨1, by decide, rfl, hx_, rfl⟩)
    
  refine yy_i2l C (v := r1.toInt64) dL_pay_8 (pc' := 9) rfl rfl ?_
  refine yy_last C (w' := wA G ad (sI S 0 (upd (S.2.1 0) u1 (S.2.1 0 u1 - z))) ++ ((o, .inl (G.2.2.1, 1, .inr (.inl (vp_updL fo 0 r1.toInt64)))) :: F)) 28 dL_pay_9 (pc' := 10) rfl rfl (by omega) (by decide) rfl ?_
  refine yy_goto C (tgt := 17) dL_pay_10 (by decide) ?_
  refine yy_iconst C (v := (nI 0)) dL_pay_17 (pc' := 18) rfl (by decide) ?_
  subst hQ
  exact ye_i C hr (vp_nar_int _) ((sI S 0 (upd (S.2.1 0) u1 (S.2.1 0 u1 - z))), vp_updL fo 0 r1.toInt64) dL_pay_18 rfl (by decide) (by decide) (Or.inl ⟨rfl, r1, u1, hw1, rfl⟩)

abbrev rL_pass : Room := { frames := 7, cells := 1, slots := 6, locals := 114 }
set_option maxHeartbeats 4000000 in
set_option maxRecDepth 100000 in
theorem mL_pass (l : Launch) (hl0 : l.stackTraces = false) (G : gG) (B0 : Nat) (ad : Nat → Nat) (F : va_W) (S : SA) (z : Int32) (hI : IA S) (o : Nat) (fo : Nat → Int64) : Met l yL_pass (Cond.codeWith yL_pass cL_pass 4 (some .int) [(0, 9, 12, 21)] :: WG) rL_pass (va_Pc [.ref (ad 0), .int z, .ref (o)] (PR G B0 (wA G ad S ++ ((o, .inl (G.2.2.1, 1, .inr (.inl fo))) :: F)))) (va_Qi (fun (r : Int32) (u : SA × (Nat → Int64)) => (r = nI 0 ∧ ∃ (v_ : Int32) (g : Nat), (cdPass (S.1 7) z = 0 ∧ z = nI g ∧ (1 ≤ g ∧ g ≤ 90 ∧ S.1 7 + g ≤ 9999) ∧ v_ = nI (lateC (S.1 6) (S.2.1 17) (S.2.1 18) (S.1 7 + g)) - nI (lateC (S.1 6) (S.2.1 17) (S.2.1 18) (S.1 7))) ∧ u = ((sN S 7 (S.1 7 + g)), vp_updL fo 0 v_.toInt64)) ∨ ∃ q : Nat, ¬ q = 0 ∧ r = nI q ∧ cdPass (S.1 7) z = q ∧ u = (S, fo)) (fun (u : SA × (Nat → Int64)) (t_ : State) => va_P G.1 vwCl (wA G ad u.1 ++ ((o, .inl (G.2.2.1, 1, .inr (.inl u.2))) :: F)) t_.heap ∧ va_D (fun q => B0 ≤ q) (wA G ad u.1 ++ ((o, .inl (G.2.2.1, 1, .inr (.inl u.2))) :: F))) (fun q => B0 ≤ q)) rL_pass.cells rL_pass.slots (fun q => B0 ≤ q) := by
  refine metW_of RL [(0, .ref (ad 0)), (1, .int z), (2, .ref (o))] rfl (by decide) (Nat.le_of_ble_eq_true rfl) rfl ?_
  intro p e s m args below meth c C hr hnm ht
  refine yq ?_
  intro QQ hQ
  refine yy_aload_n C 2 dL_pass_0 (pc' := 1) rfl rfl rfl ?_
  refine yy_iconst C (v := (nI 0)) dL_pass_1 (pc' := 2) rfl (by decide) ?_
  refine yy_aload_n C 0 dL_pass_2 (pc' := 3) rfl rfl rfl ?_
  refine yy_iload_n C 1 dL_pass_3 (pc' := 4) rfl rfl rfl ?_
  refine xc_i (xr_V C (As := [.int z]) (rest := [.int (nI 0), .ref (o)]) lk_L_106 cd_X6_pass im_X6_pass se_X6_pass (mX6_pass l hl0 G B0 ad ((o, .inl (G.2.2.1, 1, .inr (.inl fo))) :: F) S z hI) ⟨by decide, by decide⟩ ⟨by decide, by decide⟩ 0 rfl rfl rfl rfl (Nat.le_of_ble_eq_true rfl) dL_pass_4) (pc' := 7) rfl (fun E _ hw1 => ?_) (fun r1 u1 hw1 => ?_)
  · skip
    obtain ⟨rfl, hx_⟩ := hw1
    · skip
      refine xe_catch C (name := "java/lang/IllegalArgumentException") [] ⟨0, 9, 12, 21⟩ [] (ht.trans rfl) (fun z hz => by cases hz) rfl (by decide) cl_L_21 (by decide +kernel) (pc' := 12) rfl (fun ce_ => ?_)
      refine yy_astore_n C dL_pass_12 (pc' := 13) rfl rfl (by decide) rfl ?_
      refine yy_iconst C (v := (nI 1)) dL_pass_13 (pc' := 14) rfl (by decide) ?_
      subst hQ
      exact ye_i C hr (vp_nar_int _) (S, fo) dL_pass_14 rfl (by decide) (by decide) (Or.inr ⟨1, by decide, rfl, hx_, rfl⟩)
    
  refine yy_i2l C (v := r1.toInt64) dL_pass_7 (pc' := 8) rfl rfl ?_
  refine yy_last C (w' := wA G ad (sN S 7 (S.1 7 + u1)) ++ ((o, .inl (G.2.2.1, 1, .inr (.inl (vp_updL fo 0 r1.toInt64)))) :: F)) 28 dL_pass_8 (pc' := 9) rfl rfl (by omega) (by decide) rfl ?_
  refine yy_goto C (tgt := 15) dL_pass_9 (by decide) ?_
  refine yy_iconst C (v := (nI 0)) dL_pass_15 (pc' := 16) rfl (by decide) ?_
  subst hQ
  exact ye_i C hr (vp_nar_int _) ((sN S 7 (S.1 7 + u1)), vp_updL fo 0 r1.toInt64) dL_pass_16 rfl (by decide) (by decide) (Or.inl ⟨rfl, r1, u1, hw1, rfl⟩)

abbrev rL_answeredShare : Room := { frames := 7, cells := 1, slots := 6, locals := 113 }
set_option maxHeartbeats 4000000 in
set_option maxRecDepth 100000 in
theorem mL_answeredShare (l : Launch) (hl0 : l.stackTraces = false) (G : gG) (B0 : Nat) (ad : Nat → Nat) (F : va_W) (S : SA) (hI : IA S) (o : Nat) (fo : Nat → UInt64) : Met l yL_answeredShare (Cond.codeWith yL_answeredShare cL_answeredShare 3 (some .int) [(0, 8, 11, 77)] :: WG) rL_answeredShare (va_Pc [.ref (ad 0), .ref (o)] (PR G B0 (wA G ad S ++ ((o, .inl (G.2.2.2.2.2, 1, .inr (.inr (.inr (.inl fo))))) :: F)))) (va_Qi (fun (r : Int32) (u : SA × (Nat → UInt64)) => (r = nI 0 ∧ ∃ (v_ : UInt32), (cdShare (S.1 6) = 0 ∧ v_ = shareF (fb_ct (fun k => decide (S.2.1 17 k = nI 97)) (S.1 6)) (S.1 6)) ∧ u = (S, vf_upd fo 0 (FP.f2d v_))) ∨ ∃ q : Nat, ¬ q = 0 ∧ r = nI q ∧ cdShare (S.1 6) = q ∧ u = (S, fo)) (fun (u : SA × (Nat → UInt64)) (t_ : State) => va_P G.1 vwCl (wA G ad u.1 ++ ((o, .inl (G.2.2.2.2.2, 1, .inr (.inr (.inr (.inl u.2))))) :: F)) t_.heap ∧ va_D (fun q => B0 ≤ q) (wA G ad u.1 ++ ((o, .inl (G.2.2.2.2.2, 1, .inr (.inr (.inr (.inl u.2))))) :: F))) (fun q => B0 ≤ q)) rL_answeredShare.cells rL_answeredShare.slots (fun q => B0 ≤ q) := by
  refine metW_of RL [(0, .ref (ad 0)), (1, .ref (o))] rfl (by decide) (Nat.le_of_ble_eq_true rfl) rfl ?_
  intro p e s m args below meth c C hr hnm ht
  refine yq ?_
  intro QQ hQ
  refine yy_aload_n C 1 dL_answeredShare_0 (pc' := 1) rfl rfl rfl ?_
  refine yy_iconst C (v := (nI 0)) dL_answeredShare_1 (pc' := 2) rfl (by decide) ?_
  refine yy_aload_n C 0 dL_answeredShare_2 (pc' := 3) rfl rfl rfl ?_
  refine xc_f (xr_V C (As := []) (rest := [.int (nI 0), .ref (o)]) lk_L_109 cd_X6_answeredShare im_X6_answeredShare se_X6_answeredShare (mX6_answeredShare l hl0 G B0 ad ((o, .inl (G.2.2.2.2.2, 1, .inr (.inr (.inr (.inl fo))))) :: F) S hI) ⟨by decide, by decide⟩ ⟨by decide, by decide⟩ 0 rfl rfl rfl rfl (Nat.le_of_ble_eq_true rfl) dL_answeredShare_3) (pc' := 6) rfl (fun E _ hw1 => ?_) (fun r1 _ hw1 => ?_)
  · skip
    obtain ⟨rfl, hx_⟩ := hw1
    · skip
      refine xe_catch C (name := "java/util/NoSuchElementException") [] ⟨0, 8, 11, 77⟩ [] (ht.trans rfl) (fun z hz => by cases hz) rfl (by decide) cl_L_77 (by decide +kernel) (pc' := 11) rfl (fun ce_ => ?_)
      refine yy_astore_n C dL_answeredShare_11 (pc' := 12) rfl rfl (by decide) rfl ?_
      refine yy_iconst C (v := (nI 1)) dL_answeredShare_12 (pc' := 13) rfl (by decide) ?_
      subst hQ
      exact ye_i C hr (vp_nar_int _) (S, fo) dL_answeredShare_13 rfl (by decide) (by decide) (Or.inr ⟨1, by decide, rfl, hx_, rfl⟩)
    
  have hnd := share_d hI hw1
  refine yy_f2d C dL_answeredShare_6 (pc' := 7) rfl hnd ?_
  refine yy_dast C (w' := wA G ad S ++ ((o, .inl (G.2.2.2.2.2, 1, .inr (.inr (.inr (.inl (vf_upd fo 0 (FP.f2d r1))))))) :: F)) 28 dL_answeredShare_7 (pc' := 8) rfl rfl (by omega) (by decide) rfl ?_
  refine yy_goto C (tgt := 14) dL_answeredShare_8 (by decide) ?_
  refine yy_iconst C (v := (nI 0)) dL_answeredShare_14 (pc' := 15) rfl (by decide) ?_
  subst hQ
  exact ye_i C hr (vp_nar_int _) (S, vf_upd fo 0 (FP.f2d r1)) dL_answeredShare_15 rfl (by decide) (by decide) (Or.inl ⟨rfl, r1, hw1, rfl⟩)
