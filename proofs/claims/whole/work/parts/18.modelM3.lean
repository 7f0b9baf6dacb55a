abbrev rX7_addDocument : Room := { frames := 1, cells := 0, slots := 0, locals := 21 }
set_option maxHeartbeats 4000000 in
set_option maxRecDepth 100000 in
theorem mX7_addDocument (l : Launch) (G : gG) (B0 : Nat) (bd : Nat → Nat) (F : va_W) (M : SM) (hM : IM M) : Met l yX7_addDocument (Cond.code yX7_addDocument cX7_addDocument 1 (some .int) :: WG) rX7_addDocument (va_Pc [.ref (bd 0)] (PR G B0 (wM G bd M ++ F))) (va_Qi (fun (r : Int32) (u : SM) => ∃ q : Nat, q = cdAddDoc (M.1 1) ∧ ((q = 0 ∧ u = mN (mN M 0 q) 1 (M.1 1 + 1) ∧ r = nI (M.1 1)) ∨ (¬ q = 0 ∧ u = mN M 0 q))) (fun (u : SM) (t_ : State) => va_P G.1 vwCl (wM G bd u ++ F) t_.heap ∧ va_D (fun q => B0 ≤ q) (wM G bd u ++ F)) (fun q => B0 ≤ q)) rX7_addDocument.cells rX7_addDocument.slots (fun q => B0 ≤ q) := by
  refine met_of RX7 [(0, .ref (bd 0))] rfl (by decide) (Nat.le_of_ble_eq_true rfl) rfl ?_
  intro p e s m args below meth c C hr hnm
  refine yq ?_
  intro QQ hQ
  obtain ⟨j1, j2, j3, j4, j5, j6, j7, j8, jJ, jQ⟩ := id hM
  refine yy_aload_n C 0 dX7_addDocument_0 (pc' := 1) rfl rfl rfl ?_
  refine yy_get C (v := .int (nI (M.1 1))) fk_X7_82 0 dX7_addDocument_1 (pc' := 4) rfl rfl rfl ?_
  refine yy_bipush C (v := (nI 8)) dX7_addDocument_4 (pc' := 6) rfl (by decide) ?_
  refine yn_icmp_ne C (by omega) (by decide) dX7_addDocument_6 (pc' := 9) rfl (tgt := 15) (by decide) (fun c_6 => ?_) (fun c_6 => ?_)
  · skip
    refine yy_aload_n C 0 dX7_addDocument_15 (pc' := 16) rfl rfl rfl ?_
    refine yy_iconst C (v := (nI 0)) dX7_addDocument_16 (pc' := 17) rfl (by decide) ?_
    refine yy_put C (w' := wM G bd (mN M 0 0) ++ F) fk_X7_79 fpW7 rfl 0 dX7_addDocument_17 (pc' := 20) rfl rfl rfl rfl (Nat.le_of_ble_eq_true rfl) rfl ?_
    refine yy_aload_n C 0 dX7_addDocument_20 (pc' := 21) rfl rfl rfl ?_
    refine yy_dup C dX7_addDocument_21 (pc' := 22) rfl rfl ?_
    refine yy_get C (v := .int (nI (M.1 1))) fk_X7_82 0 dX7_addDocument_22 (pc' := 25) rfl rfl rfl ?_
    refine yy_dup_x1 C dX7_addDocument_25 (pc' := 26) rfl rfl rfl ?_
    refine yy_iconst C (v := (nI 1)) dX7_addDocument_26 (pc' := 27) rfl (by decide) ?_
    refine yy_iadd C (v := (nI ((M.1 1) + 1))) dX7_addDocument_27 (pc' := 28) rfl (nI_add (M.1 1) 1) ?_
    refine yy_put C (w' := wM G bd (mN (mN M 0 0) 1 ((M.1 1) + 1)) ++ F) fk_X7_82 fpW7 rfl 0 dX7_addDocument_28 (pc' := 31) rfl rfl rfl rfl (Nat.le_of_ble_eq_true rfl) rfl ?_
    subst hQ
    exact ye_i C hr (vp_nar_int _) (mN (mN M 0 0) 1 ((M.1 1) + 1)) dX7_addDocument_31 rfl (by decide) (by decide) ⟨0, by simp [cd1, cdAddDoc, c_6], Or.inl ⟨rfl, rfl, rfl⟩⟩
  · skip
    refine yy_aload_n C 0 dX7_addDocument_9 (pc' := 10) rfl rfl rfl ?_
    refine yy_iconst C (v := (nI 1)) dX7_addDocument_10 (pc' := 11) rfl (by decide) ?_
    refine yc_i (yr_V C (As := [.int (nI 1)]) (rest := []) lk_X7_92 cd_X7_refuse im_X7_refuse se_X7_refuse (mX7_refuse l G B0 bd F (M) 1) ⟨by decide, by decide⟩ ⟨by decide, by decide⟩ 0 rfl rfl rfl rfl (Nat.le_of_ble_eq_true rfl) dX7_addDocument_11) (pc' := 14) rfl (fun r1 _ hw1 => ?_)
    subst hw1
    subst hQ
    exact ye_i C hr (vp_nar_int _) (mN M 0 1) dX7_addDocument_14 rfl (by decide) (by decide) ⟨1, by simp [cd1, cdAddDoc, c_6], Or.inr ⟨(by decide), rfl⟩⟩

abbrev rX7_addLine : Room := { frames := 2, cells := 0, slots := 0, locals := 43 }
set_option maxHeartbeats 4000000 in
set_option maxRecDepth 100000 in
theorem mX7_addLine (l : Launch) (G : gG) (B0 : Nat) (bd : Nat → Nat) (F : va_W) (M : SM) (d v : Int32) (hM : IM M) : Met l yX7_addLine (Cond.code yX7_addLine cX7_addLine 3 (some .int) :: WG) rX7_addLine (va_Pc [.ref (bd 0), .int d, .int v] (PR G B0 (wM G bd M ++ F))) (va_Qi (fun (r : Int32) (u : SM) => ∃ q : Nat, q = cdAddLine (M.1 1) (M.1 2) d v ∧ ((q = 0 ∧ u = mN (mN (mI (mI M 0 (upd (M.2 0) (M.1 2) d)) 1 (upd (M.2 1) (M.1 2) v)) 0 q) 2 (M.1 2 + 1) ∧ r = nI (M.1 2)) ∨ (¬ q = 0 ∧ u = mN M 0 q))) (fun (u : SM) (t_ : State) => va_P G.1 vwCl (wM G bd u ++ F) t_.heap ∧ va_D (fun q => B0 ≤ q) (wM G bd u ++ F)) (fun q => B0 ≤ q)) rX7_addLine.cells rX7_addLine.slots (fun q => B0 ≤ q) := by
  refine met_of RX7 [(0, .ref (bd 0)), (1, .int d), (2, .int v)] rfl (by decide) (Nat.le_of_ble_eq_true rfl) rfl ?_
  intro p e s m args below meth c C hr hnm
  refine yq ?_
  intro QQ hQ
  obtain ⟨j1, j2, j3, j4, j5, j6, j7, j8, jJ, jQ⟩ := id hM
  refine yy_aload_n C 0 dX7_addLine_0 (pc' := 1) rfl rfl rfl ?_
  refine yy_iload_n C 1 dX7_addLine_1 (pc' := 2) rfl rfl rfl ?_
  refine yc_i (yr_V C (As := [.int d]) (rest := []) lk_X7_96 cd_X7_noDocument im_X7_noDocument se_X7_noDocument (mX7_noDocument l G B0 bd F (M) d (by exact hM)) ⟨by decide, by decide⟩ ⟨by decide, by decide⟩ 0 rfl rfl rfl rfl (Nat.le_of_ble_eq_true rfl) dX7_addLine_2) (pc' := 5) rfl (fun r1 _ hw1 => ?_)
  subst hw1
  refine yb_if_eq C dX7_addLine_5 (pc' := 8) rfl (tgt := 10) (by decide) (fun c_5 => ?_) (fun c_5 => ?_)
  · skip
    have zn1 : inR d (M.1 1) = true := by simpa [mN, va_up] using c_5
    refine yy_iload_n C 2 dX7_addLine_10 (pc' := 11) rfl rfl rfl ?_
    refine yy_iconst C (v := (nI 0)) dX7_addLine_11 (pc' := 12) rfl (by decide) ?_
    refine yy_sipush C (v := (nI 9999)) dX7_addLine_12 (pc' := 15) rfl (by decide) ?_
    refine yc_i (yr_S C (As := [.int v, .int (nI 0), .int (nI 9999)]) (rest := []) lk_X7_85 cd_X7_isIn st_X7_isIn (mX7_isIn l G B0 (wM G bd (mN M 0 (cd1 (M.1 1) d)) ++ F) v (nI 0) (nI 9999)) ⟨by decide, by decide⟩ ⟨by decide, by decide⟩ rfl rfl (Nat.le_of_ble_eq_true rfl) dX7_addLine_15) (pc' := 18) rfl (fun r2 _ hw2 => ?_)
    subst hw2
    refine yb_if_ne C dX7_addLine_18 (pc' := 21) rfl (tgt := 27) (by decide) (fun c_18 => ?_) (fun c_18 => ?_)
    · skip
      have zn2 : vOK v = true := by simp only [vOK, ← nI_0]; exact c_18
      refine yy_aload_n C 0 dX7_addLine_27 (pc' := 28) rfl rfl rfl ?_
      refine yy_get C (v := .int (nI (M.1 2))) fk_X7_89 0 dX7_addLine_28 (pc' := 31) rfl rfl rfl ?_
      refine yy_bipush C (v := (nI 40)) dX7_addLine_31 (pc' := 33) rfl (by decide) ?_
      refine yn_icmp_ne C (by omega) (by decide) dX7_addLine_33 (pc' := 36) rfl (tgt := 42) (by decide) (fun c_33 => ?_) (fun c_33 => ?_)
      · skip
        refine yy_aload_n C 0 dX7_addLine_42 (pc' := 43) rfl rfl rfl ?_
        refine yy_get C (v := .ref (bd 1)) fk_X7_13 0 dX7_addLine_43 (pc' := 46) rfl rfl rfl ?_
        refine yy_aload_n C 0 dX7_addLine_46 (pc' := 47) rfl rfl rfl ?_
        refine yy_get C (v := .int (nI (M.1 2))) fk_X7_89 0 dX7_addLine_47 (pc' := 50) rfl rfl rfl ?_
        refine yy_iload_n C 1 dX7_addLine_50 (pc' := 51) rfl rfl rfl ?_
        refine yy_iast C (w' := wM G bd (mN (mI M 0 (upd (M.2 0) (M.1 2) d)) 0 (cd1 (M.1 1) d)) ++ F) 1 dX7_addLine_51 (pc' := 52) rfl rfl (by omega) (by decide) rfl ?_
        refine yy_aload_n C 0 dX7_addLine_52 (pc' := 53) rfl rfl rfl ?_
        refine yy_get C (v := .ref (bd 2)) fk_X7_17 0 dX7_addLine_53 (pc' := 56) rfl rfl rfl ?_
        refine yy_aload_n C 0 dX7_addLine_56 (pc' := 57) rfl rfl rfl ?_
        refine yy_get C (v := .int (nI (M.1 2))) fk_X7_89 0 dX7_addLine_57 (pc' := 60) rfl rfl rfl ?_
        refine yy_iload_n C 2 dX7_addLine_60 (pc' := 61) rfl rfl rfl ?_
        refine yy_iast C (w' := wM G bd (mN (mI (mI M 0 (upd (M.2 0) (M.1 2) d)) 1 (upd (M.2 1) (M.1 2) v)) 0 (cd1 (M.1 1) d)) ++ F) 2 dX7_addLine_61 (pc' := 62) rfl rfl (by omega) (by decide) rfl ?_
        refine yy_aload_n C 0 dX7_addLine_62 (pc' := 63) rfl rfl rfl ?_
        refine yy_dup C dX7_addLine_63 (pc' := 64) rfl rfl ?_
        refine yy_get C (v := .int (nI (M.1 2))) fk_X7_89 0 dX7_addLine_64 (pc' := 67) rfl rfl rfl ?_
        refine yy_dup_x1 C dX7_addLine_67 (pc' := 68) rfl rfl rfl ?_
        refine yy_iconst C (v := (nI 1)) dX7_addLine_68 (pc' := 69) rfl (by decide) ?_
        refine yy_iadd C (v := (nI ((M.1 2) + 1))) dX7_addLine_69 (pc' := 70) rfl (nI_add (M.1 2) 1) ?_
        refine yy_put C (w' := wM G bd (mN (mN (mI (mI M 0 (upd (M.2 0) (M.1 2) d)) 1 (upd (M.2 1) (M.1 2) v)) 0 (cd1 (M.1 1) d)) 2 ((M.1 2) + 1)) ++ F) fk_X7_89 fpW7 rfl 0 dX7_addLine_70 (pc' := 73) rfl rfl rfl rfl (Nat.le_of_ble_eq_true rfl) rfl ?_
        subst hQ
        exact ye_i C hr (vp_nar_int _) (mN (mN (mI (mI M 0 (upd (M.2 0) (M.1 2) d)) 1 (upd (M.2 1) (M.1 2) v)) 0 (cd1 (M.1 1) d)) 2 ((M.1 2) + 1)) dX7_addLine_73 rfl (by decide) (by decide) ⟨(cd1 (M.1 1) d), by simp [cd1, cdAddLine, zn1, zn2, c_33], Or.inl ⟨(by simp [cd1, zn1, zn2, c_33]), rfl, rfl⟩⟩
      · skip
        refine yy_aload_n C 0 dX7_addLine_36 (pc' := 37) rfl rfl rfl ?_
        refine yy_iconst C (v := (nI 3)) dX7_addLine_37 (pc' := 38) rfl (by decide) ?_
        refine yc_i (yr_V C (As := [.int (nI 3)]) (rest := []) lk_X7_92 cd_X7_refuse im_X7_refuse se_X7_refuse (mX7_refuse l G B0 bd F (mN M 0 (cd1 (M.1 1) d)) 3) ⟨by decide, by decide⟩ ⟨by decide, by decide⟩ 0 rfl rfl rfl rfl (Nat.le_of_ble_eq_true rfl) dX7_addLine_38) (pc' := 41) rfl (fun r3 _ hw3 => ?_)
        subst hw3
        subst hQ
        exact ye_i C hr (vp_nar_int _) (mN M 0 3) dX7_addLine_41 rfl (by decide) (by decide) ⟨3, by simp [cd1, cdAddLine, zn1, zn2, c_33], Or.inr ⟨(by decide), rfl⟩⟩
    · skip
      have zn2 : vOK v = false := by simp only [vOK, ← nI_0]; exact c_18
      refine yy_aload_n C 0 dX7_addLine_21 (pc' := 22) rfl rfl rfl ?_
      refine yy_iconst C (v := (nI 2)) dX7_addLine_22 (pc' := 23) rfl (by decide) ?_
      refine yc_i (yr_V C (As := [.int (nI 2)]) (rest := []) lk_X7_92 cd_X7_refuse im_X7_refuse se_X7_refuse (mX7_refuse l G B0 bd F (mN M 0 (cd1 (M.1 1) d)) 2) ⟨by decide, by decide⟩ ⟨by decide, by decide⟩ 0 rfl rfl rfl rfl (Nat.le_of_ble_eq_true rfl) dX7_addLine_23) (pc' := 26) rfl (fun r3 _ hw3 => ?_)
      subst hw3
      subst hQ
      exact ye_i C hr (vp_nar_int _) (mN M 0 2) dX7_addLine_26 rfl (by decide) (by decide) ⟨2, by simp [cd1, cdAddLine, zn1, zn2], Or.inr ⟨(by decide), rfl⟩⟩
  · skip
    have zn1 : inR d (M.1 1) = false := by simpa [mN, va_up] using c_5
    refine yy_iconst C (v := (nI 0)) dX7_addLine_8 (pc' := 9) rfl (by decide) ?_
    subst hQ
    exact ye_i C hr (vp_nar_int _) (mN M 0 (cd1 (M.1 1) d)) dX7_addLine_9 rfl (by decide) (by decide) ⟨(cd1 (M.1 1) d), by simp [cd1, cdAddLine, zn1], Or.inr ⟨(by simp [cd1, zn1]), rfl⟩⟩

abbrev rX7_rescan : Room := { frames := 2, cells := 0, slots := 0, locals := 43 }
set_option maxHeartbeats 4000000 in
set_option maxRecDepth 100000 in
theorem mX7_rescan (l : Launch) (G : gG) (B0 : Nat) (bd : Nat → Nat) (F : va_W) (M : SM) (x v : Int32) (hM : IM M) : Met l yX7_rescan (Cond.code yX7_rescan cX7_rescan 4 (some .int) :: WG) rX7_rescan (va_Pc [.ref (bd 0), .int x, .int v] (PR G B0 (wM G bd M ++ F))) (va_Qi (fun (r : Int32) (u : SM) => ∃ q : Nat, q = cdRescan (M.1 2) x v ∧ ((q = 0 ∧ ∃ j, x = nI j ∧ j < M.1 2 ∧ u = mN (mI M 1 (upd (M.2 1) j v)) 0 q ∧ r = M.2 1 j) ∨ (¬ q = 0 ∧ u = mN M 0 q))) (fun (u : SM) (t_ : State) => va_P G.1 vwCl (wM G bd u ++ F) t_.heap ∧ va_D (fun q => B0 ≤ q) (wM G bd u ++ F)) (fun q => B0 ≤ q)) rX7_rescan.cells rX7_rescan.slots (fun q => B0 ≤ q) := by
  refine met_of RX7 [(0, .ref (bd 0)), (1, .int x), (2, .int v)] rfl (by decide) (Nat.le_of_ble_eq_true rfl) rfl ?_
  intro p e s m args below meth c C hr hnm
  refine yq ?_
  intro QQ hQ
  obtain ⟨j1, j2, j3, j4, j5, j6, j7, j8, jJ, jQ⟩ := id hM
  refine yy_aload_n C 0 dX7_rescan_0 (pc' := 1) rfl rfl rfl ?_
  refine yy_iload_n C 1 dX7_rescan_1 (pc' := 2) rfl rfl rfl ?_
  refine yc_i (yr_V C (As := [.int x]) (rest := []) lk_X7_100 cd_X7_noLine im_X7_noLine se_X7_noLine (mX7_noLine l G B0 bd F (M) x (by exact hM)) ⟨by decide, by decide⟩ ⟨by decide, by decide⟩ 0 rfl rfl rfl rfl (Nat.le_of_ble_eq_true rfl) dX7_rescan_2) (pc' := 5) rfl (fun r1 _ hw1 => ?_)
  subst hw1
  refine yb_if_eq C dX7_rescan_5 (pc' := 8) rfl (tgt := 10) (by decide) (fun c_5 => ?_) (fun c_5 => ?_)
  · skip
    have zn1 : inR x (M.1 2) = true := by simpa [mN, va_up] using c_5
    obtain ⟨jx, hjx, rfl⟩ := inR_of (by omega) zn1
    have ejx : ix (nI jx) = jx := ix_lt hjx (by omega)
    refine yy_iload_n C 2 dX7_rescan_10 (pc' := 11) rfl rfl rfl ?_
    refine yy_iconst C (v := (nI 0)) dX7_rescan_11 (pc' := 12) rfl (by decide) ?_
    refine yy_sipush C (v := (nI 9999)) dX7_rescan_12 (pc' := 15) rfl (by decide) ?_
    refine yc_i (yr_S C (As := [.int v, .int (nI 0), .int (nI 9999)]) (rest := []) lk_X7_85 cd_X7_isIn st_X7_isIn (mX7_isIn l G B0 (wM G bd (mN M 0 (cd1 (M.1 2) (nI jx))) ++ F) v (nI 0) (nI 9999)) ⟨by decide, by decide⟩ ⟨by decide, by decide⟩ rfl rfl (Nat.le_of_ble_eq_true rfl) dX7_rescan_15) (pc' := 18) rfl (fun r2 _ hw2 => ?_)
    subst hw2
    refine yb_if_ne C dX7_rescan_18 (pc' := 21) rfl (tgt := 27) (by decide) (fun c_18 => ?_) (fun c_18 => ?_)
    · skip
      have zn2 : vOK v = true := by simp only [vOK, ← nI_0]; exact c_18
      refine yy_aload_n C 0 dX7_rescan_27 (pc' := 28) rfl rfl rfl ?_
      refine yy_get C (v := .ref (bd 2)) fk_X7_17 0 dX7_rescan_28 (pc' := 31) rfl rfl rfl ?_
      refine yy_iload_n C 1 dX7_rescan_31 (pc' := 32) rfl rfl rfl ?_
      refine yy_iald C 2 dX7_rescan_32 (pc' := 33) rfl rfl (by omega) (by decide) ?_
      refine yy_istore_n C (L' := [(3, .int ((M.2 1) jx)), (0, .ref (bd 0)), (1, .int (nI jx)), (2, .int v)]) dX7_rescan_33 (pc' := 34) rfl rfl (by decide) rfl ?_
      refine yy_aload_n C 1 dX7_rescan_34 (pc' := 35) rfl rfl rfl ?_
      refine yy_get C (v := .ref (bd 2)) fk_X7_17 0 dX7_rescan_35 (pc' := 38) rfl rfl rfl ?_
      refine yy_iload_n C 2 dX7_rescan_38 (pc' := 39) rfl rfl rfl ?_
      refine yy_iload_n C 3 dX7_rescan_39 (pc' := 40) rfl rfl rfl ?_
      refine yy_iast C (w' := wM G bd (mN (mI M 1 (upd (M.2 1) jx v)) 0 (cd1 (M.1 2) (nI jx))) ++ F) 2 dX7_rescan_40 (pc' := 41) rfl rfl (by omega) (by decide) rfl ?_
      refine yy_iload_n C 0 dX7_rescan_41 (pc' := 42) rfl rfl rfl ?_
      subst hQ
      exact ye_i C hr (vp_nar_int _) (mN (mI M 1 (upd (M.2 1) jx v)) 0 (cd1 (M.1 2) (nI jx))) dX7_rescan_42 rfl (by decide) (by decide) ⟨(cd1 (M.1 2) (nI jx)), by simp [cd1, cdRescan, zn1, ejx, zn2], Or.inl ⟨(by simp [cd1, zn1, ejx, zn2]), jx, rfl, hjx, rfl, rfl⟩⟩
    · skip
      have zn2 : vOK v = false := by simp only [vOK, ← nI_0]; exact c_18
      refine yy_aload_n C 0 dX7_rescan_21 (pc' := 22) rfl rfl rfl ?_
      refine yy_iconst C (v := (nI 2)) dX7_rescan_22 (pc' := 23) rfl (by decide) ?_
      refine yc_i (yr_V C (As := [.int (nI 2)]) (rest := []) lk_X7_92 cd_X7_refuse im_X7_refuse se_X7_refuse (mX7_refuse l G B0 bd F (mN M 0 (cd1 (M.1 2) (nI jx))) 2) ⟨by decide, by decide⟩ ⟨by decide, by decide⟩ 0 rfl rfl rfl rfl (Nat.le_of_ble_eq_true rfl) dX7_rescan_23) (pc' := 26) rfl (fun r3 _ hw3 => ?_)
      subst hw3
      subst hQ
      exact ye_i C hr (vp_nar_int _) (mN M 0 2) dX7_rescan_26 rfl (by decide) (by decide) ⟨2, by simp [cd1, cdRescan, zn1, ejx, zn2], Or.inr ⟨(by decide), rfl⟩⟩
  · skip
    have zn1 : inR x (M.1 2) = false := by simpa [mN, va_up] using c_5
    refine yy_iconst C (v := (nI 0)) dX7_rescan_8 (pc' := 9) rfl (by decide) ?_
    subst hQ
    exact ye_i C hr (vp_nar_int _) (mN M 0 (cd1 (M.1 2) x)) dX7_rescan_9 rfl (by decide) (by decide) ⟨(cd1 (M.1 2) x), by simp [cd1, cdRescan, zn1], Or.inr ⟨(by simp [cd1, zn1]), rfl⟩⟩

abbrev rX7_documentOf : Room := { frames := 2, cells := 0, slots := 0, locals := 43 }
set_option maxHeartbeats 4000000 in
set_option maxRecDepth 100000 in
theorem mX7_documentOf (l : Launch) (G : gG) (B0 : Nat) (bd : Nat → Nat) (F : va_W) (M : SM) (x : Int32) (hM : IM M) : Met l yX7_documentOf (Cond.code yX7_documentOf cX7_documentOf 2 (some .int) :: WG) rX7_documentOf (va_Pc [.ref (bd 0), .int x] (PR G B0 (wM G bd M ++ F))) (va_Qi (fun (r : Int32) (u : SM) => ∃ q : Nat, q = cd1 (M.1 2) x ∧ ((q = 0 ∧ ∃ j, x = nI j ∧ j < M.1 2 ∧ u = mN M 0 q ∧ r = M.2 0 j) ∨ (¬ q = 0 ∧ u = mN M 0 q))) (fun (u : SM) (t_ : State) => va_P G.1 vwCl (wM G bd u ++ F) t_.heap ∧ va_D (fun q => B0 ≤ q) (wM G bd u ++ F)) (fun q => B0 ≤ q)) rX7_documentOf.cells rX7_documentOf.slots (fun q => B0 ≤ q) := by
  refine met_of RX7 [(0, .ref (bd 0)), (1, .int x)] rfl (by decide) (Nat.le_of_ble_eq_true rfl) rfl ?_
  intro p e s m args below meth c C hr hnm
  refine yq ?_
  intro QQ hQ
  obtain ⟨j1, j2, j3, j4, j5, j6, j7, j8, jJ, jQ⟩ := id hM
  refine yy_aload_n C 0 dX7_documentOf_0 (pc' := 1) rfl rfl rfl ?_
  refine yy_iload_n C 1 dX7_documentOf_1 (pc' := 2) rfl rfl rfl ?_
  refine yc_i (yr_V C (As := [.int x]) (rest := []) lk_X7_100 cd_X7_noLine im_X7_noLine se_X7_noLine (mX7_noLine l G B0 bd F (M) x (by exact hM)) ⟨by decide, by decide⟩ ⟨by decide, by decide⟩ 0 rfl rfl rfl rfl (Nat.le_of_ble_eq_true rfl) dX7_documentOf_2) (pc' := 5) rfl (fun r1 _ hw1 => ?_)
  subst hw1
  refine yb_if_eq C dX7_documentOf_5 (pc' := 8) rfl (tgt := 12) (by decide) (fun c_5 => ?_) (fun c_5 => ?_)
  · skip
    have zn1 : inR x (M.1 2) = true := by simpa [mN, va_up] using c_5
    obtain ⟨jx, hjx, rfl⟩ := inR_of (by omega) zn1
    have ejx : ix (nI jx) = jx := ix_lt hjx (by omega)
    refine yy_aload_n C 0 dX7_documentOf_12 (pc' := 13) rfl rfl rfl ?_
    refine yy_get C (v := .ref (bd 1)) fk_X7_13 0 dX7_documentOf_13 (pc' := 16) rfl rfl rfl ?_
    refine yy_iload_n C 1 dX7_documentOf_16 (pc' := 17) rfl rfl rfl ?_
    refine yy_iald C 1 dX7_documentOf_17 (pc' := 18) rfl rfl (by omega) (by decide) ?_
    subst hQ
    exact ye_i C hr (vp_nar_int _) (mN M 0 (cd1 (M.1 2) (nI jx))) dX7_documentOf_18 rfl (by decide) (by decide) ⟨(cd1 (M.1 2) (nI jx)), by simp [cd1, cd1, zn1, ejx], Or.inl ⟨(by simp [cd1, zn1, ejx]), jx, rfl, hjx, rfl, rfl⟩⟩
  · skip
    have zn1 : inR x (M.1 2) = false := by simpa [mN, va_up] using c_5
    refine yy_iconst C (v := (nI 0)) dX7_documentOf_8 (pc' := 9) rfl (by decide) ?_
    refine yy_goto C (tgt := 18) dX7_documentOf_9 (by decide) ?_
    subst hQ
    exact ye_i C hr (vp_nar_int _) (mN M 0 (cd1 (M.1 2) x)) dX7_documentOf_18 rfl (by decide) (by decide) ⟨(cd1 (M.1 2) x), by simp [cd1, cd1, zn1], Or.inr ⟨(by simp [cd1, zn1]), rfl⟩⟩

abbrev rX7_indexOf : Room := { frames := 2, cells := 0, slots := 0, locals := 43 }
set_option maxHeartbeats 4000000 in
set_option maxRecDepth 100000 in
theorem mX7_indexOf (l : Launch) (G : gG) (B0 : Nat) (bd : Nat → Nat) (F : va_W) (M : SM) (x : Int32) (hM : IM M) : Met l yX7_indexOf (Cond.code yX7_indexOf cX7_indexOf 2 (some .int) :: WG) rX7_indexOf (va_Pc [.ref (bd 0), .int x] (PR G B0 (wM G bd M ++ F))) (va_Qi (fun (r : Int32) (u : SM) => ∃ q : Nat, q = cd1 (M.1 2) x ∧ ((q = 0 ∧ ∃ j, x = nI j ∧ j < M.1 2 ∧ u = mN M 0 q ∧ r = nI (idxN (M.2 0) j)) ∨ (¬ q = 0 ∧ u = mN M 0 q))) (fun (u : SM) (t_ : State) => va_P G.1 vwCl (wM G bd u ++ F) t_.heap ∧ va_D (fun q => B0 ≤ q) (wM G bd u ++ F)) (fun q => B0 ≤ q)) rX7_indexOf.cells rX7_indexOf.slots (fun q => B0 ≤ q) := by
  refine met_of RX7 [(0, .ref (bd 0)), (1, .int x)] rfl (by decide) (Nat.le_of_ble_eq_true rfl) rfl ?_
  intro p e s m args below meth c C hr hnm
  refine yq ?_
  intro QQ hQ
  obtain ⟨j1, j2, j3, j4, j5, j6, j7, j8, jJ, jQ⟩ := id hM
  refine yy_aload_n C 0 dX7_indexOf_0 (pc' := 1) rfl rfl rfl ?_
  refine yy_iload_n C 1 dX7_indexOf_1 (pc' := 2) rfl rfl rfl ?_
  refine yc_i (yr_V C (As := [.int x]) (rest := []) lk_X7_100 cd_X7_noLine im_X7_noLine se_X7_noLine (mX7_noLine l G B0 bd F (M) x (by exact hM)) ⟨by decide, by decide⟩ ⟨by decide, by decide⟩ 0 rfl rfl rfl rfl (Nat.le_of_ble_eq_true rfl) dX7_indexOf_2) (pc' := 5) rfl (fun r1 _ hw1 => ?_)
  subst hw1
  refine yb_if_eq C dX7_indexOf_5 (pc' := 8) rfl (tgt := 12) (by decide) (fun c_5 => ?_) (fun c_5 => ?_)
  · skip
    have zn1 : inR x (M.1 2) = true := by simpa [mN, va_up] using c_5
    obtain ⟨jx, hjx, rfl⟩ := inR_of (by omega) zn1
    have ejx : ix (nI jx) = jx := ix_lt hjx (by omega)
    refine yy_aload_n C 0 dX7_indexOf_12 (pc' := 13) rfl rfl rfl ?_
    refine yy_iload_n C 1 dX7_indexOf_13 (pc' := 14) rfl rfl rfl ?_
    refine yc_i (yr_V C (As := [.int (nI jx)]) (rest := []) lk_X7_103 cd_X7_index im_X7_index se_X7_index (mX7_index l G B0 bd F (mN M 0 (cd1 (M.1 2) (nI jx))) jx (by omega) (by exact hM)) ⟨by decide, by decide⟩ ⟨by decide, by decide⟩ 0 rfl rfl rfl rfl (Nat.le_of_ble_eq_true rfl) dX7_indexOf_14) (pc' := 17) rfl (fun r2 _ hw2 => ?_)
    subst hw2
    subst hQ
    exact ye_i C hr (vp_nar_int _) (mN M 0 (cd1 (M.1 2) (nI jx))) dX7_indexOf_17 rfl (by decide) (by decide) ⟨(cd1 (M.1 2) (nI jx)), by simp [cd1, cd1, zn1, ejx], Or.inl ⟨(by simp [cd1, zn1, ejx]), jx, rfl, hjx, rfl, rfl⟩⟩
  · skip
    have zn1 : inR x (M.1 2) = false := by simpa [mN, va_up] using c_5
    refine yy_iconst C (v := (nI 0)) dX7_indexOf_8 (pc' := 9) rfl (by decide) ?_
    refine yy_goto C (tgt := 17) dX7_indexOf_9 (by decide) ?_
    subst hQ
    exact ye_i C hr (vp_nar_int _) (mN M 0 (cd1 (M.1 2) x)) dX7_indexOf_17 rfl (by decide) (by decide) ⟨(cd1 (M.1 2) x), by simp [cd1, cd1, zn1], Or.inr ⟨(by simp [cd1, zn1]), rfl⟩⟩

abbrev rX7_lines : Room := { frames := 2, cells := 0, slots := 0, locals := 43 }
set_option maxHeartbeats 4000000 in
set_option maxRecDepth 100000 in
theorem mX7_lines (l : Launch) (G : gG) (B0 : Nat) (bd : Nat → Nat) (F : va_W) (M : SM) (d : Int32) (hM : IM M) : Met l yX7_lines (Cond.code yX7_lines cX7_lines 4 (some .int) :: WG) rX7_lines (va_Pc [.ref (bd 0), .int d] (PR G B0 (wM G bd M ++ F))) (va_Qi (fun (r : Int32) (u : SM) => ∃ q : Nat, q = cd1 (M.1 1) d ∧ ((q = 0 ∧ ∃ j, d = nI j ∧ j < M.1 1 ∧ u = mN M 0 q ∧ r = nI (fb_ct (fun k => decide (M.2 0 k = nI j)) (M.1 2))) ∨ (¬ q = 0 ∧ u = mN M 0 q))) (fun (u : SM) (t_ : State) => va_P G.1 vwCl (wM G bd u ++ F) t_.heap ∧ va_D (fun q => B0 ≤ q) (wM G bd u ++ F)) (fun q => B0 ≤ q)) rX7_lines.cells rX7_lines.slots (fun q => B0 ≤ q) := by
  refine met_of RX7 [(0, .ref (bd 0)), (1, .int d)] rfl (by decide) (Nat.le_of_ble_eq_true rfl) rfl ?_
  intro p e s m args below meth c C hr hnm
  refine yq ?_
  intro QQ hQ
  obtain ⟨j1, j2, j3, j4, j5, j6, j7, j8, jJ, jQ⟩ := id hM
  refine yy_aload_n C 0 dX7_lines_0 (pc' := 1) rfl rfl rfl ?_
  refine yy_iload_n C 1 dX7_lines_1 (pc' := 2) rfl rfl rfl ?_
  refine yc_i (yr_V C (As := [.int d]) (rest := []) lk_X7_96 cd_X7_noDocument im_X7_noDocument se_X7_noDocument (mX7_noDocument l G B0 bd F (M) d (by exact hM)) ⟨by decide, by decide⟩ ⟨by decide, by decide⟩ 0 rfl rfl rfl rfl (Nat.le_of_ble_eq_true rfl) dX7_lines_2) (pc' := 5) rfl (fun r1 _ hw1 => ?_)
  subst hw1
  refine yb_if_eq C dX7_lines_5 (pc' := 8) rfl (tgt := 10) (by decide) (fun c_5 => ?_) (fun c_5 => ?_)
  · skip
    have zn1 : inR d (M.1 1) = true := by simpa [mN, va_up] using c_5
    obtain ⟨jd, hjd, rfl⟩ := inR_of (by omega) zn1
    have ejd : ix (nI jd) = jd := ix_lt hjd (by omega)
    refine yy_iconst C (v := (nI 0)) dX7_lines_10 (pc' := 11) rfl (by decide) ?_
    refine yy_istore_n C (L' := [(2, .int (nI 0)), (0, .ref (bd 0)), (1, .int (nI jd))]) dX7_lines_11 (pc' := 12) rfl rfl (by decide) rfl ?_
    refine yy_iconst C (v := (nI 0)) dX7_lines_12 (pc' := 13) rfl (by decide) ?_
    refine yy_istore_n C (L' := [(3, .int (nI 0)), (2, .int (nI 0)), (0, .ref (bd 0)), (1, .int (nI jd))]) dX7_lines_13 (pc' := 14) rfl rfl (by decide) rfl ?_
    have lp_14 : ∀ (f_ : Nat) (i : Nat), (hi : i ≤ M.1 2) → M.1 2 - i < f_ → YY p l e rX7_lines s m args below meth c G B0 4 QQ 14 [(2, .int (nI (fb_ct (fun k => decide (M.2 0 k = nI jd)) i))), (3, .int (nI i)), (0, .ref (bd 0)), (1, .int (nI jd))] [] (wM G bd (mN M 0 (cd1 (M.1 1) (nI jd))) ++ F) 0 0 := by
      intro f_
      induction f_ with
      | zero => intro i hi hf_; exact absurd hf_ (Nat.not_lt_zero _)
      | succ f_ ih =>
        intro i hi hf_
        refine yy_iload_n C 1 dX7_lines_14 (pc' := 15) rfl rfl rfl ?_
        refine yy_aload_n C 2 dX7_lines_15 (pc' := 16) rfl rfl rfl ?_
        refine yy_get C (v := .int (nI (M.1 2))) fk_X7_89 0 dX7_lines_16 (pc' := 19) rfl rfl rfl ?_
        refine yn_icmp_ge C (by omega) (by omega) dX7_lines_19 (pc' := 22) rfl (tgt := 46) (by decide) (fun c_19 => ?_) (fun c_19 => ?_)
        · skip
          refine yy_iload_n C 0 dX7_lines_46 (pc' := 47) rfl rfl rfl ?_
          subst hQ
          exact ye_i C hr (vp_nar_int _) (mN M 0 (cd1 (M.1 1) (nI jd))) dX7_lines_47 rfl (by decide) (by decide) ⟨(cd1 (M.1 1) (nI jd)), by simp [cd1, cd1, zn1, ejd], Or.inl ⟨(by simp [cd1, zn1, ejd]), jd, rfl, hjd, rfl, by rw [show i = M.1 2 by omega]⟩⟩
        · skip
          refine yy_iload_n C 0 dX7_lines_22 (pc' := 23) rfl rfl rfl ?_
          refine yy_aload_n C 2 dX7_lines_23 (pc' := 24) rfl rfl rfl ?_
          refine yy_get C (v := .ref (bd 1)) fk_X7_13 0 dX7_lines_24 (pc' := 27) rfl rfl rfl ?_
          refine yy_iload_n C 1 dX7_lines_27 (pc' := 28) rfl rfl rfl ?_
          refine yy_iald C 1 dX7_lines_28 (pc' := 29) rfl rfl (by omega) (by decide) ?_
          refine yy_iload_n C 3 dX7_lines_29 (pc' := 30) rfl rfl rfl ?_
          refine yy_icmp_ne C dX7_lines_30 (pc' := 33) rfl (tgt := 37) (by decide) (fun c_30 => ?_) (fun c_30 => ?_)
          · skip
            refine yy_iconst C (v := (nI 0)) dX7_lines_37 (pc' := 38) rfl (by decide) ?_
            refine yy_iadd C (v := (nI (fb_ct (fun k => decide (M.2 0 k = nI jd)) i))) dX7_lines_38 (pc' := 39) rfl (nI_add (fb_ct (fun k => decide (M.2 0 k = nI jd)) i) 0) ?_
            refine yy_istore_n C (L' := [(2, .int (nI (fb_ct (fun k => decide (M.2 0 k = nI jd)) i))), (3, .int (nI i)), (0, .ref (bd 0)), (1, .int (nI jd))]) dX7_lines_39 (pc' := 40) rfl rfl (by decide) rfl ?_
            refine yy_iinc C (v := (nI (i + 1))) (L' := [(3, .int (nI (i + 1))), (2, .int (nI (fb_ct (fun k => decide (M.2 0 k = nI jd)) i))), (0, .ref (bd 0)), (1, .int (nI jd))]) 1 dX7_lines_40 (pc' := 43) rfl rfl (nI_add i 1) (by decide) rfl ?_
            refine yy_goto C (tgt := 14) dX7_lines_43 (by decide) ?_
            rw [← ct_f (p := (fun k => decide (M.2 0 k = nI jd))) (i := i) (by simpa [mN, mI, va_up] using c_30)]
            refine yy_loc [1, 0, 2, 3] rfl ?_
            exact ih (i + 1) (by omega) (by omega)
          · skip
            refine yy_iconst C (v := (nI 1)) dX7_lines_33 (pc' := 34) rfl (by decide) ?_
            refine yy_goto C (tgt := 38) dX7_lines_34 (by decide) ?_
            refine yy_iadd C (v := (nI ((fb_ct (fun k => decide (M.2 0 k = nI jd)) i) + 1))) dX7_lines_38 (pc' := 39) rfl (nI_add (fb_ct (fun k => decide (M.2 0 k = nI jd)) i) 1) ?_
            refine yy_istore_n C (L' := [(2, .int (nI ((fb_ct (fun k => decide (M.2 0 k = nI jd)) i) + 1))), (3, .int (nI i)), (0, .ref (bd 0)), (1, .int (nI jd))]) dX7_lines_39 (pc' := 40) rfl rfl (by decide) rfl ?_
            refine yy_iinc C (v := (nI (i + 1))) (L' := [(3, .int (nI (i + 1))), (2, .int (nI ((fb_ct (fun k => decide (M.2 0 k = nI jd)) i) + 1))), (0, .ref (bd 0)), (1, .int (nI jd))]) 1 dX7_lines_40 (pc' := 43) rfl rfl (nI_add i 1) (by decide) rfl ?_
            refine yy_goto C (tgt := 14) dX7_lines_43 (by decide) ?_
            rw [← ct_t (p := (fun k => decide (M.2 0 k = nI jd))) (i := i) (by simpa [mN, mI, va_up] using c_30)]
            refine yy_loc [1, 0, 2, 3] rfl ?_
            exact ih (i + 1) (by omega) (by omega)
    refine yy_loc (L' := [(2, .int (nI 0)), (3, .int (nI 0)), (0, .ref (bd 0)), (1, .int (nI jd))]) [1, 0, 2, 3] rfl ?_
    exact lp_14 (M.1 2 - 0 + 1) 0 (Nat.zero_le _) (Nat.lt_succ_self _)
  · skip
    have zn1 : inR d (M.1 1) = false := by simpa [mN, va_up] using c_5
    refine yy_iconst C (v := (nI 0)) dX7_lines_8 (pc' := 9) rfl (by decide) ?_
    subst hQ
    exact ye_i C hr (vp_nar_int _) (mN M 0 (cd1 (M.1 1) d)) dX7_lines_9 rfl (by decide) (by decide) ⟨(cd1 (M.1 1) d), by simp [cd1, cd1, zn1], Or.inr ⟨(by simp [cd1, zn1]), rfl⟩⟩

abbrev rX7_addRule : Room := { frames := 1, cells := 0, slots := 0, locals := 22 }
set_option maxHeartbeats 4000000 in
set_option maxRecDepth 100000 in
theorem mX7_addRule (l : Launch) (G : gG) (B0 : Nat) (bd : Nat → Nat) (F : va_W) (M : SM) (f g t : Int32) (hM : IM M) : Met l yX7_addRule (Cond.code yX7_addRule cX7_addRule 4 (some .int) :: WG) rX7_addRule (va_Pc [.ref (bd 0), .int f, .int g, .int t] (PR G B0 (wM G bd M ++ F))) (va_Qi (fun (r : Int32) (u : SM) => ∃ q : Nat, q = cdAddRule (M.1 3) (M.1 8) f g t ∧ ((q = 0 ∧ u = mN (mN (mI (mI (mI M 2 (upd (M.2 2) (M.1 3) f)) 3 (upd (M.2 3) (M.1 3) g)) 4 (upd (M.2 4) (M.1 3) t)) 0 q) 3 (M.1 3 + 1) ∧ r = nI (M.1 3)) ∨ (¬ q = 0 ∧ u = mN M 0 q))) (fun (u : SM) (t_ : State) => va_P G.1 vwCl (wM G bd u ++ F) t_.heap ∧ va_D (fun q => B0 ≤ q) (wM G bd u ++ F)) (fun q => B0 ≤ q)) rX7_addRule.cells rX7_addRule.slots (fun q => B0 ≤ q) := by
  refine met_of RX7 [(0, .ref (bd 0)), (1, .int f), (2, .int g), (3, .int t)] rfl (by decide) (Nat.le_of_ble_eq_true rfl) rfl ?_
  intro p e s m args below meth c C hr hnm
  refine yq ?_
  intro QQ hQ
  obtain ⟨j1, j2, j3, j4, j5, j6, j7, j8, jJ, jQ⟩ := id hM
  refine yy_iload_n C 1 dX7_addRule_0 (pc' := 1) rfl rfl rfl ?_
  refine yy_iconst C (v := (nI 0)) dX7_addRule_1 (pc' := 2) rfl (by decide) ?_
  refine yy_sipush C (v := (nI 9999)) dX7_addRule_2 (pc' := 5) rfl (by decide) ?_
  refine yc_i (yr_S C (As := [.int f, .int (nI 0), .int (nI 9999)]) (rest := []) lk_X7_85 cd_X7_isIn st_X7_isIn (mX7_isIn l G B0 (wM G bd M ++ F) f (nI 0) (nI 9999)) ⟨by decide, by decide⟩ ⟨by decide, by decide⟩ rfl rfl (Nat.le_of_ble_eq_true rfl) dX7_addRule_5) (pc' := 8) rfl (fun r1 _ hw1 => ?_)
  subst hw1
  refine yb_if_eq C dX7_addRule_8 (pc' := 11) rfl (tgt := 36) (by decide) (fun c_8 => ?_) (fun c_8 => ?_)
  · skip
    have zn1 : vOK f = false := by simp only [vOK, ← nI_0]; exact c_8
    refine yy_aload_n C 0 dX7_addRule_36 (pc' := 37) rfl rfl rfl ?_
    refine yy_iconst C (v := (nI 1)) dX7_addRule_37 (pc' := 38) rfl (by decide) ?_
    refine yc_i (yr_V C (As := [.int (nI 1)]) (rest := []) lk_X7_92 cd_X7_refuse im_X7_refuse se_X7_refuse (mX7_refuse l G B0 bd F (M) 1) ⟨by decide, by decide⟩ ⟨by decide, by decide⟩ 0 rfl rfl rfl rfl (Nat.le_of_ble_eq_true rfl) dX7_addRule_38) (pc' := 41) rfl (fun r2 _ hw2 => ?_)
    subst hw2
    subst hQ
    exact ye_i C hr (vp_nar_int _) (mN M 0 1) dX7_addRule_41 rfl (by decide) (by decide) ⟨1, by simp [cd1, cdAddRule, zn1], Or.inr ⟨(by decide), rfl⟩⟩
  · skip
    have zn1 : vOK f = true := by simp only [vOK, ← nI_0]; exact c_8
    refine yy_iload_n C 2 dX7_addRule_11 (pc' := 12) rfl rfl rfl ?_
    refine yy_iload_n C 1 dX7_addRule_12 (pc' := 13) rfl rfl rfl ?_
    refine yy_sipush C (v := (nI 9999)) dX7_addRule_13 (pc' := 16) rfl (by decide) ?_
    refine yc_i (yr_S C (As := [.int g, .int f, .int (nI 9999)]) (rest := []) lk_X7_85 cd_X7_isIn st_X7_isIn (mX7_isIn l G B0 (wM G bd M ++ F) g f (nI 9999)) ⟨by decide, by decide⟩ ⟨by decide, by decide⟩ rfl rfl (Nat.le_of_ble_eq_true rfl) dX7_addRule_16) (pc' := 19) rfl (fun r2 _ hw2 => ?_)
    subst hw2
    refine yb_if_eq C dX7_addRule_19 (pc' := 22) rfl (tgt := 36) (by decide) (fun c_19 => ?_) (fun c_19 => ?_)
    · skip
      have zn2 : inB g f (nI 9999) = false := by exact c_19
      refine yy_aload_n C 0 dX7_addRule_36 (pc' := 37) rfl rfl rfl ?_
      refine yy_iconst C (v := (nI 1)) dX7_addRule_37 (pc' := 38) rfl (by decide) ?_
      refine yc_i (yr_V C (As := [.int (nI 1)]) (rest := []) lk_X7_92 cd_X7_refuse im_X7_refuse se_X7_refuse (mX7_refuse l G B0 bd F (M) 1) ⟨by decide, by decide⟩ ⟨by decide, by decide⟩ 0 rfl rfl rfl rfl (Nat.le_of_ble_eq_true rfl) dX7_addRule_38) (pc' := 41) rfl (fun r3 _ hw3 => ?_)
      subst hw3
      subst hQ
      exact ye_i C hr (vp_nar_int _) (mN M 0 1) dX7_addRule_41 rfl (by decide) (by decide) ⟨1, by simp [cd1, cdAddRule, zn1, zn2], Or.inr ⟨(by decide), rfl⟩⟩
    · skip
      have zn2 : inB g f (nI 9999) = true := by exact c_19
      refine yy_iload_n C 3 dX7_addRule_22 (pc' := 23) rfl rfl rfl ?_
      refine yy_aload_n C 0 dX7_addRule_23 (pc' := 24) rfl rfl rfl ?_
      refine yy_get C (v := .int (nI (M.1 8))) fk_X7_106 0 dX7_addRule_24 (pc' := 27) rfl rfl rfl ?_
      refine yy_sipush C (v := (nI 9999)) dX7_addRule_27 (pc' := 30) rfl (by decide) ?_
      refine yc_i (yr_S C (As := [.int t, .int (nI (M.1 8)), .int (nI 9999)]) (rest := []) lk_X7_85 cd_X7_isIn st_X7_isIn (mX7_isIn l G B0 (wM G bd M ++ F) t (nI (M.1 8)) (nI 9999)) ⟨by decide, by decide⟩ ⟨by decide, by decide⟩ rfl rfl (Nat.le_of_ble_eq_true rfl) dX7_addRule_30) (pc' := 33) rfl (fun r3 _ hw3 => ?_)
      subst hw3
      refine yb_if_ne C dX7_addRule_33 (pc' := 36) rfl (tgt := 42) (by decide) (fun c_33 => ?_) (fun c_33 => ?_)
      · skip
        have zn3 : inB t (nI (M.1 8)) (nI 9999) = true := by exact c_33
        refine yy_aload_n C 0 dX7_addRule_42 (pc' := 43) rfl rfl rfl ?_
        refine yy_get C (v := .int (nI (M.1 3))) fk_X7_109 0 dX7_addRule_43 (pc' := 46) rfl rfl rfl ?_
        refine yy_bipush C (v := (nI 8)) dX7_addRule_46 (pc' := 48) rfl (by decide) ?_
        refine yn_icmp_ne C (by omega) (by decide) dX7_addRule_48 (pc' := 51) rfl (tgt := 57) (by decide) (fun c_48 => ?_) (fun c_48 => ?_)
        · skip
          refine yy_aload_n C 0 dX7_addRule_57 (pc' := 58) rfl rfl rfl ?_
          refine yy_iconst C (v := (nI 0)) dX7_addRule_58 (pc' := 59) rfl (by decide) ?_
          refine yy_put C (w' := wM G bd (mN M 0 0) ++ F) fk_X7_79 fpW7 rfl 0 dX7_addRule_59 (pc' := 62) rfl rfl rfl rfl (Nat.le_of_ble_eq_true rfl) rfl ?_
          refine yy_aload_n C 0 dX7_addRule_62 (pc' := 63) rfl rfl rfl ?_
          refine yy_get C (v := .ref (bd 3)) fk_X7_20 0 dX7_addRule_63 (pc' := 66) rfl rfl rfl ?_
          refine yy_aload_n C 0 dX7_addRule_66 (pc' := 67) rfl rfl rfl ?_
          refine yy_get C (v := .int (nI (M.1 3))) fk_X7_109 0 dX7_addRule_67 (pc' := 70) rfl rfl rfl ?_
          refine yy_iload_n C 1 dX7_addRule_70 (pc' := 71) rfl rfl rfl ?_
          refine yy_iast C (w' := wM G bd (mN (mI M 2 (upd (M.2 2) (M.1 3) f)) 0 0) ++ F) 3 dX7_addRule_71 (pc' := 72) rfl rfl (by omega) (by decide) rfl ?_
          refine yy_aload_n C 0 dX7_addRule_72 (pc' := 73) rfl rfl rfl ?_
          refine yy_get C (v := .ref (bd 4)) fk_X7_23 0 dX7_addRule_73 (pc' := 76) rfl rfl rfl ?_
          refine yy_aload_n C 0 dX7_addRule_76 (pc' := 77) rfl rfl rfl ?_
          refine yy_get C (v := .int (nI (M.1 3))) fk_X7_109 0 dX7_addRule_77 (pc' := 80) rfl rfl rfl ?_
          refine yy_iload_n C 2 dX7_addRule_80 (pc' := 81) rfl rfl rfl ?_
          refine yy_iast C (w' := wM G bd (mN (mI (mI M 2 (upd (M.2 2) (M.1 3) f)) 3 (upd (M.2 3) (M.1 3) g)) 0 0) ++ F) 4 dX7_addRule_81 (pc' := 82) rfl rfl (by omega) (by decide) rfl ?_
          refine yy_aload_n C 0 dX7_addRule_82 (pc' := 83) rfl rfl rfl ?_
          refine yy_get C (v := .ref (bd 5)) fk_X7_26 0 dX7_addRule_83 (pc' := 86) rfl rfl rfl ?_
          refine yy_aload_n C 0 dX7_addRule_86 (pc' := 87) rfl rfl rfl ?_
          refine yy_get C (v := .int (nI (M.1 3))) fk_X7_109 0 dX7_addRule_87 (pc' := 90) rfl rfl rfl ?_
          refine yy_iload_n C 3 dX7_addRule_90 (pc' := 91) rfl rfl rfl ?_
          refine yy_iast C (w' := wM G bd (mN (mI (mI (mI M 2 (upd (M.2 2) (M.1 3) f)) 3 (upd (M.2 3) (M.1 3) g)) 4 (upd (M.2 4) (M.1 3) t)) 0 0) ++ F) 5 dX7_addRule_91 (pc' := 92) rfl rfl (by omega) (by decide) rfl ?_
          refine yy_aload_n C 0 dX7_addRule_92 (pc' := 93) rfl rfl rfl ?_
          refine yy_dup C dX7_addRule_93 (pc' := 94) rfl rfl ?_
          refine yy_get C (v := .int (nI (M.1 3))) fk_X7_109 0 dX7_addRule_94 (pc' := 97) rfl rfl rfl ?_
          refine yy_dup_x1 C dX7_addRule_97 (pc' := 98) rfl rfl rfl ?_
          refine yy_iconst C (v := (nI 1)) dX7_addRule_98 (pc' := 99) rfl (by decide) ?_
          refine yy_iadd C (v := (nI ((M.1 3) + 1))) dX7_addRule_99 (pc' := 100) rfl (nI_add (M.1 3) 1) ?_
          refine yy_put C (w' := wM G bd (mN (mN (mI (mI (mI M 2 (upd (M.2 2) (M.1 3) f)) 3 (upd (M.2 3) (M.1 3) g)) 4 (upd (M.2 4) (M.1 3) t)) 0 0) 3 ((M.1 3) + 1)) ++ F) fk_X7_109 fpW7 rfl 0 dX7_addRule_100 (pc' := 103) rfl rfl rfl rfl (Nat.le_of_ble_eq_true rfl) rfl ?_
          subst hQ
          exact ye_i C hr (vp_nar_int _) (mN (mN (mI (mI (mI M 2 (upd (M.2 2) (M.1 3) f)) 3 (upd (M.2 3) (M.1 3) g)) 4 (upd (M.2 4) (M.1 3) t)) 0 0) 3 ((M.1 3) + 1)) dX7_addRule_103 rfl (by decide) (by decide) ⟨0, by simp [cd1, cdAddRule, zn1, zn2, zn3, c_48], Or.inl ⟨rfl, rfl, rfl⟩⟩
        · skip
          refine yy_aload_n C 0 dX7_addRule_51 (pc' := 52) rfl rfl rfl ?_
          refine yy_iconst C (v := (nI 2)) dX7_addRule_52 (pc' := 53) rfl (by decide) ?_
          refine yc_i (yr_V C (As := [.int (nI 2)]) (rest := []) lk_X7_92 cd_X7_refuse im_X7_refuse se_X7_refuse (mX7_refuse l G B0 bd F (M) 2) ⟨by decide, by decide⟩ ⟨by decide, by decide⟩ 0 rfl rfl rfl rfl (Nat.le_of_ble_eq_true rfl) dX7_addRule_53) (pc' := 56) rfl (fun r4 _ hw4 => ?_)
          subst hw4
          subst hQ
          exact ye_i C hr (vp_nar_int _) (mN M 0 2) dX7_addRule_56 rfl (by decide) (by decide) ⟨2, by simp [cd1, cdAddRule, zn1, zn2, zn3, c_48], Or.inr ⟨(by decide), rfl⟩⟩
      · skip
        have zn3 : inB t (nI (M.1 8)) (nI 9999) = false := by exact c_33
        refine yy_aload_n C 0 dX7_addRule_36 (pc' := 37) rfl rfl rfl ?_
        refine yy_iconst C (v := (nI 1)) dX7_addRule_37 (pc' := 38) rfl (by decide) ?_
        refine yc_i (yr_V C (As := [.int (nI 1)]) (rest := []) lk_X7_92 cd_X7_refuse im_X7_refuse se_X7_refuse (mX7_refuse l G B0 bd F (M) 1) ⟨by decide, by decide⟩ ⟨by decide, by decide⟩ 0 rfl rfl rfl rfl (Nat.le_of_ble_eq_true rfl) dX7_addRule_38) (pc' := 41) rfl (fun r4 _ hw4 => ?_)
        subst hw4
        subst hQ
        exact ye_i C hr (vp_nar_int _) (mN M 0 1) dX7_addRule_41 rfl (by decide) (by decide) ⟨1, by simp [cd1, cdAddRule, zn1, zn2, zn3], Or.inr ⟨(by decide), rfl⟩⟩

abbrev rX7_addSpan : Room := { frames := 2, cells := 0, slots := 0, locals := 43 }
set_option maxHeartbeats 4000000 in
set_option maxRecDepth 100000 in
theorem mX7_addSpan (l : Launch) (G : gG) (B0 : Nat) (bd : Nat → Nat) (F : va_W) (M : SM) (d f g t : Int32) (hM : IM M) : Met l yX7_addSpan (Cond.code yX7_addSpan cX7_addSpan 5 (some .int) :: WG) rX7_addSpan (va_Pc [.ref (bd 0), .int d, .int f, .int g, .int t] (PR G B0 (wM G bd M ++ F))) (va_Qi (fun (r : Int32) (u : SM) => ∃ q : Nat, q = cdAddSpan (M.1 1) (M.1 4) (M.1 8) d f g t ∧ ((q = 0 ∧ u = mN (mN (mI (mI (mI (mI M 5 (upd (M.2 5) (M.1 4) d)) 6 (upd (M.2 6) (M.1 4) f)) 7 (upd (M.2 7) (M.1 4) g)) 8 (upd (M.2 8) (M.1 4) t)) 0 q) 4 (M.1 4 + 1) ∧ r = nI (M.1 4)) ∨ (¬ q = 0 ∧ u = mN M 0 q))) (fun (u : SM) (t_ : State) => va_P G.1 vwCl (wM G bd u ++ F) t_.heap ∧ va_D (fun q => B0 ≤ q) (wM G bd u ++ F)) (fun q => B0 ≤ q)) rX7_addSpan.cells rX7_addSpan.slots (fun q => B0 ≤ q) := by
  refine met_of RX7 [(0, .ref (bd 0)), (1, .int d), (2, .int f), (3, .int g), (4, .int t)] rfl (by decide) (Nat.le_of_ble_eq_true rfl) rfl ?_
  intro p e s m args below meth c C hr hnm
  refine yq ?_
  intro QQ hQ
  obtain ⟨j1, j2, j3, j4, j5, j6, j7, j8, jJ, jQ⟩ := id hM
  refine yy_aload_n C 0 dX7_addSpan_0 (pc' := 1) rfl rfl rfl ?_
  refine yy_iload_n C 1 dX7_addSpan_1 (pc' := 2) rfl rfl rfl ?_
  refine yc_i (yr_V C (As := [.int d]) (rest := []) lk_X7_96 cd_X7_noDocument im_X7_noDocument se_X7_noDocument (mX7_noDocument l G B0 bd F (M) d (by exact hM)) ⟨by decide, by decide⟩ ⟨by decide, by decide⟩ 0 rfl rfl rfl rfl (Nat.le_of_ble_eq_true rfl) dX7_addSpan_2) (pc' := 5) rfl (fun r1 _ hw1 => ?_)
  subst hw1
  refine yb_if_eq C dX7_addSpan_5 (pc' := 8) rfl (tgt := 10) (by decide) (fun c_5 => ?_) (fun c_5 => ?_)
  · skip
    have zn1 : inR d (M.1 1) = true := by simpa [mN, va_up] using c_5
    refine yy_iload_n C 2 dX7_addSpan_10 (pc' := 11) rfl rfl rfl ?_
    refine yy_iconst C (v := (nI 0)) dX7_addSpan_11 (pc' := 12) rfl (by decide) ?_
    refine yy_bipush C (v := (nI 39)) dX7_addSpan_12 (pc' := 14) rfl (by decide) ?_
    refine yc_i (yr_S C (As := [.int f, .int (nI 0), .int (nI 39)]) (rest := []) lk_X7_85 cd_X7_isIn st_X7_isIn (mX7_isIn l G B0 (wM G bd (mN M 0 (cd1 (M.1 1) d)) ++ F) f (nI 0) (nI 39)) ⟨by decide, by decide⟩ ⟨by decide, by decide⟩ rfl rfl (Nat.le_of_ble_eq_true rfl) dX7_addSpan_14) (pc' := 17) rfl (fun r2 _ hw2 => ?_)
    subst hw2
    refine yb_if_eq C dX7_addSpan_17 (pc' := 20) rfl (tgt := 45) (by decide) (fun c_17 => ?_) (fun c_17 => ?_)
    · skip
      have zn2 : inB f 0 (nI 39) = false := by simp only [← nI_0]; exact c_17
      refine yy_aload_n C 0 dX7_addSpan_45 (pc' := 46) rfl rfl rfl ?_
      refine yy_iconst C (v := (nI 2)) dX7_addSpan_46 (pc' := 47) rfl (by decide) ?_
      refine yc_i (yr_V C (As := [.int (nI 2)]) (rest := []) lk_X7_92 cd_X7_refuse im_X7_refuse se_X7_refuse (mX7_refuse l G B0 bd F (mN M 0 (cd1 (M.1 1) d)) 2) ⟨by decide, by decide⟩ ⟨by decide, by decide⟩ 0 rfl rfl rfl rfl (Nat.le_of_ble_eq_true rfl) dX7_addSpan_47) (pc' := 50) rfl (fun r3 _ hw3 => ?_)
      subst hw3
      subst hQ
      exact ye_i C hr (vp_nar_int _) (mN M 0 2) dX7_addSpan_50 rfl (by decide) (by decide) ⟨2, by simp [cd1, cdAddSpan, zn1, zn2], Or.inr ⟨(by decide), rfl⟩⟩
    · skip
      have zn2 : inB f 0 (nI 39) = true := by simp only [← nI_0]; exact c_17
      refine yy_iload_n C 3 dX7_addSpan_20 (pc' := 21) rfl rfl rfl ?_
      refine yy_iload_n C 2 dX7_addSpan_21 (pc' := 22) rfl rfl rfl ?_
      refine yy_bipush C (v := (nI 39)) dX7_addSpan_22 (pc' := 24) rfl (by decide) ?_
      refine yc_i (yr_S C (As := [.int g, .int f, .int (nI 39)]) (rest := []) lk_X7_85 cd_X7_isIn st_X7_isIn (mX7_isIn l G B0 (wM G bd (mN M 0 (cd1 (M.1 1) d)) ++ F) g f (nI 39)) ⟨by decide, by decide⟩ ⟨by decide, by decide⟩ rfl rfl (Nat.le_of_ble_eq_true rfl) dX7_addSpan_24) (pc' := 27) rfl (fun r3 _ hw3 => ?_)
      subst hw3
      refine yb_if_eq C dX7_addSpan_27 (pc' := 30) rfl (tgt := 45) (by decide) (fun c_27 => ?_) (fun c_27 => ?_)
      · skip
        have zn3 : inB g f (nI 39) = false := by exact c_27
        refine yy_aload_n C 0 dX7_addSpan_45 (pc' := 46) rfl rfl rfl ?_
        refine yy_iconst C (v := (nI 2)) dX7_addSpan_46 (pc' := 47) rfl (by decide) ?_
        refine yc_i (yr_V C (As := [.int (nI 2)]) (rest := []) lk_X7_92 cd_X7_refuse im_X7_refuse se_X7_refuse (mX7_refuse l G B0 bd F (mN M 0 (cd1 (M.1 1) d)) 2) ⟨by decide, by decide⟩ ⟨by decide, by decide⟩ 0 rfl rfl rfl rfl (Nat.le_of_ble_eq_true rfl) dX7_addSpan_47) (pc' := 50) rfl (fun r4 _ hw4 => ?_)
        subst hw4
        subst hQ
        exact ye_i C hr (vp_nar_int _) (mN M 0 2) dX7_addSpan_50 rfl (by decide) (by decide) ⟨2, by simp [cd1, cdAddSpan, zn1, zn2, zn3], Or.inr ⟨(by decide), rfl⟩⟩
      · skip
        have zn3 : inB g f (nI 39) = true := by exact c_27
        refine yy_iload C 4 dX7_addSpan_30 (pc' := 32) rfl rfl ?_
        refine yy_aload_n C 0 dX7_addSpan_32 (pc' := 33) rfl rfl rfl ?_
        refine yy_get C (v := .int (nI (M.1 8))) fk_X7_106 0 dX7_addSpan_33 (pc' := 36) rfl rfl rfl ?_
        refine yy_sipush C (v := (nI 9999)) dX7_addSpan_36 (pc' := 39) rfl (by decide) ?_
        refine yc_i (yr_S C (As := [.int t, .int (nI (M.1 8)), .int (nI 9999)]) (rest := []) lk_X7_85 cd_X7_isIn st_X7_isIn (mX7_isIn l G B0 (wM G bd (mN M 0 (cd1 (M.1 1) d)) ++ F) t (nI (M.1 8)) (nI 9999)) ⟨by decide, by decide⟩ ⟨by decide, by decide⟩ rfl rfl (Nat.le_of_ble_eq_true rfl) dX7_addSpan_39) (pc' := 42) rfl (fun r4 _ hw4 => ?_)
        subst hw4
        refine yb_if_ne C dX7_addSpan_42 (pc' := 45) rfl (tgt := 51) (by decide) (fun c_42 => ?_) (fun c_42 => ?_)
        · skip
          have zn4 : inB t (nI (M.1 8)) (nI 9999) = true := by exact c_42
          refine yy_aload_n C 0 dX7_addSpan_51 (pc' := 52) rfl rfl rfl ?_
          refine yy_get C (v := .int (nI (M.1 4))) fk_X7_112 0 dX7_addSpan_52 (pc' := 55) rfl rfl rfl ?_
          refine yy_bipush C (v := (nI 12)) dX7_addSpan_55 (pc' := 57) rfl (by decide) ?_
          refine yn_icmp_ne C (by omega) (by decide) dX7_addSpan_57 (pc' := 60) rfl (tgt := 66) (by decide) (fun c_57 => ?_) (fun c_57 => ?_)
          · skip
            refine yy_aload_n C 0 dX7_addSpan_66 (pc' := 67) rfl rfl rfl ?_
            refine yy_get C (v := .ref (bd 6)) fk_X7_29 0 dX7_addSpan_67 (pc' := 70) rfl rfl rfl ?_
            refine yy_aload_n C 0 dX7_addSpan_70 (pc' := 71) rfl rfl rfl ?_
            refine yy_get C (v := .int (nI (M.1 4))) fk_X7_112 0 dX7_addSpan_71 (pc' := 74) rfl rfl rfl ?_
            refine yy_iload_n C 1 dX7_addSpan_74 (pc' := 75) rfl rfl rfl ?_
            refine yy_iast C (w' := wM G bd (mN (mI M 5 (upd (M.2 5) (M.1 4) d)) 0 (cd1 (M.1 1) d)) ++ F) 6 dX7_addSpan_75 (pc' := 76) rfl rfl (by omega) (by decide) rfl ?_
            refine yy_aload_n C 0 dX7_addSpan_76 (pc' := 77) rfl rfl rfl ?_
            refine yy_get C (v := .ref (bd 7)) fk_X7_32 0 dX7_addSpan_77 (pc' := 80) rfl rfl rfl ?_
            refine yy_aload_n C 0 dX7_addSpan_80 (pc' := 81) rfl rfl rfl ?_
            refine yy_get C (v := .int (nI (M.1 4))) fk_X7_112 0 dX7_addSpan_81 (pc' := 84) rfl rfl rfl ?_
            refine yy_iload_n C 2 dX7_addSpan_84 (pc' := 85) rfl rfl rfl ?_
            refine yy_iast C (w' := wM G bd (mN (mI (mI M 5 (upd (M.2 5) (M.1 4) d)) 6 (upd (M.2 6) (M.1 4) f)) 0 (cd1 (M.1 1) d)) ++ F) 7 dX7_addSpan_85 (pc' := 86) rfl rfl (by omega) (by decide) rfl ?_
            refine yy_aload_n C 0 dX7_addSpan_86 (pc' := 87) rfl rfl rfl ?_
            refine yy_get C (v := .ref (bd 8)) fk_X7_35 0 dX7_addSpan_87 (pc' := 90) rfl rfl rfl ?_
            refine yy_aload_n C 0 dX7_addSpan_90 (pc' := 91) rfl rfl rfl ?_
            refine yy_get C (v := .int (nI (M.1 4))) fk_X7_112 0 dX7_addSpan_91 (pc' := 94) rfl rfl rfl ?_
            refine yy_iload_n C 3 dX7_addSpan_94 (pc' := 95) rfl rfl rfl ?_
            refine yy_iast C (w' := wM G bd (mN (mI (mI (mI M 5 (upd (M.2 5) (M.1 4) d)) 6 (upd (M.2 6) (M.1 4) f)) 7 (upd (M.2 7) (M.1 4) g)) 0 (cd1 (M.1 1) d)) ++ F) 8 dX7_addSpan_95 (pc' := 96) rfl rfl (by omega) (by decide) rfl ?_
            refine yy_aload_n C 0 dX7_addSpan_96 (pc' := 97) rfl rfl rfl ?_
            refine yy_get C (v := .ref (bd 9)) fk_X7_38 0 dX7_addSpan_97 (pc' := 100) rfl rfl rfl ?_
            refine yy_aload_n C 0 dX7_addSpan_100 (pc' := 101) rfl rfl rfl ?_
            refine yy_get C (v := .int (nI (M.1 4))) fk_X7_112 0 dX7_addSpan_101 (pc' := 104) rfl rfl rfl ?_
            refine yy_iload C 4 dX7_addSpan_104 (pc' := 106) rfl rfl ?_
            refine yy_iast C (w' := wM G bd (mN (mI (mI (mI (mI M 5 (upd (M.2 5) (M.1 4) d)) 6 (upd (M.2 6) (M.1 4) f)) 7 (upd (M.2 7) (M.1 4) g)) 8 (upd (M.2 8) (M.1 4) t)) 0 (cd1 (M.1 1) d)) ++ F) 9 dX7_addSpan_106 (pc' := 107) rfl rfl (by omega) (by decide) rfl ?_
            refine yy_aload_n C 0 dX7_addSpan_107 (pc' := 108) rfl rfl rfl ?_
            refine yy_dup C dX7_addSpan_108 (pc' := 109) rfl rfl ?_
            refine yy_get C (v := .int (nI (M.1 4))) fk_X7_112 0 dX7_addSpan_109 (pc' := 112) rfl rfl rfl ?_
            refine yy_dup_x1 C dX7_addSpan_112 (pc' := 113) rfl rfl rfl ?_
            refine yy_iconst C (v := (nI 1)) dX7_addSpan_113 (pc' := 114) rfl (by decide) ?_
            refine yy_iadd C (v := (nI ((M.1 4) + 1))) dX7_addSpan_114 (pc' := 115) rfl (nI_add (M.1 4) 1) ?_
            refine yy_put C (w' := wM G bd (mN (mN (mI (mI (mI (mI M 5 (upd (M.2 5) (M.1 4) d)) 6 (upd (M.2 6) (M.1 4) f)) 7 (upd (M.2 7) (M.1 4) g)) 8 (upd (M.2 8) (M.1 4) t)) 0 (cd1 (M.1 1) d)) 4 ((M.1 4) + 1)) ++ F) fk_X7_112 fpW7 rfl 0 dX7_addSpan_115 (pc' := 118) rfl rfl rfl rfl (Nat.le_of_ble_eq_true rfl) rfl ?_
            subst hQ
            exact ye_i C hr (vp_nar_int _) (mN (mN (mI (mI (mI (mI M 5 (upd (M.2 5) (M.1 4) d)) 6 (upd (M.2 6) (M.1 4) f)) 7 (upd (M.2 7) (M.1 4) g)) 8 (upd (M.2 8) (M.1 4) t)) 0 (cd1 (M.1 1) d)) 4 ((M.1 4) + 1)) dX7_addSpan_118 rfl (by decide) (by decide) ⟨(cd1 (M.1 1) d), by simp [cd1, cdAddSpan, zn1, zn2, zn3, zn4, c_57], Or.inl ⟨(by simp [cd1, zn1, zn2, zn3, zn4, c_57]), rfl, rfl⟩⟩
          · skip
            refine yy_aload_n C 0 dX7_addSpan_60 (pc' := 61) rfl rfl rfl ?_
            refine yy_iconst C (v := (nI 3)) dX7_addSpan_61 (pc' := 62) rfl (by decide) ?_
            refine yc_i (yr_V C (As := [.int (nI 3)]) (rest := []) lk_X7_92 cd_X7_refuse im_X7_refuse se_X7_refuse (mX7_refuse l G B0 bd F (mN M 0 (cd1 (M.1 1) d)) 3) ⟨by decide, by decide⟩ ⟨by decide, by decide⟩ 0 rfl rfl rfl rfl (Nat.le_of_ble_eq_true rfl) dX7_addSpan_62) (pc' := 65) rfl (fun r5 _ hw5 => ?_)
            subst hw5
            subst hQ
            exact ye_i C hr (vp_nar_int _) (mN M 0 3) dX7_addSpan_65 rfl (by decide) (by decide) ⟨3, by simp [cd1, cdAddSpan, zn1, zn2, zn3, zn4, c_57], Or.inr ⟨(by decide), rfl⟩⟩
        · skip
          have zn4 : inB t (nI (M.1 8)) (nI 9999) = false := by exact c_42
          refine yy_aload_n C 0 dX7_addSpan_45 (pc' := 46) rfl rfl rfl ?_
          refine yy_iconst C (v := (nI 2)) dX7_addSpan_46 (pc' := 47) rfl (by decide) ?_
          refine yc_i (yr_V C (As := [.int (nI 2)]) (rest := []) lk_X7_92 cd_X7_refuse im_X7_refuse se_X7_refuse (mX7_refuse l G B0 bd F (mN M 0 (cd1 (M.1 1) d)) 2) ⟨by decide, by decide⟩ ⟨by decide, by decide⟩ 0 rfl rfl rfl rfl (Nat.le_of_ble_eq_true rfl) dX7_addSpan_47) (pc' := 50) rfl (fun r5 _ hw5 => ?_)
          subst hw5
          subst hQ
          exact ye_i C hr (vp_nar_int _) (mN M 0 2) dX7_addSpan_50 rfl (by decide) (by decide) ⟨2, by simp [cd1, cdAddSpan, zn1, zn2, zn3, zn4], Or.inr ⟨(by decide), rfl⟩⟩
  · skip
    have zn1 : inR d (M.1 1) = false := by simpa [mN, va_up] using c_5
    refine yy_iconst C (v := (nI 0)) dX7_addSpan_8 (pc' := 9) rfl (by decide) ?_
    subst hQ
    exact ye_i C hr (vp_nar_int _) (mN M 0 (cd1 (M.1 1) d)) dX7_addSpan_9 rfl (by decide) (by decide) ⟨(cd1 (M.1 1) d), by simp [cd1, cdAddSpan, zn1], Or.inr ⟨(by simp [cd1, zn1]), rfl⟩⟩

abbrev rX7_lift : Room := { frames := 4, cells := 0, slots := 0, locals := 88 }
set_option maxHeartbeats 4000000 in
set_option maxRecDepth 100000 in
theorem mX7_lift (l : Launch) (G : gG) (B0 : Nat) (bd : Nat → Nat) (F : va_W) (M : SM) (k : Int32) (hM : IM M) : Met l yX7_lift (Cond.code yX7_lift cX7_lift 3 (some .int) :: WG) rX7_lift (va_Pc [.ref (bd 0), .int k] (PR G B0 (wM G bd M ++ F))) (va_Qi (fun (r : Int32) (u : SM) => ∃ q : Nat, q = cdLift (M.1 4) (M.2 17) (M.2 8) (M.1 8) k ∧ ((q = 0 ∧ ∃ j, k = nI j ∧ j < M.1 4 ∧ u = mN (mI M 17 (upd (M.2 17) j (nI 1))) 0 q ∧ r = nI (fb_ct (hidM M) (M.1 2)) - nI (fb_ct (hidM (mI M 17 (upd (M.2 17) j (nI 1)))) (M.1 2))) ∨ (¬ q = 0 ∧ u = mN M 0 q))) (fun (u : SM) (t_ : State) => va_P G.1 vwCl (wM G bd u ++ F) t_.heap ∧ va_D (fun q => B0 ≤ q) (wM G bd u ++ F)) (fun q => B0 ≤ q)) rX7_lift.cells rX7_lift.slots (fun q => B0 ≤ q) := by
  refine met_of RX7 [(0, .ref (bd 0)), (1, .int k)] rfl (by decide) (Nat.le_of_ble_eq_true rfl) rfl ?_
  intro p e s m args below meth c C hr hnm
  refine yq ?_
  intro QQ hQ
  obtain ⟨j1, j2, j3, j4, j5, j6, j7, j8, jJ, jQ⟩ := id hM
  refine yy_iload_n C 1 dX7_lift_0 (pc' := 1) rfl rfl rfl ?_
  refine yy_iconst C (v := (nI 0)) dX7_lift_1 (pc' := 2) rfl (by decide) ?_
  refine yy_aload_n C 0 dX7_lift_2 (pc' := 3) rfl rfl rfl ?_
  refine yy_get C (v := .int (nI (M.1 4))) fk_X7_112 0 dX7_lift_3 (pc' := 6) rfl rfl rfl ?_
  refine yy_iconst C (v := (nI 1)) dX7_lift_6 (pc' := 7) rfl (by decide) ?_
  refine yy_isub C (v := ((nI (M.1 4)) - (nI 1))) dX7_lift_7 (pc' := 8) rfl rfl ?_
  refine yc_i (yr_S C (As := [.int k, .int (nI 0), .int ((nI (M.1 4)) - (nI 1))]) (rest := []) lk_X7_85 cd_X7_isIn st_X7_isIn (mX7_isIn l G B0 (wM G bd M ++ F) k (nI 0) ((nI (M.1 4)) - (nI 1))) ⟨by decide, by decide⟩ ⟨by decide, by decide⟩ rfl rfl (Nat.le_of_ble_eq_true rfl) dX7_lift_8) (pc' := 11) rfl (fun r1 _ hw1 => ?_)
  subst hw1
  refine yb_if_ne C dX7_lift_11 (pc' := 14) rfl (tgt := 20) (by decide) (fun c_11 => ?_) (fun c_11 => ?_)
  · skip
    have zn1 : inR k (M.1 4) = true := by rw [← inB_R (by omega)]; exact c_11
    obtain ⟨jk, hjk, rfl⟩ := inR_of (by omega) zn1
    have ejk : ix (nI jk) = jk := ix_lt hjk (by omega)
    refine yy_aload_n C 0 dX7_lift_20 (pc' := 21) rfl rfl rfl ?_
    refine yy_get C (v := .ref (bd 18)) fk_X7_65 0 dX7_lift_21 (pc' := 24) rfl rfl rfl ?_
    refine yy_iload_n C 1 dX7_lift_24 (pc' := 25) rfl rfl rfl ?_
    refine yy_zald C 18 dX7_lift_25 (pc' := 26) rfl rfl (by omega) (by decide) ?_
    refine yy_if_ne C dX7_lift_26 (pc' := 29) rfl (tgt := 42) (by decide) (fun c_26 => ?_) (fun c_26 => ?_)
    · skip
      refine yy_aload_n C 0 dX7_lift_42 (pc' := 43) rfl rfl rfl ?_
      refine yy_iconst C (v := (nI 2)) dX7_lift_43 (pc' := 44) rfl (by decide) ?_
      refine yc_i (yr_V C (As := [.int (nI 2)]) (rest := []) lk_X7_92 cd_X7_refuse im_X7_refuse se_X7_refuse (mX7_refuse l G B0 bd F (M) 2) ⟨by decide, by decide⟩ ⟨by decide, by decide⟩ 0 rfl rfl rfl rfl (Nat.le_of_ble_eq_true rfl) dX7_lift_44) (pc' := 47) rfl (fun r2 _ hw2 => ?_)
      subst hw2
      subst hQ
      exact ye_i C hr (vp_nar_int _) (mN M 0 2) dX7_lift_47 rfl (by decide) (by decide) ⟨2, by simp [cd1, cdLift, frc, zn1, ejk, c_26], Or.inr ⟨(by decide), rfl⟩⟩
    · skip
      refine yy_aload_n C 0 dX7_lift_29 (pc' := 30) rfl rfl rfl ?_
      refine yy_get C (v := .int (nI (M.1 8))) fk_X7_106 0 dX7_lift_30 (pc' := 33) rfl rfl rfl ?_
      refine yy_aload_n C 0 dX7_lift_33 (pc' := 34) rfl rfl rfl ?_
      refine yy_get C (v := .ref (bd 9)) fk_X7_38 0 dX7_lift_34 (pc' := 37) rfl rfl rfl ?_
      refine yy_iload_n C 1 dX7_lift_37 (pc' := 38) rfl rfl rfl ?_
      refine yy_iald C 9 dX7_lift_38 (pc' := 39) rfl rfl (by omega) (by decide) ?_
      refine yy_icmp_le C dX7_lift_39 (pc' := 42) rfl (tgt := 48) (by decide) (fun c_39 => ?_) (fun c_39 => ?_)
      · skip
        have zn2 : (M.2 8 jk < nI (M.1 8)) = False := eq_false (Int32.not_lt.mpr c_39)
        refine yy_aload_n C 0 dX7_lift_48 (pc' := 49) rfl rfl rfl ?_
        refine yy_iconst C (v := (nI 0)) dX7_lift_49 (pc' := 50) rfl (by decide) ?_
        refine yy_put C (w' := wM G bd (mN M 0 0) ++ F) fk_X7_79 fpW7 rfl 0 dX7_lift_50 (pc' := 53) rfl rfl rfl rfl (Nat.le_of_ble_eq_true rfl) rfl ?_
        refine yy_aload_n C 0 dX7_lift_53 (pc' := 54) rfl rfl rfl ?_
        refine yc_i (yr_V C (As := []) (rest := []) lk_X7_124 cd_X7_hiddenLines im_X7_hiddenLines se_X7_hiddenLines (mX7_hiddenLines l G B0 bd F (mN M 0 0) (by exact hM)) ⟨by decide, by decide⟩ ⟨by decide, by decide⟩ 0 rfl rfl rfl rfl (Nat.le_of_ble_eq_true rfl) dX7_lift_54) (pc' := 57) rfl (fun r2 _ hw2 => ?_)
        subst hw2
        refine yy_istore_n C (L' := [(2, .int (nI (fb_ct (hidM (mN M 0 0)) (M.1 2)))), (0, .ref (bd 0)), (1, .int (nI jk))]) dX7_lift_57 (pc' := 58) rfl rfl (by decide) rfl ?_
        refine yy_aload_n C 1 dX7_lift_58 (pc' := 59) rfl rfl rfl ?_
        refine yy_get C (v := .ref (bd 18)) fk_X7_65 0 dX7_lift_59 (pc' := 62) rfl rfl rfl ?_
        refine yy_iload_n C 2 dX7_lift_62 (pc' := 63) rfl rfl rfl ?_
        refine yy_iconst C (v := (nI 1)) dX7_lift_63 (pc' := 64) rfl (by decide) ?_
        refine yy_zast C (w' := wM G bd (mN (mI M 17 (upd (M.2 17) jk (nI 1))) 0 0) ++ F) 18 dX7_lift_64 (pc' := 65) rfl rfl (by omega) (by decide) rfl rfl ?_
        refine yy_iload_n C 0 dX7_lift_65 (pc' := 66) rfl rfl rfl ?_
        refine yy_aload_n C 1 dX7_lift_66 (pc' := 67) rfl rfl rfl ?_
        refine yc_i (yr_V C (As := []) (rest := [.int (nI (fb_ct (hidM (mN M 0 0)) (M.1 2)))]) lk_X7_124 cd_X7_hiddenLines im_X7_hiddenLines se_X7_hiddenLines (mX7_hiddenLines l G B0 bd F (mN (mI M 17 (upd (M.2 17) jk (nI 1))) 0 0) (by exact hM)) ⟨by decide, by decide⟩ ⟨by decide, by decide⟩ 0 rfl rfl rfl rfl (Nat.le_of_ble_eq_true rfl) dX7_lift_67) (pc' := 70) rfl (fun r3 _ hw3 => ?_)
        subst hw3
        refine yy_isub C (v := ((nI (fb_ct (hidM (mN M 0 0)) (M.1 2))) - (nI (fb_ct (hidM (mN (mI M 17 (upd (M.2 17) jk (nI 1))) 0 0)) (M.1 2))))) dX7_lift_70 (pc' := 71) rfl rfl ?_
        subst hQ
        exact ye_i C hr (vp_nar_int _) (mN (mI M 17 (upd (M.2 17) jk (nI 1))) 0 0) dX7_lift_71 rfl (by decide) (by decide) ⟨0, by simp [cd1, cdLift, frc, zn1, ejk, zn2, c_26], Or.inl ⟨rfl, jk, rfl, hjk, rfl, rfl⟩⟩
      · skip
        have zn2 : (M.2 8 jk < nI (M.1 8)) = True := eq_true (Int32.not_le.mp c_39)
        refine yy_aload_n C 0 dX7_lift_42 (pc' := 43) rfl rfl rfl ?_
        refine yy_iconst C (v := (nI 2)) dX7_lift_43 (pc' := 44) rfl (by decide) ?_
        refine yc_i (yr_V C (As := [.int (nI 2)]) (rest := []) lk_X7_92 cd_X7_refuse im_X7_refuse se_X7_refuse (mX7_refuse l G B0 bd F (M) 2) ⟨by decide, by decide⟩ ⟨by decide, by decide⟩ 0 rfl rfl rfl rfl (Nat.le_of_ble_eq_true rfl) dX7_lift_44) (pc' := 47) rfl (fun r2 _ hw2 => ?_)
        subst hw2
        subst hQ
        exact ye_i C hr (vp_nar_int _) (mN M 0 2) dX7_lift_47 rfl (by decide) (by decide) ⟨2, by simp [cd1, cdLift, frc, zn1, ejk, zn2, c_26], Or.inr ⟨(by decide), rfl⟩⟩
  · skip
    have zn1 : inR k (M.1 4) = false := by rw [← inB_R (by omega)]; exact c_11
    refine yy_aload_n C 0 dX7_lift_14 (pc' := 15) rfl rfl rfl ?_
    refine yy_iconst C (v := (nI 1)) dX7_lift_15 (pc' := 16) rfl (by decide) ?_
    refine yc_i (yr_V C (As := [.int (nI 1)]) (rest := []) lk_X7_92 cd_X7_refuse im_X7_refuse se_X7_refuse (mX7_refuse l G B0 bd F (M) 1) ⟨by decide, by decide⟩ ⟨by decide, by decide⟩ 0 rfl rfl rfl rfl (Nat.le_of_ble_eq_true rfl) dX7_lift_16) (pc' := 19) rfl (fun r2 _ hw2 => ?_)
    subst hw2
    subst hQ
    exact ye_i C hr (vp_nar_int _) (mN M 0 1) dX7_lift_19 rfl (by decide) (by decide) ⟨1, by simp [cd1, cdLift, frc, zn1], Or.inr ⟨(by decide), rfl⟩⟩

abbrev rX7_isHidden : Room := { frames := 3, cells := 0, slots := 0, locals := 66 }
set_option maxHeartbeats 4000000 in
set_option maxRecDepth 100000 in
theorem mX7_isHidden (l : Launch) (G : gG) (B0 : Nat) (bd : Nat → Nat) (F : va_W) (M : SM) (x : Int32) (hM : IM M) : Met l yX7_isHidden (Cond.code yX7_isHidden cX7_isHidden 2 (some .boolean) :: WG) rX7_isHidden (va_Pc [.ref (bd 0), .int x] (PR G B0 (wM G bd M ++ F))) (va_Qi (fun (r : Int32) (u : SM) => ∃ q : Nat, q = cd1 (M.1 2) x ∧ ((q = 0 ∧ ∃ j, x = nI j ∧ j < M.1 2 ∧ u = mN M 0 q ∧ r = bI (hidM M j)) ∨ (¬ q = 0 ∧ u = mN M 0 q))) (fun (u : SM) (t_ : State) => va_P G.1 vwCl (wM G bd u ++ F) t_.heap ∧ va_D (fun q => B0 ≤ q) (wM G bd u ++ F)) (fun q => B0 ≤ q)) rX7_isHidden.cells rX7_isHidden.slots (fun q => B0 ≤ q) := by
  refine met_of RX7 [(0, .ref (bd 0)), (1, .int x)] rfl (by decide) (Nat.le_of_ble_eq_true rfl) rfl ?_
  intro p e s m args below meth c C hr hnm
  refine yq ?_
  intro QQ hQ
  obtain ⟨j1, j2, j3, j4, j5, j6, j7, j8, jJ, jQ⟩ := id hM
  refine yy_aload_n C 0 dX7_isHidden_0 (pc' := 1) rfl rfl rfl ?_
  refine yy_iload_n C 1 dX7_isHidden_1 (pc' := 2) rfl rfl rfl ?_
  refine yc_i (yr_V C (As := [.int x]) (rest := []) lk_X7_100 cd_X7_noLine im_X7_noLine se_X7_noLine (mX7_noLine l G B0 bd F (M) x (by exact hM)) ⟨by decide, by decide⟩ ⟨by decide, by decide⟩ 0 rfl rfl rfl rfl (Nat.le_of_ble_eq_true rfl) dX7_isHidden_2) (pc' := 5) rfl (fun r1 _ hw1 => ?_)
  subst hw1
  refine yb_if_ne C dX7_isHidden_5 (pc' := 8) rfl (tgt := 20) (by decide) (fun c_5 => ?_) (fun c_5 => ?_)
  · skip
    have zn1 : inR x (M.1 2) = false := by simpa [mN, va_up] using c_5
    refine yy_iconst C (v := (nI 0)) dX7_isHidden_20 (pc' := 21) rfl (by decide) ?_
    subst hQ
    exact ye_i C hr rfl (mN M 0 (cd1 (M.1 2) x)) dX7_isHidden_21 rfl (by decide) (by decide) ⟨(cd1 (M.1 2) x), by simp [cd1, cd1, zn1], Or.inr ⟨(by simp [cd1, zn1]), rfl⟩⟩
  · skip
    have zn1 : inR x (M.1 2) = true := by simpa [mN, va_up] using c_5
    obtain ⟨jx, hjx, rfl⟩ := inR_of (by omega) zn1
    have ejx : ix (nI jx) = jx := ix_lt hjx (by omega)
    refine yy_aload_n C 0 dX7_isHidden_8 (pc' := 9) rfl rfl rfl ?_
    refine yy_iload_n C 1 dX7_isHidden_9 (pc' := 10) rfl rfl rfl ?_
    refine yc_i (yr_V C (As := [.int (nI jx)]) (rest := []) lk_X7_121 cd_X7_hides im_X7_hides se_X7_hides (mX7_hides l G B0 bd F (mN M 0 (cd1 (M.1 2) (nI jx))) jx (by omega) (by exact hM)) ⟨by decide, by decide⟩ ⟨by decide, by decide⟩ 0 rfl rfl rfl rfl (Nat.le_of_ble_eq_true rfl) dX7_isHidden_10) (pc' := 13) rfl (fun r2 _ hw2 => ?_)
    subst hw2
    refine yb_if_eq C dX7_isHidden_13 (pc' := 16) rfl (tgt := 20) (by decide) (fun c_13 => ?_) (fun c_13 => ?_)
    · skip
      refine yy_iconst C (v := (nI 0)) dX7_isHidden_20 (pc' := 21) rfl (by decide) ?_
      subst hQ
      exact ye_i C hr rfl (mN M 0 (cd1 (M.1 2) (nI jx))) dX7_isHidden_21 rfl (by decide) (by decide) ⟨(cd1 (M.1 2) (nI jx)), by simp [cd1, cd1, zn1, ejx], Or.inl ⟨(by simp [cd1, zn1, ejx]), jx, rfl, hjx, rfl, bI_f c_13⟩⟩
    · skip
      refine yy_iconst C (v := (nI 1)) dX7_isHidden_16 (pc' := 17) rfl (by decide) ?_
      refine yy_goto C (tgt := 21) dX7_isHidden_17 (by decide) ?_
      subst hQ
      exact ye_i C hr rfl (mN M 0 (cd1 (M.1 2) (nI jx))) dX7_isHidden_21 rfl (by decide) (by decide) ⟨(cd1 (M.1 2) (nI jx)), by simp [cd1, cd1, zn1, ejx], Or.inl ⟨(by simp [cd1, zn1, ejx]), jx, rfl, hjx, rfl, bI_t c_13⟩⟩

abbrev rX7_hidden : Room := { frames := 4, cells := 0, slots := 0, locals := 88 }
set_option maxHeartbeats 4000000 in
set_option maxRecDepth 100000 in
theorem mX7_hidden (l : Launch) (G : gG) (B0 : Nat) (bd : Nat → Nat) (F : va_W) (M : SM) (hM : IM M) : Met l yX7_hidden (Cond.code yX7_hidden cX7_hidden 1 (some .int) :: WG) rX7_hidden (va_Pc [.ref (bd 0)] (PR G B0 (wM G bd M ++ F))) (va_Qi (fun (r : Int32) (_ : Unit) => r = nI (fb_ct (hidM M) (M.1 2))) (fun (_ : Unit) (t_ : State) => va_P G.1 vwCl (wM G bd M ++ F) t_.heap ∧ va_D (fun q => B0 ≤ q) (wM G bd M ++ F)) (fun q => B0 ≤ q)) rX7_hidden.cells rX7_hidden.slots (fun q => B0 ≤ q) := by
  refine met_of RX7 [(0, .ref (bd 0))] rfl (by decide) (Nat.le_of_ble_eq_true rfl) rfl ?_
  intro p e s m args below meth c C hr hnm
  refine yq ?_
  intro QQ hQ
  obtain ⟨j1, j2, j3, j4, j5, j6, j7, j8, jJ, jQ⟩ := id hM
  refine yy_aload_n C 0 dX7_hidden_0 (pc' := 1) rfl rfl rfl ?_
  refine yc_i (yr_V C (As := []) (rest := []) lk_X7_124 cd_X7_hiddenLines im_X7_hiddenLines se_X7_hiddenLines (mX7_hiddenLines l G B0 bd F (M) (by exact hM)) ⟨by decide, by decide⟩ ⟨by decide, by decide⟩ 0 rfl rfl rfl rfl (Nat.le_of_ble_eq_true rfl) dX7_hidden_1) (pc' := 4) rfl (fun r1 _ hw1 => ?_)
  subst hw1
  subst hQ
  exact ye_i C hr (vp_nar_int _) () dX7_hidden_4 rfl (by decide) (by decide) rfl

abbrev rX7_day : Room := { frames := 0, cells := 0, slots := 0, locals := 0 }
set_option maxHeartbeats 4000000 in
set_option maxRecDepth 100000 in
theorem mX7_day (l : Launch) (G : gG) (B0 : Nat) (bd : Nat → Nat) (F : va_W) (M : SM) (hM : IM M) : Met l yX7_day (Cond.code yX7_day cX7_day 1 (some .int) :: WG) rX7_day (va_Pc [.ref (bd 0)] (PR G B0 (wM G bd M ++ F))) (va_Qi (fun (r : Int32) (_ : Unit) => r = nI (M.1 8)) (fun (_ : Unit) (t_ : State) => va_P G.1 vwCl (wM G bd M ++ F) t_.heap ∧ va_D (fun q => B0 ≤ q) (wM G bd M ++ F)) (fun q => B0 ≤ q)) rX7_day.cells rX7_day.slots (fun q => B0 ≤ q) := by
  refine met_of RX7 [(0, .ref (bd 0))] rfl (by decide) (Nat.le_of_ble_eq_true rfl) rfl ?_
  intro p e s m args below meth c C hr hnm
  refine yq ?_
  intro QQ hQ
  obtain ⟨j1, j2, j3, j4, j5, j6, j7, j8, jJ, jQ⟩ := id hM
  refine yy_aload_n C 0 dX7_day_0 (pc' := 1) rfl rfl rfl ?_
  refine yy_get C (v := .int (nI (M.1 8))) fk_X7_106 0 dX7_day_1 (pc' := 4) rfl rfl rfl ?_
  subst hQ
  exact ye_i C hr (vp_nar_int _) () dX7_day_4 rfl (by decide) (by decide) rfl

abbrev rX7_late : Room := { frames := 1, cells := 0, slots := 0, locals := 22 }
set_option maxHeartbeats 4000000 in
set_option maxRecDepth 100000 in
theorem mX7_late (l : Launch) (G : gG) (B0 : Nat) (bd : Nat → Nat) (F : va_W) (M : SM) (hM : IM M) : Met l yX7_late (Cond.code yX7_late cX7_late 1 (some .int) :: WG) rX7_late (va_Pc [.ref (bd 0)] (PR G B0 (wM G bd M ++ F))) (va_Qi (fun (r : Int32) (_ : Unit) => r = nI (lateC (M.1 6) (M.2 20) (M.2 14) (M.1 8))) (fun (_ : Unit) (t_ : State) => va_P G.1 vwCl (wM G bd M ++ F) t_.heap ∧ va_D (fun q => B0 ≤ q) (wM G bd M ++ F)) (fun q => B0 ≤ q)) rX7_late.cells rX7_late.slots (fun q => B0 ≤ q) := by
  refine met_of RX7 [(0, .ref (bd 0))] rfl (by decide) (Nat.le_of_ble_eq_true rfl) rfl ?_
  intro p e s m args below meth c C hr hnm
  refine yq ?_
  intro QQ hQ
  obtain ⟨j1, j2, j3, j4, j5, j6, j7, j8, jJ, jQ⟩ := id hM
  refine yy_aload_n C 0 dX7_late_0 (pc' := 1) rfl rfl rfl ?_
  refine yc_i (yr_V C (As := []) (rest := []) lk_X7_165 cd_X7_lateOnes im_X7_lateOnes se_X7_lateOnes (mX7_lateOnes l G B0 bd F (M) (by exact hM)) ⟨by decide, by decide⟩ ⟨by decide, by decide⟩ 0 rfl rfl rfl rfl (Nat.le_of_ble_eq_true rfl) dX7_late_1) (pc' := 4) rfl (fun r1 _ hw1 => ?_)
  subst hw1
  subst hQ
  exact ye_i C hr (vp_nar_int _) () dX7_late_4 rfl (by decide) (by decide) rfl

abbrev rX7_fees : Room := { frames := 0, cells := 0, slots := 0, locals := 0 }
set_option maxHeartbeats 4000000 in
set_option maxRecDepth 100000 in
theorem mX7_fees (l : Launch) (G : gG) (B0 : Nat) (bd : Nat → Nat) (F : va_W) (M : SM) (hM : IM M) : Met l yX7_fees (Cond.code yX7_fees cX7_fees 1 (some .long) :: WG) rX7_fees (va_Pc [.ref (bd 0)] (PR G B0 (wM G bd M ++ F))) (va_Ql (fun (r : Int64) (_ : Unit) => r = lN (M.1 9)) (fun (_ : Unit) (t_ : State) => va_P G.1 vwCl (wM G bd M ++ F) t_.heap ∧ va_D (fun q => B0 ≤ q) (wM G bd M ++ F)) (fun q => B0 ≤ q)) rX7_fees.cells rX7_fees.slots (fun q => B0 ≤ q) := by
  refine met_of RX7 [(0, .ref (bd 0))] rfl (by decide) (Nat.le_of_ble_eq_true rfl) rfl ?_
  intro p e s m args below meth c C hr hnm
  refine yq ?_
  intro QQ hQ
  obtain ⟨j1, j2, j3, j4, j5, j6, j7, j8, jJ, jQ⟩ := id hM
  refine yy_aload_n C 0 dX7_fees_0 (pc' := 1) rfl rfl rfl ?_
  refine yy_get C (v := .long (lN (M.1 9))) fk_X7_161 0 dX7_fees_1 (pc' := 4) rfl rfl rfl ?_
  subst hQ
  exact ye_l C hr () dX7_fees_4 rfl (by decide) (by decide) rfl

abbrev rX7_given : Room := { frames := 2, cells := 0, slots := 0, locals := 43 }
set_option maxHeartbeats 4000000 in
set_option maxRecDepth 100000 in
theorem mX7_given (l : Launch) (G : gG) (B0 : Nat) (bd : Nat → Nat) (F : va_W) (M : SM) (a : Int32) (hM : IM M) : Met l yX7_given (Cond.code yX7_given cX7_given 2 (some .int) :: WG) rX7_given (va_Pc [.ref (bd 0), .int a] (PR G B0 (wM G bd M ++ F))) (va_Qi (fun (r : Int32) (u : SM) => ∃ q : Nat, q = cd1 (5) a ∧ ((q = 0 ∧ ∃ j, a = nI j ∧ j < 5 ∧ u = mN M 0 q ∧ r = M.2 16 j) ∨ (¬ q = 0 ∧ u = mN M 0 q))) (fun (u : SM) (t_ : State) => va_P G.1 vwCl (wM G bd u ++ F) t_.heap ∧ va_D (fun q => B0 ≤ q) (wM G bd u ++ F)) (fun q => B0 ≤ q)) rX7_given.cells rX7_given.slots (fun q => B0 ≤ q) := by
  refine met_of RX7 [(0, .ref (bd 0)), (1, .int a)] rfl (by decide) (Nat.le_of_ble_eq_true rfl) rfl ?_
  intro p e s m args below meth c C hr hnm
  refine yq ?_
  intro QQ hQ
  obtain ⟨j1, j2, j3, j4, j5, j6, j7, j8, jJ, jQ⟩ := id hM
  refine yy_aload_n C 0 dX7_given_0 (pc' := 1) rfl rfl rfl ?_
  refine yy_iload_n C 1 dX7_given_1 (pc' := 2) rfl rfl rfl ?_
  refine yc_i (yr_V C (As := [.int a]) (rest := []) lk_X7_135 cd_X7_noAsker im_X7_noAsker se_X7_noAsker (mX7_noAsker l G B0 bd F (M) a (by exact hM)) ⟨by decide, by decide⟩ ⟨by decide, by decide⟩ 0 rfl rfl rfl rfl (Nat.le_of_ble_eq_true rfl) dX7_given_2) (pc' := 5) rfl (fun r1 _ hw1 => ?_)
  subst hw1
  refine yb_if_eq C dX7_given_5 (pc' := 8) rfl (tgt := 12) (by decide) (fun c_5 => ?_) (fun c_5 => ?_)
  · skip
    have zn1 : inR a (5) = true := by simpa [mN, va_up] using c_5
    obtain ⟨ja, hja, rfl⟩ := inR_of (by omega) zn1
    have eja : ix (nI ja) = ja := ix_lt hja (by omega)
    refine yy_aload_n C 0 dX7_given_12 (pc' := 13) rfl rfl rfl ?_
    refine yy_get C (v := .ref (bd 17)) fk_X7_62 0 dX7_given_13 (pc' := 16) rfl rfl rfl ?_
    refine yy_iload_n C 1 dX7_given_16 (pc' := 17) rfl rfl rfl ?_
    refine yy_iald C 17 dX7_given_17 (pc' := 18) rfl rfl (by omega) (by decide) ?_
    subst hQ
    exact ye_i C hr (vp_nar_int _) (mN M 0 (cd1 5 (nI ja))) dX7_given_18 rfl (by decide) (by decide) ⟨(cd1 5 (nI ja)), by simp [cd1, cd1, zn1, eja], Or.inl ⟨(by simp [cd1, zn1, eja]), ja, rfl, hja, rfl, rfl⟩⟩
  · skip
    have zn1 : inR a (5) = false := by simpa [mN, va_up] using c_5
    refine yy_iconst C (v := (nI 0)) dX7_given_8 (pc' := 9) rfl (by decide) ?_
    refine yy_goto C (tgt := 18) dX7_given_9 (by decide) ?_
    subst hQ
    exact ye_i C hr (vp_nar_int _) (mN M 0 (cd1 5 a)) dX7_given_18 rfl (by decide) (by decide) ⟨(cd1 5 a), by simp [cd1, cd1, zn1], Or.inr ⟨(by simp [cd1, zn1]), rfl⟩⟩

abbrev rX7_owed : Room := { frames := 2, cells := 0, slots := 0, locals := 43 }
set_option maxHeartbeats 4000000 in
set_option maxRecDepth 100000 in
theorem mX7_owed (l : Launch) (G : gG) (B0 : Nat) (bd : Nat → Nat) (F : va_W) (M : SM) (a : Int32) (hM : IM M) : Met l yX7_owed (Cond.code yX7_owed cX7_owed 2 (some .int) :: WG) rX7_owed (va_Pc [.ref (bd 0), .int a] (PR G B0 (wM G bd M ++ F))) (va_Qi (fun (r : Int32) (u : SM) => ∃ q : Nat, q = cd1 (5) a ∧ ((q = 0 ∧ ∃ j, a = nI j ∧ j < 5 ∧ u = mN M 0 q ∧ r = M.2 15 j) ∨ (¬ q = 0 ∧ u = mN M 0 q))) (fun (u : SM) (t_ : State) => va_P G.1 vwCl (wM G bd u ++ F) t_.heap ∧ va_D (fun q => B0 ≤ q) (wM G bd u ++ F)) (fun q => B0 ≤ q)) rX7_owed.cells rX7_owed.slots (fun q => B0 ≤ q) := by
  refine met_of RX7 [(0, .ref (bd 0)), (1, .int a)] rfl (by decide) (Nat.le_of_ble_eq_true rfl) rfl ?_
  intro p e s m args below meth c C hr hnm
  refine yq ?_
  intro QQ hQ
  obtain ⟨j1, j2, j3, j4, j5, j6, j7, j8, jJ, jQ⟩ := id hM
  refine yy_aload_n C 0 dX7_owed_0 (pc' := 1) rfl rfl rfl ?_
  refine yy_iload_n C 1 dX7_owed_1 (pc' := 2) rfl rfl rfl ?_
  refine yc_i (yr_V C (As := [.int a]) (rest := []) lk_X7_135 cd_X7_noAsker im_X7_noAsker se_X7_noAsker (mX7_noAsker l G B0 bd F (M) a (by exact hM)) ⟨by decide, by decide⟩ ⟨by decide, by decide⟩ 0 rfl rfl rfl rfl (Nat.le_of_ble_eq_true rfl) dX7_owed_2) (pc' := 5) rfl (fun r1 _ hw1 => ?_)
  subst hw1
  refine yb_if_eq C dX7_owed_5 (pc' := 8) rfl (tgt := 12) (by decide) (fun c_5 => ?_) (fun c_5 => ?_)
  · skip
    have zn1 : inR a (5) = true := by simpa [mN, va_up] using c_5
    obtain ⟨ja, hja, rfl⟩ := inR_of (by omega) zn1
    have eja : ix (nI ja) = ja := ix_lt hja (by omega)
    refine yy_aload_n C 0 dX7_owed_12 (pc' := 13) rfl rfl rfl ?_
    refine yy_get C (v := .ref (bd 16)) fk_X7_59 0 dX7_owed_13 (pc' := 16) rfl rfl rfl ?_
    refine yy_iload_n C 1 dX7_owed_16 (pc' := 17) rfl rfl rfl ?_
    refine yy_iald C 16 dX7_owed_17 (pc' := 18) rfl rfl (by omega) (by decide) ?_
    subst hQ
    exact ye_i C hr (vp_nar_int _) (mN M 0 (cd1 5 (nI ja))) dX7_owed_18 rfl (by decide) (by decide) ⟨(cd1 5 (nI ja)), by simp [cd1, cd1, zn1, eja], Or.inl ⟨(by simp [cd1, zn1, eja]), ja, rfl, hja, rfl, rfl⟩⟩
  · skip
    have zn1 : inR a (5) = false := by simpa [mN, va_up] using c_5
    refine yy_iconst C (v := (nI 0)) dX7_owed_8 (pc' := 9) rfl (by decide) ?_
    refine yy_goto C (tgt := 18) dX7_owed_9 (by decide) ?_
    subst hQ
    exact ye_i C hr (vp_nar_int _) (mN M 0 (cd1 5 a)) dX7_owed_18 rfl (by decide) (by decide) ⟨(cd1 5 a), by simp [cd1, cd1, zn1], Or.inr ⟨(by simp [cd1, zn1]), rfl⟩⟩

abbrev rX7_state : Room := { frames := 2, cells := 0, slots := 0, locals := 43 }
set_option maxHeartbeats 4000000 in
set_option maxRecDepth 100000 in
theorem mX7_state (l : Launch) (G : gG) (B0 : Nat) (bd : Nat → Nat) (F : va_W) (M : SM) (hq : ∀ j, j < M.1 6 → narrow .char (.int (M.2 20 j)) = .int (M.2 20 j)) (k : Int32) (hM : IM M) : Met l yX7_state (Cond.code yX7_state cX7_state 2 (some .char) :: WG) rX7_state (va_Pc [.ref (bd 0), .int k] (PR G B0 (wM G bd M ++ F))) (va_Qi (fun (r : Int32) (u : SM) => ∃ q : Nat, q = cd1 (M.1 6) k ∧ ((q = 0 ∧ ∃ j, k = nI j ∧ j < M.1 6 ∧ u = mN M 0 q ∧ r = M.2 20 j) ∨ (¬ q = 0 ∧ u = mN M 0 q))) (fun (u : SM) (t_ : State) => va_P G.1 vwCl (wM G bd u ++ F) t_.heap ∧ va_D (fun q => B0 ≤ q) (wM G bd u ++ F)) (fun q => B0 ≤ q)) rX7_state.cells rX7_state.slots (fun q => B0 ≤ q) := by
  refine met_of RX7 [(0, .ref (bd 0)), (1, .int k)] rfl (by decide) (Nat.le_of_ble_eq_true rfl) rfl ?_
  intro p e s m args below meth c C hr hnm
  refine yq ?_
  intro QQ hQ
  obtain ⟨j1, j2, j3, j4, j5, j6, j7, j8, jJ, jQ⟩ := id hM
  refine yy_aload_n C 0 dX7_state_0 (pc' := 1) rfl rfl rfl ?_
  refine yy_iload_n C 1 dX7_state_1 (pc' := 2) rfl rfl rfl ?_
  refine yc_i (yr_V C (As := [.int k]) (rest := []) lk_X7_158 cd_X7_noRequest im_X7_noRequest se_X7_noRequest (mX7_noRequest l G B0 bd F (M) k (by exact hM)) ⟨by decide, by decide⟩ ⟨by decide, by decide⟩ 0 rfl rfl rfl rfl (Nat.le_of_ble_eq_true rfl) dX7_state_2) (pc' := 5) rfl (fun r1 _ hw1 => ?_)
  subst hw1
  refine yb_if_eq C dX7_state_5 (pc' := 8) rfl (tgt := 13) (by decide) (fun c_5 => ?_) (fun c_5 => ?_)
  · skip
    have zn1 : inR k (M.1 6) = true := by simpa [mN, va_up] using c_5
    obtain ⟨jk, hjk, rfl⟩ := inR_of (by omega) zn1
    have ejk : ix (nI jk) = jk := ix_lt hjk (by omega)
    refine yy_aload_n C 0 dX7_state_13 (pc' := 14) rfl rfl rfl ?_
    refine yy_get C (v := .ref (bd 21)) fk_X7_75 0 dX7_state_14 (pc' := 17) rfl rfl rfl ?_
    refine yy_iload_n C 1 dX7_state_17 (pc' := 18) rfl rfl rfl ?_
    refine yy_cald C 21 dX7_state_18 (pc' := 19) rfl rfl (by omega) (by decide) ?_
    subst hQ
    exact ye_i C hr (hq jk hjk) (mN M 0 (cd1 (M.1 6) (nI jk))) dX7_state_19 rfl (by decide) (by decide) ⟨(cd1 (M.1 6) (nI jk)), by simp [cd1, cd1, zn1, ejk], Or.inl ⟨(by simp [cd1, zn1, ejk]), jk, rfl, hjk, rfl, rfl⟩⟩
  · skip
    have zn1 : inR k (M.1 6) = false := by simpa [mN, va_up] using c_5
    refine yy_bipush C (v := (nI 119)) dX7_state_8 (pc' := 10) rfl (by decide) ?_
    refine yy_goto C (tgt := 19) dX7_state_10 (by decide) ?_
    subst hQ
    exact ye_i C hr rfl (mN M 0 (cd1 (M.1 6) k)) dX7_state_19 rfl (by decide) (by decide) ⟨(cd1 (M.1 6) k), by simp [cd1, cd1, zn1], Or.inr ⟨(by simp [cd1, zn1]), rfl⟩⟩

abbrev rX7_setPrice : Room := { frames := 1, cells := 0, slots := 0, locals := 22 }
set_option maxHeartbeats 4000000 in
set_option maxRecDepth 100000 in
theorem mX7_setPrice (l : Launch) (G : gG) (B0 : Nat) (bd : Nat → Nat) (F : va_W) (M : SM) (z : Int32) (hM : IM M) : Met l yX7_setPrice (Cond.code yX7_setPrice cX7_setPrice 3 (some .int) :: WG) rX7_setPrice (va_Pc [.ref (bd 0), .int z] (PR G B0 (wM G bd M ++ F))) (va_Qi (fun (r : Int32) (u : SM) => ∃ q : Nat, q = cdPrice z ∧ ((q = 0 ∧ ∃ j, z = nI j ∧ j ≤ 99 ∧ u = mN (mN M 0 q) 7 j ∧ r = nI (M.1 7)) ∨ (¬ q = 0 ∧ u = mN M 0 q))) (fun (u : SM) (t_ : State) => va_P G.1 vwCl (wM G bd u ++ F) t_.heap ∧ va_D (fun q => B0 ≤ q) (wM G bd u ++ F)) (fun q => B0 ≤ q)) rX7_setPrice.cells rX7_setPrice.slots (fun q => B0 ≤ q) := by
  refine met_of RX7 [(0, .ref (bd 0)), (1, .int z)] rfl (by decide) (Nat.le_of_ble_eq_true rfl) rfl ?_
  intro p e s m args below meth c C hr hnm
  refine yq ?_
  intro QQ hQ
  obtain ⟨j1, j2, j3, j4, j5, j6, j7, j8, jJ, jQ⟩ := id hM
  refine yy_iload_n C 1 dX7_setPrice_0 (pc' := 1) rfl rfl rfl ?_
  refine yy_iconst C (v := (nI 0)) dX7_setPrice_1 (pc' := 2) rfl (by decide) ?_
  refine yy_bipush C (v := (nI 99)) dX7_setPrice_2 (pc' := 4) rfl (by decide) ?_
  refine yc_i (yr_S C (As := [.int z, .int (nI 0), .int (nI 99)]) (rest := []) lk_X7_85 cd_X7_isIn st_X7_isIn (mX7_isIn l G B0 (wM G bd M ++ F) z (nI 0) (nI 99)) ⟨by decide, by decide⟩ ⟨by decide, by decide⟩ rfl rfl (Nat.le_of_ble_eq_true rfl) dX7_setPrice_4) (pc' := 7) rfl (fun r1 _ hw1 => ?_)
  subst hw1
  refine yb_if_ne C dX7_setPrice_7 (pc' := 10) rfl (tgt := 16) (by decide) (fun c_7 => ?_) (fun c_7 => ?_)
  · skip
    have zn1 : inB z 0 (nI 99) = true := by simp only [← nI_0]; exact c_7
    obtain ⟨jz, hjz, rfl⟩ := nI_rng0 (z := z) (n := 99) (by decide) (by simp [inB] at zn1; exact Int32.not_lt.mpr zn1.1) (by simp [inB] at zn1; exact zn1.2)
    refine yy_aload_n C 0 dX7_setPrice_16 (pc' := 17) rfl rfl rfl ?_
    refine yy_iconst C (v := (nI 0)) dX7_setPrice_17 (pc' := 18) rfl (by decide) ?_
    refine yy_put C (w' := wM G bd (mN M 0 0) ++ F) fk_X7_79 fpW7 rfl 0 dX7_setPrice_18 (pc' := 21) rfl rfl rfl rfl (Nat.le_of_ble_eq_true rfl) rfl ?_
    refine yy_aload_n C 0 dX7_setPrice_21 (pc' := 22) rfl rfl rfl ?_
    refine yy_get C (v := .int (nI (M.1 7))) fk_X7_7 0 dX7_setPrice_22 (pc' := 25) rfl rfl rfl ?_
    refine yy_istore_n C (L' := [(2, .int (nI (M.1 7))), (0, .ref (bd 0)), (1, .int (nI jz))]) dX7_setPrice_25 (pc' := 26) rfl rfl (by decide) rfl ?_
    refine yy_aload_n C 1 dX7_setPrice_26 (pc' := 27) rfl rfl rfl ?_
    refine yy_iload_n C 2 dX7_setPrice_27 (pc' := 28) rfl rfl rfl ?_
    refine yy_put C (w' := wM G bd (mN (mN M 0 0) 7 jz) ++ F) fk_X7_7 fpW7 rfl 0 dX7_setPrice_28 (pc' := 31) rfl rfl rfl rfl (Nat.le_of_ble_eq_true rfl) rfl ?_
    refine yy_iload_n C 0 dX7_setPrice_31 (pc' := 32) rfl rfl rfl ?_
    subst hQ
    exact ye_i C hr (vp_nar_int _) (mN (mN M 0 0) 7 jz) dX7_setPrice_32 rfl (by decide) (by decide) ⟨0, by simp [cd1, cdPrice, zn1], Or.inl ⟨rfl, jz, rfl, hjz, rfl, rfl⟩⟩
  · skip
    have zn1 : inB z 0 (nI 99) = false := by simp only [← nI_0]; exact c_7
    refine yy_aload_n C 0 dX7_setPrice_10 (pc' := 11) rfl rfl rfl ?_
    refine yy_iconst C (v := (nI 1)) dX7_setPrice_11 (pc' := 12) rfl (by decide) ?_
    refine yc_i (yr_V C (As := [.int (nI 1)]) (rest := []) lk_X7_92 cd_X7_refuse im_X7_refuse se_X7_refuse (mX7_refuse l G B0 bd F (M) 1) ⟨by decide, by decide⟩ ⟨by decide, by decide⟩ 0 rfl rfl rfl rfl (Nat.le_of_ble_eq_true rfl) dX7_setPrice_12) (pc' := 15) rfl (fun r2 _ hw2 => ?_)
    subst hw2
    subst hQ
    exact ye_i C hr (vp_nar_int _) (mN M 0 1) dX7_setPrice_15 rfl (by decide) (by decide) ⟨1, by simp [cd1, cdPrice, zn1], Or.inr ⟨(by decide), rfl⟩⟩

abbrev rX7_pay : Room := { frames := 2, cells := 0, slots := 0, locals := 43 }
set_option maxHeartbeats 4000000 in
set_option maxRecDepth 100000 in
theorem mX7_pay (l : Launch) (G : gG) (B0 : Nat) (bd : Nat → Nat) (F : va_W) (M : SM) (a z : Int32) (hM : IM M) : Met l yX7_pay (Cond.code yX7_pay cX7_pay 3 (some .int) :: WG) rX7_pay (va_Pc [.ref (bd 0), .int a, .int z] (PR G B0 (wM G bd M ++ F))) (va_Qi (fun (r : Int32) (u : SM) => ∃ q : Nat, q = cdPay (M.2 15) a z ∧ ((q = 0 ∧ ∃ j, a = nI j ∧ j < 5 ∧ u = mN (mI M 15 (upd (M.2 15) j (M.2 15 j - z))) 0 q ∧ r = M.2 15 j - z) ∨ (¬ q = 0 ∧ u = mN M 0 q))) (fun (u : SM) (t_ : State) => va_P G.1 vwCl (wM G bd u ++ F) t_.heap ∧ va_D (fun q => B0 ≤ q) (wM G bd u ++ F)) (fun q => B0 ≤ q)) rX7_pay.cells rX7_pay.slots (fun q => B0 ≤ q) := by
  refine met_of RX7 [(0, .ref (bd 0)), (1, .int a), (2, .int z)] rfl (by decide) (Nat.le_of_ble_eq_true rfl) rfl ?_
  intro p e s m args below meth c C hr hnm
  refine yq ?_
  intro QQ hQ
  obtain ⟨j1, j2, j3, j4, j5, j6, j7, j8, jJ, jQ⟩ := id hM
  refine yy_aload_n C 0 dX7_pay_0 (pc' := 1) rfl rfl rfl ?_
  refine yy_iload_n C 1 dX7_pay_1 (pc' := 2) rfl rfl rfl ?_
  refine yc_i (yr_V C (As := [.int a]) (rest := []) lk_X7_135 cd_X7_noAsker im_X7_noAsker se_X7_noAsker (mX7_noAsker l G B0 bd F (M) a (by exact hM)) ⟨by decide, by decide⟩ ⟨by decide, by decide⟩ 0 rfl rfl rfl rfl (Nat.le_of_ble_eq_true rfl) dX7_pay_2) (pc' := 5) rfl (fun r1 _ hw1 => ?_)
  subst hw1
  refine yb_if_eq C dX7_pay_5 (pc' := 8) rfl (tgt := 10) (by decide) (fun c_5 => ?_) (fun c_5 => ?_)
  · skip
    have zn1 : inR a (5) = true := by simpa [mN, va_up] using c_5
    obtain ⟨ja, hja, rfl⟩ := inR_of (by omega) zn1
    have eja : ix (nI ja) = ja := ix_lt hja (by omega)
    refine yy_iload_n C 2 dX7_pay_10 (pc' := 11) rfl rfl rfl ?_
    refine yy_iconst C (v := (nI 1)) dX7_pay_11 (pc' := 12) rfl (by decide) ?_
    refine yy_aload_n C 0 dX7_pay_12 (pc' := 13) rfl rfl rfl ?_
    refine yy_get C (v := .ref (bd 16)) fk_X7_59 0 dX7_pay_13 (pc' := 16) rfl rfl rfl ?_
    refine yy_iload_n C 1 dX7_pay_16 (pc' := 17) rfl rfl rfl ?_
    refine yy_iald C 16 dX7_pay_17 (pc' := 18) rfl rfl (by omega) (by decide) ?_
    refine yc_i (yr_S C (As := [.int z, .int (nI 1), .int ((M.2 15) ja)]) (rest := []) lk_X7_85 cd_X7_isIn st_X7_isIn (mX7_isIn l G B0 (wM G bd (mN M 0 (cd1 5 (nI ja))) ++ F) z (nI 1) ((M.2 15) ja)) ⟨by decide, by decide⟩ ⟨by decide, by decide⟩ rfl rfl (Nat.le_of_ble_eq_true rfl) dX7_pay_18) (pc' := 21) rfl (fun r2 _ hw2 => ?_)
    subst hw2
    refine yb_if_ne C dX7_pay_21 (pc' := 24) rfl (tgt := 30) (by decide) (fun c_21 => ?_) (fun c_21 => ?_)
    · skip
      have zn2 : inB z (nI 1) (M.2 15 ja) = true := by exact c_21
      refine yy_aload_n C 0 dX7_pay_30 (pc' := 31) rfl rfl rfl ?_
      refine yy_get C (v := .ref (bd 16)) fk_X7_59 0 dX7_pay_31 (pc' := 34) rfl rfl rfl ?_
      refine yy_iload_n C 1 dX7_pay_34 (pc' := 35) rfl rfl rfl ?_
      refine yy_dup2 C dX7_pay_35 (pc' := 36) rfl rfl rfl ?_
      refine yy_iald C 16 dX7_pay_36 (pc' := 37) rfl rfl (by omega) (by decide) ?_
      refine yy_iload_n C 2 dX7_pay_37 (pc' := 38) rfl rfl rfl ?_
      refine yy_isub C (v := (((M.2 15) ja) - z)) dX7_pay_38 (pc' := 39) rfl rfl ?_
      refine yy_iast C (w' := wM G bd (mN (mI M 15 (upd (M.2 15) ja (((M.2 15) ja) - z))) 0 (cd1 5 (nI ja))) ++ F) 16 dX7_pay_39 (pc' := 40) rfl rfl (by omega) (by decide) rfl ?_
      refine yy_aload_n C 0 dX7_pay_40 (pc' := 41) rfl rfl rfl ?_
      refine yy_get C (v := .ref (bd 16)) fk_X7_59 0 dX7_pay_41 (pc' := 44) rfl rfl rfl ?_
      refine yy_iload_n C 1 dX7_pay_44 (pc' := 45) rfl rfl rfl ?_
      refine yy_iald C 16 dX7_pay_45 (pc' := 46) rfl rfl (by omega) (by decide) ?_
      subst hQ
      exact ye_i C hr (vp_nar_int _) (mN (mI M 15 (upd (M.2 15) ja (((M.2 15) ja) - z))) 0 (cd1 5 (nI ja))) dX7_pay_46 rfl (by decide) (by decide) ⟨(cd1 5 (nI ja)), by simp [cd1, cdPay, zn1, eja, zn2], Or.inl ⟨(by simp [cd1, zn1, eja, zn2]), ja, rfl, hja, rfl, pk_us⟩⟩
    · skip
      have zn2 : inB z (nI 1) (M.2 15 ja) = false := by exact c_21
      refine yy_aload_n C 0 dX7_pay_24 (pc' := 25) rfl rfl rfl ?_
      refine yy_iconst C (v := (nI 1)) dX7_pay_25 (pc' := 26) rfl (by decide) ?_
      refine yc_i (yr_V C (As := [.int (nI 1)]) (rest := []) lk_X7_92 cd_X7_refuse im_X7_refuse se_X7_refuse (mX7_refuse l G B0 bd F (mN M 0 (cd1 5 (nI ja))) 1) ⟨by decide, by decide⟩ ⟨by decide, by decide⟩ 0 rfl rfl rfl rfl (Nat.le_of_ble_eq_true rfl) dX7_pay_26) (pc' := 29) rfl (fun r3 _ hw3 => ?_)
      subst hw3
      subst hQ
      exact ye_i C hr (vp_nar_int _) (mN M 0 1) dX7_pay_29 rfl (by decide) (by decide) ⟨1, by simp [cd1, cdPay, zn1, eja, zn2], Or.inr ⟨(by decide), rfl⟩⟩
  · skip
    have zn1 : inR a (5) = false := by simpa [mN, va_up] using c_5
    refine yy_iconst C (v := (nI 0)) dX7_pay_8 (pc' := 9) rfl (by decide) ?_
    subst hQ
    exact ye_i C hr (vp_nar_int _) (mN M 0 (cd1 5 a)) dX7_pay_9 rfl (by decide) (by decide) ⟨(cd1 5 a), by simp [cd1, cdPay, zn1], Or.inr ⟨(by simp [cd1, zn1]), rfl⟩⟩

abbrev rX7_pass : Room := { frames := 1, cells := 0, slots := 0, locals := 22 }
set_option maxHeartbeats 4000000 in
set_option maxRecDepth 100000 in
theorem mX7_pass (l : Launch) (G : gG) (B0 : Nat) (bd : Nat → Nat) (F : va_W) (M : SM) (z : Int32) (hM : IM M) : Met l yX7_pass (Cond.code yX7_pass cX7_pass 3 (some .int) :: WG) rX7_pass (va_Pc [.ref (bd 0), .int z] (PR G B0 (wM G bd M ++ F))) (va_Qi (fun (r : Int32) (u : SM) => ∃ q : Nat, q = cdPass (M.1 8) z ∧ ((q = 0 ∧ ∃ j, z = nI j ∧ (1 ≤ j ∧ j ≤ 90 ∧ M.1 8 + j ≤ 9999) ∧ u = mN (mN M 0 q) 8 (M.1 8 + j) ∧ r = nI (lateC (M.1 6) (M.2 20) (M.2 14) (M.1 8 + j)) - nI (lateC (M.1 6) (M.2 20) (M.2 14) (M.1 8))) ∨ (¬ q = 0 ∧ u = mN M 0 q))) (fun (u : SM) (t_ : State) => va_P G.1 vwCl (wM G bd u ++ F) t_.heap ∧ va_D (fun q => B0 ≤ q) (wM G bd u ++ F)) (fun q => B0 ≤ q)) rX7_pass.cells rX7_pass.slots (fun q => B0 ≤ q) := by
  refine met_of RX7 [(0, .ref (bd 0)), (1, .int z)] rfl (by decide) (Nat.le_of_ble_eq_true rfl) rfl ?_
  intro p e s m args below meth c C hr hnm
  refine yq ?_
  intro QQ hQ
  obtain ⟨j1, j2, j3, j4, j5, j6, j7, j8, jJ, jQ⟩ := id hM
  refine yy_iload_n C 1 dX7_pass_0 (pc' := 1) rfl rfl rfl ?_
  refine yy_iconst C (v := (nI 1)) dX7_pass_1 (pc' := 2) rfl (by decide) ?_
  refine yy_bipush C (v := (nI 90)) dX7_pass_2 (pc' := 4) rfl (by decide) ?_
  refine yc_i (yr_S C (As := [.int z, .int (nI 1), .int (nI 90)]) (rest := []) lk_X7_85 cd_X7_isIn st_X7_isIn (mX7_isIn l G B0 (wM G bd M ++ F) z (nI 1) (nI 90)) ⟨by decide, by decide⟩ ⟨by decide, by decide⟩ rfl rfl (Nat.le_of_ble_eq_true rfl) dX7_pass_4) (pc' := 7) rfl (fun r1 _ hw1 => ?_)
  subst hw1
  refine yb_if_eq C dX7_pass_7 (pc' := 10) rfl (tgt := 22) (by decide) (fun c_7 => ?_) (fun c_7 => ?_)
  · skip
    refine yy_aload_n C 0 dX7_pass_22 (pc' := 23) rfl rfl rfl ?_
    refine yy_iconst C (v := (nI 1)) dX7_pass_23 (pc' := 24) rfl (by decide) ?_
    refine yc_i (yr_V C (As := [.int (nI 1)]) (rest := []) lk_X7_92 cd_X7_refuse im_X7_refuse se_X7_refuse (mX7_refuse l G B0 bd F (M) 1) ⟨by decide, by decide⟩ ⟨by decide, by decide⟩ 0 rfl rfl rfl rfl (Nat.le_of_ble_eq_true rfl) dX7_pass_24) (pc' := 27) rfl (fun r2 _ hw2 => ?_)
    subst hw2
    subst hQ
    exact ye_i C hr (vp_nar_int _) (mN M 0 1) dX7_pass_27 rfl (by decide) (by decide) ⟨1, by simp [cdPass, c_7], Or.inr ⟨by decide, rfl⟩⟩
  · skip
    have zn0 := c_7
    obtain ⟨jz, hz1, hz2, rfl⟩ := nI_rng (z := z) (n := 90) (by decide) (by simp [inB] at zn0; exact Int32.not_lt.mpr zn0.1) (by simp [inB] at zn0; exact zn0.2)
    refine yy_aload_n C 0 dX7_pass_10 (pc' := 11) rfl rfl rfl ?_
    refine yy_get C (v := .int (nI (M.1 8))) fk_X7_106 0 dX7_pass_11 (pc' := 14) rfl rfl rfl ?_
    refine yy_iload_n C 1 dX7_pass_14 (pc' := 15) rfl rfl rfl ?_
    refine yy_iadd C (v := (nI ((M.1 8) + jz))) dX7_pass_15 (pc' := 16) rfl (nI_add (M.1 8) jz) ?_
    refine yy_sipush C (v := (nI 9999)) dX7_pass_16 (pc' := 19) rfl (by decide) ?_
    refine yn_icmp_le C (by omega) (by decide) dX7_pass_19 (pc' := 22) rfl (tgt := 28) (by decide) (fun c_19 => ?_) (fun c_19 => ?_)
    · skip
      refine yy_aload_n C 0 dX7_pass_28 (pc' := 29) rfl rfl rfl ?_
      refine yy_iconst C (v := (nI 0)) dX7_pass_29 (pc' := 30) rfl (by decide) ?_
      refine yy_put C (w' := wM G bd (mN M 0 0) ++ F) fk_X7_79 fpW7 rfl 0 dX7_pass_30 (pc' := 33) rfl rfl rfl rfl (Nat.le_of_ble_eq_true rfl) rfl ?_
      refine yy_aload_n C 0 dX7_pass_33 (pc' := 34) rfl rfl rfl ?_
      refine yc_i (yr_V C (As := []) (rest := []) lk_X7_165 cd_X7_lateOnes im_X7_lateOnes se_X7_lateOnes (mX7_lateOnes l G B0 bd F (mN M 0 0) (by exact hM)) ⟨by decide, by decide⟩ ⟨by decide, by decide⟩ 0 rfl rfl rfl rfl (Nat.le_of_ble_eq_true rfl) dX7_pass_34) (pc' := 37) rfl (fun r2 _ hw2 => ?_)
      subst hw2
      refine yy_istore_n C (L' := [(2, .int (nI (lateC (M.1 6) (M.2 20) (M.2 14) (M.1 8)))), (0, .ref (bd 0)), (1, .int (nI jz))]) dX7_pass_37 (pc' := 38) rfl rfl (by decide) rfl ?_
      refine yy_aload_n C 1 dX7_pass_38 (pc' := 39) rfl rfl rfl ?_
      refine yy_dup C dX7_pass_39 (pc' := 40) rfl rfl ?_
      refine yy_get C (v := .int (nI (M.1 8))) fk_X7_106 0 dX7_pass_40 (pc' := 43) rfl rfl rfl ?_
      refine yy_iload_n C 2 dX7_pass_43 (pc' := 44) rfl rfl rfl ?_
      refine yy_iadd C (v := (nI ((M.1 8) + jz))) dX7_pass_44 (pc' := 45) rfl (nI_add (M.1 8) jz) ?_
      refine yy_put C (w' := wM G bd (mN (mN M 0 0) 8 ((M.1 8) + jz)) ++ F) fk_X7_106 fpW7 rfl 0 dX7_pass_45 (pc' := 48) rfl rfl rfl rfl (Nat.le_of_ble_eq_true rfl) rfl ?_
      refine yy_aload_n C 1 dX7_pass_48 (pc' := 49) rfl rfl rfl ?_
      refine yc_i (yr_V C (As := []) (rest := []) lk_X7_165 cd_X7_lateOnes im_X7_lateOnes se_X7_lateOnes (mX7_lateOnes l G B0 bd F (mN (mN M 0 0) 8 ((M.1 8) + jz)) (show IM (mN M 8 (M.1 8 + jz)) from ⟨j1, j2, j3, j4, j5, j6, j7, c_19, jJ, jQ⟩)) ⟨by decide, by decide⟩ ⟨by decide, by decide⟩ 0 rfl rfl rfl rfl (Nat.le_of_ble_eq_true rfl) dX7_pass_49) (pc' := 52) rfl (fun r3 _ hw3 => ?_)
      subst hw3
      refine yy_iload_n C 0 dX7_pass_52 (pc' := 53) rfl rfl rfl ?_
      refine yy_isub C (v := ((nI (lateC (M.1 6) (M.2 20) (M.2 14) ((M.1 8) + jz))) - (nI (lateC (M.1 6) (M.2 20) (M.2 14) (M.1 8))))) dX7_pass_53 (pc' := 54) rfl rfl ?_
      subst hQ
      exact ye_i C hr (vp_nar_int _) (mN (mN M 0 0) 8 ((M.1 8) + jz)) dX7_pass_54 rfl (by decide) (by decide) ⟨0, (pass_0 hz1 hz2 c_19).symm, Or.inl ⟨rfl, jz, rfl, ⟨hz1, hz2, c_19⟩, rfl, rfl⟩⟩
    · skip
      refine yy_aload_n C 0 dX7_pass_22 (pc' := 23) rfl rfl rfl ?_
      refine yy_iconst C (v := (nI 1)) dX7_pass_23 (pc' := 24) rfl (by decide) ?_
      refine yc_i (yr_V C (As := [.int (nI 1)]) (rest := []) lk_X7_92 cd_X7_refuse im_X7_refuse se_X7_refuse (mX7_refuse l G B0 bd F (M) 1) ⟨by decide, by decide⟩ ⟨by decide, by decide⟩ 0 rfl rfl rfl rfl (Nat.le_of_ble_eq_true rfl) dX7_pass_24) (pc' := 27) rfl (fun r2 _ hw2 => ?_)
      subst hw2
      subst hQ
      exact ye_i C hr (vp_nar_int _) (mN M 0 1) dX7_pass_27 rfl (by decide) (by decide) ⟨1, (pass_1 hz1 hz2 j8 c_19).symm, Or.inr ⟨by decide, rfl⟩⟩
