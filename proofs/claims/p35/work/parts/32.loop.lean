theorem pm_1_0_2_3 {α : Type} (c0_ c1_ c2_ c3_ : α) (t_ : List α) : List.Perm (c0_ :: c1_ :: c2_ :: c3_ :: t_) (c1_ :: c0_ :: c2_ :: c3_ :: t_) := by
  have h : List.Perm [c0_, c1_, c2_, c3_] [c1_, c0_, c2_, c3_] := perm_at (x := [c0_, c1_, c2_, c3_]) [1, 0, 2, 3] (by rw [show List.length [c0_, c1_, c2_, c3_] = 4 from rfl]; decide +kernel) rfl
  exact List.Perm.append_right t_ h

theorem pm_4_0_1_2_3 {α : Type} (c0_ c1_ c2_ c3_ c4_ : α) (t_ : List α) : List.Perm (c0_ :: c1_ :: c2_ :: c3_ :: c4_ :: t_) (c4_ :: c0_ :: c1_ :: c2_ :: c3_ :: t_) := by
  have h : List.Perm [c0_, c1_, c2_, c3_, c4_] [c4_, c0_, c1_, c2_, c3_] := perm_at (x := [c0_, c1_, c2_, c3_, c4_]) [4, 0, 1, 2, 3] (by rw [show List.length [c0_, c1_, c2_, c3_, c4_] = 5 from rfl]; decide +kernel) rfl
  exact List.Perm.append_right t_ h

theorem pm_1_0_2_3_4_5 {α : Type} (c0_ c1_ c2_ c3_ c4_ c5_ : α) (t_ : List α) : List.Perm (c0_ :: c1_ :: c2_ :: c3_ :: c4_ :: c5_ :: t_) (c1_ :: c0_ :: c2_ :: c3_ :: c4_ :: c5_ :: t_) := by
  have h : List.Perm [c0_, c1_, c2_, c3_, c4_, c5_] [c1_, c0_, c2_, c3_, c4_, c5_] := perm_at (x := [c0_, c1_, c2_, c3_, c4_, c5_]) [1, 0, 2, 3, 4, 5] (by rw [show List.length [c0_, c1_, c2_, c3_, c4_, c5_] = 6 from rfl]; decide +kernel) rfl
  exact List.Perm.append_right t_ h
set_option maxHeartbeats 4000000 in
set_option maxRecDepth 100000 in
theorem law_loop (l : Launch) (hl0 : l.stackTraces = false) {p : Program} {e : Env} {s : State} {m : MethodId} {args : Array Value} {below : List Frame} {meth : Method} {c : Code} {G : gG} {B0 : Nat} {QQ : State → Prop} (C : CX p s m args meth c cL_law RL 10 G B0) {b L0 : Nat} {xs : Nat → Int32} (hX : va_X b L0 xs s s.heap) (hbl : b < s.heap.size) (hbB : b < B0) (hL31 : L0 < 2 ^ 31) (ad : Nat → Nat) (K : ∀ S : SA, YY p l e room_1 s m args below meth c G B0 10 QQ 638 [] [] (wA G ad S ++ []) 600104 7301314) (S : SA) (hR : RI S) : YY p l e room_1 s m args below meth c G B0 10 QQ 379 [(4, .int (nI 0)), (2, .int (nI 0)), (0, .ref b), (1, .ref (ad 0))] [] (wA G ad S ++ []) 300 10000 := by
  have lp_379 : ∀ (f379_ : Nat) (i_ : Nat) (S : SA), (hi : i_ ≤ 24) → (hR : RI S) → 24 - i_ < f379_ → YY p l e room_1 s m args below meth c G B0 10 QQ 379 [(4, .int (nI i_)), (2, .int (nI (2 * i_))), (0, .ref (b)), (1, .ref (ad 0))] [] (wA G ad S ++ []) (300 + 3000 * i_) (10000 + 245000 * i_) := by
    intro f379_
    induction f379_ with
    | zero => intro i_ S hi hR hf_; exact absurd hf_ (Nat.not_lt_zero _)
    | succ f379_ ih379 =>
      intro i_ S hi hR hf379_
      refine yy_widen (cs2 := 300 + 3000 * i_ + 0) (ss2 := 10000 + 245000 * i_ + 0) (Nat.le_refl _) (Nat.le_refl _) ?_
      refine yy_iload C 0 dL_law_379 (pc' := 381) rfl rfl ?_
      refine yy_bipush C (v := (nI 24)) dL_law_381 (pc' := 383) rfl (by decide) ?_
      refine yn_icmp_ge C (by omega) (by decide) dL_law_383 (pc' := 386) rfl (tgt := 638) (by decide) (fun c_383 => ?_) (fun c_383 => ?_)
      · skip
        refine yy_widen (cs2 := 72300) (ss2 := 5890000) (show 300 + 3000 * i_ + 0 ≤ 72300 by omega) (show 10000 + 245000 * i_ + 0 ≤ 5890000 by omega) ?_
        refine yy_widen (cs2 := 600104) (ss2 := 7301314) (by decide) (by decide) ?_
        exact yy_loc [] rfl (K S)
      · skip
        have hL_ := hR.1.1.2.1
        refine yy_aload_n C 2 dL_law_386 (pc' := 387) rfl rfl rfl ?_
        refine yy_iload_n C 1 dL_law_387 (pc' := 388) rfl rfl rfl ?_
        refine yc_i (yr_SX C hX hbl hbB (As := [.ref (b), .int (nI (2 * i_))]) (rest := []) lk_L_229 cd_L_cell st_L_cell (mL_cell l G B0 (wA G ad S ++ []) b L0 (2 * i_) xs hbB hL31 (by omega)) ⟨by decide, by decide⟩ ⟨(show 300 + 3000 * i_ + 0 + 0 ≤ 600104 by omega), (show 10000 + 245000 * i_ + 0 + 0 ≤ 7301314 by omega)⟩ rfl rfl (Nat.le_of_ble_eq_true rfl) dL_law_388) (pc' := 391) rfl (fun r1 u1 hw1 => ?_)
        refine yy_sipush C (v := (nI 255)) dL_law_391 (pc' := 394) rfl (by decide) ?_
        refine yy_iand C (v := (and8 r1)) dL_law_394 (pc' := 395) rfl rfl ?_
        obtain ⟨j_, hj_, ej_⟩ := and8_lt r1
        refine yy_eqi ej_ ?_
        refine yy_istore C (L' := [(5, .int (nI j_)), (4, .int (nI i_)), (2, .int (nI (2 * i_))), (0, .ref (b)), (1, .ref (ad 0))]) dL_law_395 (pc' := 397) rfl (by decide) rfl ?_
        refine yy_new C inX7 (ci := 10) rfl fpX7 cl_L_116 ia_X7 ii_X7 dL_law_397 (pc' := 400) rfl (fs := [.int (nI 0)]) def_X7 (show 300 + 3000 * i_ + 0 + 1 ≤ 600104 by omega) (show 10000 + 245000 * i_ + 0 + 1 ≤ 7301314 by omega) (fun o1 => ?_)
        refine yy_perm (w' := wA G ad S ++ ((o1, .inr (10, [.int (nI 0)])) :: [])) List.perm_middle.symm ?_
        refine yy_widen (cs2 := 300 + 3000 * i_ + 1) (ss2 := 10000 + 245000 * i_ + 1) (show 300 + 3000 * i_ + 0 + 1 ≤ 300 + 3000 * i_ + 1 by omega) (show 10000 + 245000 * i_ + 0 + 1 ≤ 10000 + 245000 * i_ + 1 by omega) ?_
        refine yy_dup C dL_law_400 (pc' := 401) rfl rfl ?_
        refine yy_aload_n C 3 dL_law_401 (pc' := 402) rfl rfl rfl ?_
        refine yy_iload_n C 2 dL_law_402 (pc' := 403) rfl rfl rfl ?_
        refine yy_iconst C (v := (nI 1)) dL_law_403 (pc' := 404) rfl (by decide) ?_
        refine yy_iadd C (v := (nI ((2 * i_) + 1))) dL_law_404 (pc' := 405) rfl (nI_add (2 * i_) 1) ?_
        refine yc_i (yr_SX C hX hbl hbB (As := [.ref (b), .int (nI ((2 * i_) + 1))]) (rest := [.ref (o1), .ref (o1)]) lk_L_229 cd_L_cell st_L_cell (mL_cell l G B0 (wA G ad S ++ ((o1, .inr (10, [.int (nI 0)])) :: [])) b L0 ((2 * i_) + 1) xs hbB hL31 (by omega)) ⟨by decide, by decide⟩ ⟨(show 300 + 3000 * i_ + 1 + 0 ≤ 600104 by omega), (show 10000 + 245000 * i_ + 1 + 0 ≤ 7301314 by omega)⟩ rfl rfl (Nat.le_of_ble_eq_true rfl) dL_law_405) (pc' := 408) rfl (fun r2 u2 hw2 => ?_)
        refine yy_perm (w' := (o1, .inr (10, [.int (nI 0)])) :: (wA G ad S ++ [])) List.perm_middle ?_
        refine yc_v (yr_I C (As := [.int r2]) (rest := [.ref (o1)]) lk_L_233 cd_X7_init im_X7_init rfl (mX7_init l G B0 o1 (wA G ad S ++ []) (nI 0) r2) ⟨by decide, by decide⟩ ⟨(show 300 + 3000 * i_ + 1 + 0 ≤ 600104 by omega), (show 10000 + 245000 * i_ + 1 + 0 ≤ 7301314 by omega)⟩ rfl rfl (Nat.le_of_ble_eq_true rfl) dL_law_408) (pc' := 411) rfl (fun z1 _ => ?_)
        refine yy_perm (w' := wA G ad S ++ ((o1, .inr (10, [.int z1])) :: [])) List.perm_middle.symm ?_
        refine yy_astore C (L' := [(6, .ref (o1)), (5, .int (nI j_)), (4, .int (nI i_)), (2, .int (nI (2 * i_))), (0, .ref (b)), (1, .ref (ad 0))]) dL_law_411 (pc' := 413) rfl (by decide) rfl ?_
        refine yy_iinc C (v := (nI ((2 * i_) + 2))) (L' := [(2, .int (nI ((2 * i_) + 2))), (6, .ref (o1)), (5, .int (nI j_)), (4, .int (nI i_)), (0, .ref (b)), (1, .ref (ad 0))]) 3 dL_law_413 (pc' := 416) rfl rfl (nI_add (2 * i_) 2) (by decide) rfl ?_
        refine yy_iconst C (v := (nI 0)) dL_law_416 (pc' := 417) rfl (by decide) ?_
        refine yy_aload_n C 5 dL_law_417 (pc' := 418) rfl rfl rfl ?_
        refine yy_iconst C (v := (nI 0)) dL_law_418 (pc' := 419) rfl (by decide) ?_
        refine yc_i (yr_SW C (As := [.ref (ad 0), .int (nI 0)]) (rest := [.int (nI 0)]) lk_L_200 cd_L_lines st_L_lines (mL_lines l hl0 G B0 ad ((o1, .inr (10, [.int z1])) :: []) S (nI 0) hR.1.1) ⟨by decide, by decide⟩ ⟨(show 300 + 3000 * i_ + 1 + 1 ≤ 600104 by omega), (show 10000 + 245000 * i_ + 1 + 6 ≤ 7301314 by omega)⟩ rfl rfl (Nat.le_of_ble_eq_true rfl) dL_law_419) (pc' := 422) rfl (fun r4 _ hw4 => ?_)
        obtain rfl : r4 = qLines S (nI 0) := hw4
        refine yy_widen (cs2 := 300 + 3000 * i_ + 2) (ss2 := 10000 + 245000 * i_ + 7) (show 300 + 3000 * i_ + 1 + 1 ≤ 300 + 3000 * i_ + 2 by omega) (show 10000 + 245000 * i_ + 1 + 6 ≤ 10000 + 245000 * i_ + 7 by omega) ?_
        refine yc_i (yr_S C (As := [.int (nI 0), .int (qLines S (nI 0))]) (rest := []) lk_L_120 cd_J9_max_7cf53 st_J9_max_7cf53 (mJ9_maxI l G B0 (wA G ad S ++ ((o1, .inr (10, [.int z1])) :: [])) (qLines S (nI 0)) (linesIn S (nI 0) (S.1 1)) (ln_cases hR.1 (by decide)) (Nat.lt_of_le_of_lt ln_le (by omega))) ⟨by decide, by decide⟩ ⟨(show 300 + 3000 * i_ + 2 + 0 ≤ 600104 by omega), (show 10000 + 245000 * i_ + 7 + 0 ≤ 7301314 by omega)⟩ rfl rfl (Nat.le_of_ble_eq_true rfl) dL_law_422) (pc' := 425) rfl (fun r5 u3 hw5 => ?_)
        subst hw5
        refine yy_iconst C (v := (nI 0)) dL_law_425 (pc' := 426) rfl (by decide) ?_
        refine yy_aload_n C 5 dL_law_426 (pc' := 427) rfl rfl rfl ?_
        refine yy_iconst C (v := (nI 1)) dL_law_427 (pc' := 428) rfl (by decide) ?_
        refine yc_i (yr_SW C (As := [.ref (ad 0), .int (nI 1)]) (rest := [.int (nI 0), .int (nI (linesIn S (nI 0) (S.1 1)))]) lk_L_200 cd_L_lines st_L_lines (mL_lines l hl0 G B0 ad ((o1, .inr (10, [.int z1])) :: []) S (nI 1) hR.1.1) ⟨by decide, by decide⟩ ⟨(show 300 + 3000 * i_ + 2 + 1 ≤ 600104 by omega), (show 10000 + 245000 * i_ + 7 + 6 ≤ 7301314 by omega)⟩ rfl rfl (Nat.le_of_ble_eq_true rfl) dL_law_428) (pc' := 431) rfl (fun r6 _ hw6 => ?_)
        obtain rfl : r6 = qLines S (nI 1) := hw6
        refine yy_widen (cs2 := 300 + 3000 * i_ + 3) (ss2 := 10000 + 245000 * i_ + 13) (show 300 + 3000 * i_ + 2 + 1 ≤ 300 + 3000 * i_ + 3 by omega) (show 10000 + 245000 * i_ + 7 + 6 ≤ 10000 + 245000 * i_ + 13 by omega) ?_
        refine yc_i (yr_S C (As := [.int (nI 0), .int (qLines S (nI 1))]) (rest := [.int (nI (linesIn S (nI 0) (S.1 1)))]) lk_L_120 cd_J9_max_7cf53 st_J9_max_7cf53 (mJ9_maxI l G B0 (wA G ad S ++ ((o1, .inr (10, [.int z1])) :: [])) (qLines S (nI 1)) (linesIn S (nI 1) (S.1 1)) (ln_cases hR.1 (by decide)) (Nat.lt_of_le_of_lt ln_le (by omega))) ⟨by decide, by decide⟩ ⟨(show 300 + 3000 * i_ + 3 + 0 ≤ 600104 by omega), (show 10000 + 245000 * i_ + 13 + 0 ≤ 7301314 by omega)⟩ rfl rfl (Nat.le_of_ble_eq_true rfl) dL_law_431) (pc' := 434) rfl (fun r7 u4 hw7 => ?_)
        subst hw7
        refine yy_iadd C (v := (nI ((linesIn S (nI 0) (S.1 1)) + (linesIn S (nI 1) (S.1 1))))) dL_law_434 (pc' := 435) rfl (nI_add (linesIn S (nI 0) (S.1 1)) (linesIn S (nI 1) (S.1 1))) ?_
        refine yy_iconst C (v := (nI 0)) dL_law_435 (pc' := 436) rfl (by decide) ?_
        refine yy_aload_n C 5 dL_law_436 (pc' := 437) rfl rfl rfl ?_
        refine yy_iconst C (v := (nI 2)) dL_law_437 (pc' := 438) rfl (by decide) ?_
        refine yc_i (yr_SW C (As := [.ref (ad 0), .int (nI 2)]) (rest := [.int (nI 0), .int (nI ((linesIn S (nI 0) (S.1 1)) + (linesIn S (nI 1) (S.1 1))))]) lk_L_200 cd_L_lines st_L_lines (mL_lines l hl0 G B0 ad ((o1, .inr (10, [.int z1])) :: []) S (nI 2) hR.1.1) ⟨by decide, by decide⟩ ⟨(show 300 + 3000 * i_ + 3 + 1 ≤ 600104 by omega), (show 10000 + 245000 * i_ + 13 + 6 ≤ 7301314 by omega)⟩ rfl rfl (Nat.le_of_ble_eq_true rfl) dL_law_438) (pc' := 441) rfl (fun r8 _ hw8 => ?_)
        obtain rfl : r8 = qLines S (nI 2) := hw8
        refine yy_widen (cs2 := 300 + 3000 * i_ + 4) (ss2 := 10000 + 245000 * i_ + 19) (show 300 + 3000 * i_ + 3 + 1 ≤ 300 + 3000 * i_ + 4 by omega) (show 10000 + 245000 * i_ + 13 + 6 ≤ 10000 + 245000 * i_ + 19 by omega) ?_
        refine yc_i (yr_S C (As := [.int (nI 0), .int (qLines S (nI 2))]) (rest := [.int (nI ((linesIn S (nI 0) (S.1 1)) + (linesIn S (nI 1) (S.1 1))))]) lk_L_120 cd_J9_max_7cf53 st_J9_max_7cf53 (mJ9_maxI l G B0 (wA G ad S ++ ((o1, .inr (10, [.int z1])) :: [])) (qLines S (nI 2)) (linesIn S (nI 2) (S.1 1)) (ln_cases hR.1 (by decide)) (Nat.lt_of_le_of_lt ln_le (by omega))) ⟨by decide, by decide⟩ ⟨(show 300 + 3000 * i_ + 4 + 0 ≤ 600104 by omega), (show 10000 + 245000 * i_ + 19 + 0 ≤ 7301314 by omega)⟩ rfl rfl (Nat.le_of_ble_eq_true rfl) dL_law_441) (pc' := 444) rfl (fun r9 u5 hw9 => ?_)
        subst hw9
        refine yy_iadd C (v := (nI (((linesIn S (nI 0) (S.1 1)) + (linesIn S (nI 1) (S.1 1))) + (linesIn S (nI 2) (S.1 1))))) dL_law_444 (pc' := 445) rfl (nI_add ((linesIn S (nI 0) (S.1 1)) + (linesIn S (nI 1) (S.1 1))) (linesIn S (nI 2) (S.1 1))) ?_
        refine yy_iconst C (v := (nI 0)) dL_law_445 (pc' := 446) rfl (by decide) ?_
        refine yy_aload_n C 5 dL_law_446 (pc' := 447) rfl rfl rfl ?_
        refine yy_iconst C (v := (nI 3)) dL_law_447 (pc' := 448) rfl (by decide) ?_
        refine yc_i (yr_SW C (As := [.ref (ad 0), .int (nI 3)]) (rest := [.int (nI 0), .int (nI (((linesIn S (nI 0) (S.1 1)) + (linesIn S (nI 1) (S.1 1))) + (linesIn S (nI 2) (S.1 1))))]) lk_L_200 cd_L_lines st_L_lines (mL_lines l hl0 G B0 ad ((o1, .inr (10, [.int z1])) :: []) S (nI 3) hR.1.1) ⟨by decide, by decide⟩ ⟨(show 300 + 3000 * i_ + 4 + 1 ≤ 600104 by omega), (show 10000 + 245000 * i_ + 19 + 6 ≤ 7301314 by omega)⟩ rfl rfl (Nat.le_of_ble_eq_true rfl) dL_law_448) (pc' := 451) rfl (fun r10 _ hw10 => ?_)
        obtain rfl : r10 = qLines S (nI 3) := hw10
        refine yy_widen (cs2 := 300 + 3000 * i_ + 5) (ss2 := 10000 + 245000 * i_ + 25) (show 300 + 3000 * i_ + 4 + 1 ≤ 300 + 3000 * i_ + 5 by omega) (show 10000 + 245000 * i_ + 19 + 6 ≤ 10000 + 245000 * i_ + 25 by omega) ?_
        refine yc_i (yr_S C (As := [.int (nI 0), .int (qLines S (nI 3))]) (rest := [.int (nI (((linesIn S (nI 0) (S.1 1)) + (linesIn S (nI 1) (S.1 1))) + (linesIn S (nI 2) (S.1 1))))]) lk_L_120 cd_J9_max_7cf53 st_J9_max_7cf53 (mJ9_maxI l G B0 (wA G ad S ++ ((o1, .inr (10, [.int z1])) :: [])) (qLines S (nI 3)) (linesIn S (nI 3) (S.1 1)) (ln_cases hR.1 (by decide)) (Nat.lt_of_le_of_lt ln_le (by omega))) ⟨by decide, by decide⟩ ⟨(show 300 + 3000 * i_ + 5 + 0 ≤ 600104 by omega), (show 10000 + 245000 * i_ + 25 + 0 ≤ 7301314 by omega)⟩ rfl rfl (Nat.le_of_ble_eq_true rfl) dL_law_451) (pc' := 454) rfl (fun r11 u6 hw11 => ?_)
        subst hw11
        refine yy_iadd C (v := (nI ((((linesIn S (nI 0) (S.1 1)) + (linesIn S (nI 1) (S.1 1))) + (linesIn S (nI 2) (S.1 1))) + (linesIn S (nI 3) (S.1 1))))) dL_law_454 (pc' := 455) rfl (nI_add (((linesIn S (nI 0) (S.1 1)) + (linesIn S (nI 1) (S.1 1))) + (linesIn S (nI 2) (S.1 1))) (linesIn S (nI 3) (S.1 1))) ?_
        refine yy_iconst C (v := (nI 0)) dL_law_455 (pc' := 456) rfl (by decide) ?_
        refine yy_aload_n C 5 dL_law_456 (pc' := 457) rfl rfl rfl ?_
        refine yy_iconst C (v := (nI 4)) dL_law_457 (pc' := 458) rfl (by decide) ?_
        refine yc_i (yr_SW C (As := [.ref (ad 0), .int (nI 4)]) (rest := [.int (nI 0), .int (nI ((((linesIn S (nI 0) (S.1 1)) + (linesIn S (nI 1) (S.1 1))) + (linesIn S (nI 2) (S.1 1))) + (linesIn S (nI 3) (S.1 1))))]) lk_L_200 cd_L_lines st_L_lines (mL_lines l hl0 G B0 ad ((o1, .inr (10, [.int z1])) :: []) S (nI 4) hR.1.1) ⟨by decide, by decide⟩ ⟨(show 300 + 3000 * i_ + 5 + 1 ≤ 600104 by omega), (show 10000 + 245000 * i_ + 25 + 6 ≤ 7301314 by omega)⟩ rfl rfl (Nat.le_of_ble_eq_true rfl) dL_law_458) (pc' := 461) rfl (fun r12 _ hw12 => ?_)
        obtain rfl : r12 = qLines S (nI 4) := hw12
        refine yy_widen (cs2 := 300 + 3000 * i_ + 6) (ss2 := 10000 + 245000 * i_ + 31) (show 300 + 3000 * i_ + 5 + 1 ≤ 300 + 3000 * i_ + 6 by omega) (show 10000 + 245000 * i_ + 25 + 6 ≤ 10000 + 245000 * i_ + 31 by omega) ?_
        refine yc_i (yr_S C (As := [.int (nI 0), .int (qLines S (nI 4))]) (rest := [.int (nI ((((linesIn S (nI 0) (S.1 1)) + (linesIn S (nI 1) (S.1 1))) + (linesIn S (nI 2) (S.1 1))) + (linesIn S (nI 3) (S.1 1))))]) lk_L_120 cd_J9_max_7cf53 st_J9_max_7cf53 (mJ9_maxI l G B0 (wA G ad S ++ ((o1, .inr (10, [.int z1])) :: [])) (qLines S (nI 4)) (linesIn S (nI 4) (S.1 1)) (ln_cases hR.1 (by decide)) (Nat.lt_of_le_of_lt ln_le (by omega))) ⟨by decide, by decide⟩ ⟨(show 300 + 3000 * i_ + 6 + 0 ≤ 600104 by omega), (show 10000 + 245000 * i_ + 31 + 0 ≤ 7301314 by omega)⟩ rfl rfl (Nat.le_of_ble_eq_true rfl) dL_law_461) (pc' := 464) rfl (fun r13 u7 hw13 => ?_)
        subst hw13
        refine yy_iadd C (v := (nI (((((linesIn S (nI 0) (S.1 1)) + (linesIn S (nI 1) (S.1 1))) + (linesIn S (nI 2) (S.1 1))) + (linesIn S (nI 3) (S.1 1))) + (linesIn S (nI 4) (S.1 1))))) dL_law_464 (pc' := 465) rfl (nI_add ((((linesIn S (nI 0) (S.1 1)) + (linesIn S (nI 1) (S.1 1))) + (linesIn S (nI 2) (S.1 1))) + (linesIn S (nI 3) (S.1 1))) (linesIn S (nI 4) (S.1 1))) ?_
        refine yy_iconst C (v := (nI 0)) dL_law_465 (pc' := 466) rfl (by decide) ?_
        refine yy_aload_n C 5 dL_law_466 (pc' := 467) rfl rfl rfl ?_
        refine yy_iconst C (v := (nI 5)) dL_law_467 (pc' := 468) rfl (by decide) ?_
        refine yc_i (yr_SW C (As := [.ref (ad 0), .int (nI 5)]) (rest := [.int (nI 0), .int (nI (((((linesIn S (nI 0) (S.1 1)) + (linesIn S (nI 1) (S.1 1))) + (linesIn S (nI 2) (S.1 1))) + (linesIn S (nI 3) (S.1 1))) + (linesIn S (nI 4) (S.1 1))))]) lk_L_200 cd_L_lines st_L_lines (mL_lines l hl0 G B0 ad ((o1, .inr (10, [.int z1])) :: []) S (nI 5) hR.1.1) ⟨by decide, by decide⟩ ⟨(show 300 + 3000 * i_ + 6 + 1 ≤ 600104 by omega), (show 10000 + 245000 * i_ + 31 + 6 ≤ 7301314 by omega)⟩ rfl rfl (Nat.le_of_ble_eq_true rfl) dL_law_468) (pc' := 471) rfl (fun r14 _ hw14 => ?_)
        obtain rfl : r14 = qLines S (nI 5) := hw14
        refine yy_widen (cs2 := 300 + 3000 * i_ + 7) (ss2 := 10000 + 245000 * i_ + 37) (show 300 + 3000 * i_ + 6 + 1 ≤ 300 + 3000 * i_ + 7 by omega) (show 10000 + 245000 * i_ + 31 + 6 ≤ 10000 + 245000 * i_ + 37 by omega) ?_
        refine yc_i (yr_S C (As := [.int (nI 0), .int (qLines S (nI 5))]) (rest := [.int (nI (((((linesIn S (nI 0) (S.1 1)) + (linesIn S (nI 1) (S.1 1))) + (linesIn S (nI 2) (S.1 1))) + (linesIn S (nI 3) (S.1 1))) + (linesIn S (nI 4) (S.1 1))))]) lk_L_120 cd_J9_max_7cf53 st_J9_max_7cf53 (mJ9_maxI l G B0 (wA G ad S ++ ((o1, .inr (10, [.int z1])) :: [])) (qLines S (nI 5)) (linesIn S (nI 5) (S.1 1)) (ln_cases hR.1 (by decide)) (Nat.lt_of_le_of_lt ln_le (by omega))) ⟨by decide, by decide⟩ ⟨(show 300 + 3000 * i_ + 7 + 0 ≤ 600104 by omega), (show 10000 + 245000 * i_ + 37 + 0 ≤ 7301314 by omega)⟩ rfl rfl (Nat.le_of_ble_eq_true rfl) dL_law_471) (pc' := 474) rfl (fun r15 u8 hw15 => ?_)
        subst hw15
        refine yy_iadd C (v := (nI ((((((linesIn S (nI 0) (S.1 1)) + (linesIn S (nI 1) (S.1 1))) + (linesIn S (nI 2) (S.1 1))) + (linesIn S (nI 3) (S.1 1))) + (linesIn S (nI 4) (S.1 1))) + (linesIn S (nI 5) (S.1 1))))) dL_law_474 (pc' := 475) rfl (nI_add (((((linesIn S (nI 0) (S.1 1)) + (linesIn S (nI 1) (S.1 1))) + (linesIn S (nI 2) (S.1 1))) + (linesIn S (nI 3) (S.1 1))) + (linesIn S (nI 4) (S.1 1))) (linesIn S (nI 5) (S.1 1))) ?_
        refine yy_iconst C (v := (nI 0)) dL_law_475 (pc' := 476) rfl (by decide) ?_
        refine yy_aload_n C 5 dL_law_476 (pc' := 477) rfl rfl rfl ?_
        refine yy_bipush C (v := (nI 6)) dL_law_477 (pc' := 479) rfl (by decide) ?_
        refine yc_i (yr_SW C (As := [.ref (ad 0), .int (nI 6)]) (rest := [.int (nI 0), .int (nI ((((((linesIn S (nI 0) (S.1 1)) + (linesIn S (nI 1) (S.1 1))) + (linesIn S (nI 2) (S.1 1))) + (linesIn S (nI 3) (S.1 1))) + (linesIn S (nI 4) (S.1 1))) + (linesIn S (nI 5) (S.1 1))))]) lk_L_200 cd_L_lines st_L_lines (mL_lines l hl0 G B0 ad ((o1, .inr (10, [.int z1])) :: []) S (nI 6) hR.1.1) ⟨by decide, by decide⟩ ⟨(show 300 + 3000 * i_ + 7 + 1 ≤ 600104 by omega), (show 10000 + 245000 * i_ + 37 + 6 ≤ 7301314 by omega)⟩ rfl rfl (Nat.le_of_ble_eq_true rfl) dL_law_479) (pc' := 482) rfl (fun r16 _ hw16 => ?_)
        obtain rfl : r16 = qLines S (nI 6) := hw16
        refine yy_widen (cs2 := 300 + 3000 * i_ + 8) (ss2 := 10000 + 245000 * i_ + 43) (show 300 + 3000 * i_ + 7 + 1 ≤ 300 + 3000 * i_ + 8 by omega) (show 10000 + 245000 * i_ + 37 + 6 ≤ 10000 + 245000 * i_ + 43 by omega) ?_
        refine yc_i (yr_S C (As := [.int (nI 0), .int (qLines S (nI 6))]) (rest := [.int (nI ((((((linesIn S (nI 0) (S.1 1)) + (linesIn S (nI 1) (S.1 1))) + (linesIn S (nI 2) (S.1 1))) + (linesIn S (nI 3) (S.1 1))) + (linesIn S (nI 4) (S.1 1))) + (linesIn S (nI 5) (S.1 1))))]) lk_L_120 cd_J9_max_7cf53 st_J9_max_7cf53 (mJ9_maxI l G B0 (wA G ad S ++ ((o1, .inr (10, [.int z1])) :: [])) (qLines S (nI 6)) (linesIn S (nI 6) (S.1 1)) (ln_cases hR.1 (by decide)) (Nat.lt_of_le_of_lt ln_le (by omega))) ⟨by decide, by decide⟩ ⟨(show 300 + 3000 * i_ + 8 + 0 ≤ 600104 by omega), (show 10000 + 245000 * i_ + 43 + 0 ≤ 7301314 by omega)⟩ rfl rfl (Nat.le_of_ble_eq_true rfl) dL_law_482) (pc' := 485) rfl (fun r17 u9 hw17 => ?_)
        subst hw17
        refine yy_iadd C (v := (nI (((((((linesIn S (nI 0) (S.1 1)) + (linesIn S (nI 1) (S.1 1))) + (linesIn S (nI 2) (S.1 1))) + (linesIn S (nI 3) (S.1 1))) + (linesIn S (nI 4) (S.1 1))) + (linesIn S (nI 5) (S.1 1))) + (linesIn S (nI 6) (S.1 1))))) dL_law_485 (pc' := 486) rfl (nI_add ((((((linesIn S (nI 0) (S.1 1)) + (linesIn S (nI 1) (S.1 1))) + (linesIn S (nI 2) (S.1 1))) + (linesIn S (nI 3) (S.1 1))) + (linesIn S (nI 4) (S.1 1))) + (linesIn S (nI 5) (S.1 1))) (linesIn S (nI 6) (S.1 1))) ?_
        refine yy_iconst C (v := (nI 0)) dL_law_486 (pc' := 487) rfl (by decide) ?_
        refine yy_aload_n C 5 dL_law_487 (pc' := 488) rfl rfl rfl ?_
        refine yy_bipush C (v := (nI 7)) dL_law_488 (pc' := 490) rfl (by decide) ?_
        refine yc_i (yr_SW C (As := [.ref (ad 0), .int (nI 7)]) (rest := [.int (nI 0), .int (nI (((((((linesIn S (nI 0) (S.1 1)) + (linesIn S (nI 1) (S.1 1))) + (linesIn S (nI 2) (S.1 1))) + (linesIn S (nI 3) (S.1 1))) + (linesIn S (nI 4) (S.1 1))) + (linesIn S (nI 5) (S.1 1))) + (linesIn S (nI 6) (S.1 1))))]) lk_L_200 cd_L_lines st_L_lines (mL_lines l hl0 G B0 ad ((o1, .inr (10, [.int z1])) :: []) S (nI 7) hR.1.1) ⟨by decide, by decide⟩ ⟨(show 300 + 3000 * i_ + 8 + 1 ≤ 600104 by omega), (show 10000 + 245000 * i_ + 43 + 6 ≤ 7301314 by omega)⟩ rfl rfl (Nat.le_of_ble_eq_true rfl) dL_law_490) (pc' := 493) rfl (fun r18 _ hw18 => ?_)
        obtain rfl : r18 = qLines S (nI 7) := hw18
        refine yy_widen (cs2 := 300 + 3000 * i_ + 9) (ss2 := 10000 + 245000 * i_ + 49) (show 300 + 3000 * i_ + 8 + 1 ≤ 300 + 3000 * i_ + 9 by omega) (show 10000 + 245000 * i_ + 43 + 6 ≤ 10000 + 245000 * i_ + 49 by omega) ?_
        refine yc_i (yr_S C (As := [.int (nI 0), .int (qLines S (nI 7))]) (rest := [.int (nI (((((((linesIn S (nI 0) (S.1 1)) + (linesIn S (nI 1) (S.1 1))) + (linesIn S (nI 2) (S.1 1))) + (linesIn S (nI 3) (S.1 1))) + (linesIn S (nI 4) (S.1 1))) + (linesIn S (nI 5) (S.1 1))) + (linesIn S (nI 6) (S.1 1))))]) lk_L_120 cd_J9_max_7cf53 st_J9_max_7cf53 (mJ9_maxI l G B0 (wA G ad S ++ ((o1, .inr (10, [.int z1])) :: [])) (qLines S (nI 7)) (linesIn S (nI 7) (S.1 1)) (ln_cases hR.1 (by decide)) (Nat.lt_of_le_of_lt ln_le (by omega))) ⟨by decide, by decide⟩ ⟨(show 300 + 3000 * i_ + 9 + 0 ≤ 600104 by omega), (show 10000 + 245000 * i_ + 49 + 0 ≤ 7301314 by omega)⟩ rfl rfl (Nat.le_of_ble_eq_true rfl) dL_law_493) (pc' := 496) rfl (fun r19 u10 hw19 => ?_)
        subst hw19
        refine yy_iadd C (v := (nI ((((((((linesIn S (nI 0) (S.1 1)) + (linesIn S (nI 1) (S.1 1))) + (linesIn S (nI 2) (S.1 1))) + (linesIn S (nI 3) (S.1 1))) + (linesIn S (nI 4) (S.1 1))) + (linesIn S (nI 5) (S.1 1))) + (linesIn S (nI 6) (S.1 1))) + (linesIn S (nI 7) (S.1 1))))) dL_law_496 (pc' := 497) rfl (nI_add (((((((linesIn S (nI 0) (S.1 1)) + (linesIn S (nI 1) (S.1 1))) + (linesIn S (nI 2) (S.1 1))) + (linesIn S (nI 3) (S.1 1))) + (linesIn S (nI 4) (S.1 1))) + (linesIn S (nI 5) (S.1 1))) + (linesIn S (nI 6) (S.1 1))) (linesIn S (nI 7) (S.1 1))) ?_
        refine yy_eqi (congrArg nI (ln_sum hR.1)) ?_
        refine yy_istore C (L' := [(7, .int (nI (S.1 1))), (2, .int (nI ((2 * i_) + 2))), (6, .ref (o1)), (5, .int (nI j_)), (4, .int (nI i_)), (0, .ref (b)), (1, .ref (ad 0))]) dL_law_497 (pc' := 499) rfl (by decide) rfl ?_
        refine yy_aload_n C 6 dL_law_499 (pc' := 500) rfl rfl rfl ?_
        refine yc_r (yr_S C (As := [.ref (ad 0)]) (rest := []) lk_L_236 cd_L_told st_L_told (mL_told l hl0 G B0 ad ((o1, .inr (10, [.int z1])) :: []) S hR.1.1 (tb_of hR)) ⟨by decide, by decide⟩ ⟨(show 300 + 3000 * i_ + 9 + 204 ≤ 600104 by omega), (show 10000 + 245000 * i_ + 49 + 112572 ≤ 7301314 by omega)⟩ rfl rfl (Nat.le_of_ble_eq_true rfl) dL_law_500) (pc' := 503) rfl (fun u11 hw20 => ?_)
        refine yy_widen (cs2 := 300 + 3000 * i_ + 213) (ss2 := 10000 + 245000 * i_ + 112621) (show 300 + 3000 * i_ + 9 + 204 ≤ 300 + 3000 * i_ + 213 by omega) (show 10000 + 245000 * i_ + 49 + 112572 ≤ 10000 + 245000 * i_ + 112621 by omega) ?_
        refine yy_astore C (L' := [(8, .ref (u11.1)), (7, .int (nI (S.1 1))), (2, .int (nI ((2 * i_) + 2))), (6, .ref (o1)), (5, .int (nI j_)), (4, .int (nI i_)), (0, .ref (b)), (1, .ref (ad 0))]) dL_law_503 (pc' := 505) rfl (by decide) rfl ?_
        refine yy_aload_n C 7 dL_law_505 (pc' := 506) rfl rfl rfl ?_
        refine yy_iload C 4 dL_law_506 (pc' := 508) rfl rfl ?_
        refine yy_aload C 3 dL_law_508 (pc' := 510) rfl rfl ?_
        refine yy_iload C 1 dL_law_510 (pc' := 512) rfl rfl ?_
        refine yy_perm (w' := wA G ad S ++ ((o1, .inr (10, [.int z1])) :: (u11.1, .inr (0, [.ref (u11.2.1), .int (nI 0), .int (nI 0), .int (nI 0)])) :: (u11.2.1, .inl (G.2.2.2.1, (toldT S).2, .inl u11.2.2)) :: [])) (List.Perm.append_left _ (pm_2_0_1 _ _ _ _)) ?_
        refine yc_i (yr_S C (As := [.ref (ad 0), .int (nI j_), .ref (o1), .int (nI (S.1 1))]) (rest := []) lk_L_240 cd_L_acts st_L_acts (mL_acts l hl0 G B0 ad ((u11.1, .inr (0, [.ref (u11.2.1), .int (nI 0), .int (nI 0), .int (nI 0)])) :: (u11.2.1, .inl (G.2.2.2.1, (toldT S).2, .inl u11.2.2)) :: []) S o1 j_ (S.1 1) z1 hR hj_ hL_) ⟨by decide, by decide⟩ ⟨(show 300 + 3000 * i_ + 213 + 1 ≤ 600104 by omega), (show 10000 + 245000 * i_ + 112621 + 6 ≤ 7301314 by omega)⟩ rfl rfl (Nat.le_of_ble_eq_true rfl) dL_law_512) (pc' := 515) rfl (fun r21 u12 hw21 => ?_)
        have hR2 : RI u12.1 := hw21.1
        have hL2_ := hR2.1.1.2.1
        refine yy_widen (cs2 := 300 + 3000 * i_ + 214) (ss2 := 10000 + 245000 * i_ + 112627) (show 300 + 3000 * i_ + 213 + 1 ≤ 300 + 3000 * i_ + 214 by omega) (show 10000 + 245000 * i_ + 112621 + 6 ≤ 10000 + 245000 * i_ + 112627 by omega) ?_
        refine yy_istore C (L' := [(9, .int r21), (8, .ref (u11.1)), (7, .int (nI (S.1 1))), (2, .int (nI ((2 * i_) + 2))), (6, .ref (o1)), (5, .int (nI j_)), (4, .int (nI i_)), (0, .ref (b)), (1, .ref (ad 0))]) dL_law_515 (pc' := 517) rfl (by decide) rfl ?_
        refine yy_iload C 0 dL_law_517 (pc' := 519) rfl rfl ?_
        refine yy_if_ge C dL_law_519 (pc' := 522) rfl (tgt := 536) (by decide) (fun c_519 => ?_) (fun c_519 => ?_)
        · skip
          refine yy_iload C 2 dL_law_536 (pc' := 538) rfl rfl ?_
          refine yy_iload C 5 dL_law_538 (pc' := 540) rfl rfl ?_
          refine yy_bipush C (v := (nI 28)) dL_law_540 (pc' := 542) rfl (by decide) ?_
          refine yy_irem C (v := (nI (j_ % 28))) dL_law_542 (pc' := 543) rfl (by decide) (pk_rem (by omega) (by decide) (by decide)) ?_
          refine yy_if_le C dL_law_543 (pc' := 546) rfl (tgt := 564) (by decide) (fun c_543 => ?_) (fun c_543 => ?_)
          · skip
            refine yy_iconst C (v := (nI 0)) dL_law_564 (pc' := 565) rfl (by decide) ?_
            refine yy_iadd C (v := (nI (S.1 1))) dL_law_565 (pc' := 566) rfl (nI_add (S.1 1) 0) ?_
            refine yy_eqi (congrArg nI (ac_0 hw21 (fun z => absurd ((nI_le0 (by omega)).mp c_543) (by omega)))) ?_
            refine yy_istore C (L' := [(7, .int (nI (u12.1.1 1))), (9, .int r21), (8, .ref (u11.1)), (2, .int (nI ((2 * i_) + 2))), (6, .ref (o1)), (5, .int (nI j_)), (4, .int (nI i_)), (0, .ref (b)), (1, .ref (ad 0))]) dL_law_566 (pc' := 568) rfl (by decide) rfl ?_
            refine yy_iload C 6 dL_law_568 (pc' := 570) rfl rfl ?_
            refine yy_iconst C (v := (nI 3)) dL_law_570 (pc' := 571) rfl (by decide) ?_
            refine yy_irem C (v := (nI (i_ % 3))) dL_law_571 (pc' := 572) rfl (by decide) (pk_rem (by omega) (by decide) (by decide)) ?_
            refine yy_iconst C (v := (nI 2)) dL_law_572 (pc' := 573) rfl (by decide) ?_
            refine yn_icmp_ne C (by omega) (by decide) dL_law_573 (pc' := 576) rfl (tgt := 632) (by decide) (fun c_573 => ?_) (fun c_573 => ?_)
            · skip
              refine yy_iinc C (v := (nI (i_ + 1))) (L' := [(4, .int (nI (i_ + 1))), (7, .int (nI (u12.1.1 1))), (9, .int r21), (8, .ref (u11.1)), (2, .int (nI ((2 * i_) + 2))), (6, .ref (o1)), (5, .int (nI j_)), (0, .ref (b)), (1, .ref (ad 0))]) 6 dL_law_632 (pc' := 635) rfl rfl (nI_add i_ 1) (by decide) rfl ?_
              refine yy_goto C (tgt := 379) dL_law_635 (by decide) ?_
              refine yy_drop (w' := wA G ad u12.1 ++ []) (List.Sublist.append_left (List.nil_sublist _) _) ?_
              refine yy_loc [0, 4, 7, 8] rfl ?_
              refine yy_widen (cs2 := 300 + 3000 * (i_ + 1)) (ss2 := 10000 + 245000 * (i_ + 1)) (show 300 + 3000 * i_ + 214 ≤ 300 + 3000 * (i_ + 1) by omega) (show 10000 + 245000 * i_ + 112627 ≤ 10000 + 245000 * (i_ + 1) by omega) ?_
              exact ih379 (i_ + 1) u12.1 (by omega) hR2 (by omega)
            · skip
              refine yy_aload_n C 8 dL_law_576 (pc' := 577) rfl rfl rfl ?_
              refine yy_aload C 4 dL_law_577 (pc' := 579) rfl rfl ?_
              refine yy_iconst C (v := (nI 5)) dL_law_579 (pc' := 580) rfl (by decide) ?_
              refine yy_perm (w' := (o1, .inr (10, [.int u12.2])) :: (wA G ad u12.1 ++ ((u11.1, .inr (0, [.ref (u11.2.1), .int (nI 0), .int (nI 0), .int (nI 0)])) :: (u11.2.1, .inl (G.2.2.2.1, (toldT S).2, .inl u11.2.2)) :: []))) List.perm_middle ?_
              refine yc_i (yr_V C (As := [.int (nI 5)]) (rest := [.ref (ad 0)]) lk_L_115 cd_X7_next im_X7_next se_X7_next (mX7_next l G B0 o1 (wA G ad u12.1 ++ ((u11.1, .inr (0, [.ref (u11.2.1), .int (nI 0), .int (nI 0), .int (nI 0)])) :: (u11.2.1, .inl (G.2.2.2.1, (toldT S).2, .inl u11.2.2)) :: [])) u12.2 5 (by decide)) ⟨by decide, by decide⟩ ⟨(show 300 + 3000 * i_ + 214 + 0 ≤ 600104 by omega), (show 10000 + 245000 * i_ + 112627 + 0 ≤ 7301314 by omega)⟩ 0 rfl rfl rfl rfl (Nat.le_of_ble_eq_true rfl) dL_law_580) (pc' := 583) rfl (fun r22 z2 hw22 => ?_)
              obtain ⟨a1_, ha1_, rfl⟩ := hw22
              refine yy_perm (w' := wA G ad u12.1 ++ ((o1, .inr (10, [.int z2])) :: (u11.1, .inr (0, [.ref (u11.2.1), .int (nI 0), .int (nI 0), .int (nI 0)])) :: (u11.2.1, .inl (G.2.2.2.1, (toldT S).2, .inl u11.2.2)) :: [])) List.perm_middle.symm ?_
              refine yy_iload C 0 dL_law_583 (pc' := 585) rfl rfl ?_
              refine yc_i (yr_S C (As := [.ref (ad 0), .int (nI a1_), .int (nI (u12.1.1 1))]) (rest := []) lk_L_250 cd_L_held_ st_L_held_ (mL_held_ l hl0 G B0 ad ((o1, .inr (10, [.int z2])) :: (u11.1, .inr (0, [.ref (u11.2.1), .int (nI 0), .int (nI 0), .int (nI 0)])) :: (u11.2.1, .inl (G.2.2.2.1, (toldT S).2, .inl u11.2.2)) :: []) u12.1 a1_ hR2 (show a1_ < 5 from ha1_)) ⟨by decide, by decide⟩ ⟨(show 300 + 3000 * i_ + 214 + 245 ≤ 600104 by omega), (show 10000 + 245000 * i_ + 112627 + 1470 ≤ 7301314 by omega)⟩ rfl rfl (Nat.le_of_ble_eq_true rfl) dL_law_585) (pc' := 588) rfl (fun r23 u13 hw23 => ?_)
              subst hw23
              refine yy_widen (cs2 := 300 + 3000 * i_ + 459) (ss2 := 10000 + 245000 * i_ + 114097) (show 300 + 3000 * i_ + 214 + 245 ≤ 300 + 3000 * i_ + 459 by omega) (show 10000 + 245000 * i_ + 112627 + 1470 ≤ 10000 + 245000 * i_ + 114097 by omega) ?_
              refine yy_if_eq C dL_law_588 (pc' := 591) rfl (tgt := 630) (by decide) (fun c_588 => ?_) (fun c_588 => ?_)
              · skip
                exact absurd c_588 (by decide)
              · skip
                refine yy_aload_n C 8 dL_law_591 (pc' := 592) rfl rfl rfl ?_
                refine yy_iload C 0 dL_law_592 (pc' := 594) rfl rfl ?_
                refine yc_i (yr_S C (As := [.ref (ad 0), .int (nI (u12.1.1 1))]) (rest := []) lk_L_253 cd_L_hidden st_L_hidden (mL_hidden l hl0 G B0 ad ((o1, .inr (10, [.int z2])) :: (u11.1, .inr (0, [.ref (u11.2.1), .int (nI 0), .int (nI 0), .int (nI 0)])) :: (u11.2.1, .inl (G.2.2.2.1, (toldT S).2, .inl u11.2.2)) :: []) u12.1 hR2) ⟨by decide, by decide⟩ ⟨(show 300 + 3000 * i_ + 459 + 378 ≤ 600104 by omega), (show 10000 + 245000 * i_ + 114097 + 2270 ≤ 7301314 by omega)⟩ rfl rfl (Nat.le_of_ble_eq_true rfl) dL_law_594) (pc' := 597) rfl (fun r24 u14 hw24 => ?_)
                subst hw24
                refine yy_widen (cs2 := 300 + 3000 * i_ + 837) (ss2 := 10000 + 245000 * i_ + 116367) (show 300 + 3000 * i_ + 459 + 378 ≤ 300 + 3000 * i_ + 837 by omega) (show 10000 + 245000 * i_ + 114097 + 2270 ≤ 10000 + 245000 * i_ + 116367 by omega) ?_
                refine yy_if_eq C dL_law_597 (pc' := 600) rfl (tgt := 630) (by decide) (fun c_597 => ?_) (fun c_597 => ?_)
                · skip
                  exact absurd c_597 (by decide)
                · skip
                  refine yy_aload_n C 8 dL_law_600 (pc' := 601) rfl rfl rfl ?_
                  refine yy_aload C 4 dL_law_601 (pc' := 603) rfl rfl ?_
                  refine yy_iconst C (v := (nI 4)) dL_law_603 (pc' := 604) rfl (by decide) ?_
                  refine yy_perm (w' := wA G ad u12.1 ++ ((o1, .inr (10, [.int z2])) :: (u14.1, .inl (G.2.1, 8, .inl u14.2)) :: (u11.1, .inr (0, [.ref (u11.2.1), .int (nI 0), .int (nI 0), .int (nI 0)])) :: (u11.2.1, .inl (G.2.2.2.1, (toldT S).2, .inl u11.2.2)) :: [])) (List.Perm.append_left _ (pm_1_0_2_3 _ _ _ _ _)) ?_
                  refine yy_perm (w' := (o1, .inr (10, [.int z2])) :: (wA G ad u12.1 ++ ((u14.1, .inl (G.2.1, 8, .inl u14.2)) :: (u11.1, .inr (0, [.ref (u11.2.1), .int (nI 0), .int (nI 0), .int (nI 0)])) :: (u11.2.1, .inl (G.2.2.2.1, (toldT S).2, .inl u11.2.2)) :: []))) List.perm_middle ?_
                  refine yc_i (yr_V C (As := [.int (nI 4)]) (rest := [.ref (ad 0)]) lk_L_115 cd_X7_next im_X7_next se_X7_next (mX7_next l G B0 o1 (wA G ad u12.1 ++ ((u14.1, .inl (G.2.1, 8, .inl u14.2)) :: (u11.1, .inr (0, [.ref (u11.2.1), .int (nI 0), .int (nI 0), .int (nI 0)])) :: (u11.2.1, .inl (G.2.2.2.1, (toldT S).2, .inl u11.2.2)) :: [])) z2 4 (by decide)) ⟨by decide, by decide⟩ ⟨(show 300 + 3000 * i_ + 837 + 0 ≤ 600104 by omega), (show 10000 + 245000 * i_ + 116367 + 0 ≤ 7301314 by omega)⟩ 0 rfl rfl rfl rfl (Nat.le_of_ble_eq_true rfl) dL_law_604) (pc' := 607) rfl (fun r25 z3 hw25 => ?_)
                  refine yy_perm (w' := wA G ad u12.1 ++ ((o1, .inr (10, [.int z3])) :: (u14.1, .inl (G.2.1, 8, .inl u14.2)) :: (u11.1, .inr (0, [.ref (u11.2.1), .int (nI 0), .int (nI 0), .int (nI 0)])) :: (u11.2.1, .inl (G.2.2.2.1, (toldT S).2, .inl u11.2.2)) :: [])) List.perm_middle.symm ?_
                  refine yy_iload C 0 dL_law_607 (pc' := 609) rfl rfl ?_
                  refine yc_i (yr_S C (As := [.ref (ad 0), .int r25, .int (nI (u12.1.1 1))]) (rest := []) lk_L_256 cd_L_answered st_L_answered (mL_answered l hl0 G B0 ad ((o1, .inr (10, [.int z3])) :: (u14.1, .inl (G.2.1, 8, .inl u14.2)) :: (u11.1, .inr (0, [.ref (u11.2.1), .int (nI 0), .int (nI 0), .int (nI 0)])) :: (u11.2.1, .inl (G.2.2.2.1, (toldT S).2, .inl u11.2.2)) :: []) u12.1 r25 hR2) ⟨by decide, by decide⟩ ⟨(show 300 + 3000 * i_ + 837 + 606 ≤ 600104 by omega), (show 10000 + 245000 * i_ + 116367 + 3830 ≤ 7301314 by omega)⟩ rfl rfl (Nat.le_of_ble_eq_true rfl) dL_law_609) (pc' := 612) rfl (fun r26 u15 hw26 => ?_)
                  obtain ⟨hr3, hR3, hn3⟩ := hw26
                  subst hr3
                  refine yy_widen (cs2 := 300 + 3000 * i_ + 1443) (ss2 := 10000 + 245000 * i_ + 120197) (show 300 + 3000 * i_ + 837 + 606 ≤ 300 + 3000 * i_ + 1443 by omega) (show 10000 + 245000 * i_ + 116367 + 3830 ≤ 10000 + 245000 * i_ + 120197 by omega) ?_
                  refine yy_if_eq C dL_law_612 (pc' := 615) rfl (tgt := 630) (by decide) (fun c_612 => ?_) (fun c_612 => ?_)
                  · skip
                    exact absurd c_612 (by decide)
                  · skip
                    refine yy_aload_n C 8 dL_law_615 (pc' := 616) rfl rfl rfl ?_
                    refine yy_aload C 4 dL_law_616 (pc' := 618) rfl rfl ?_
                    refine yy_iconst C (v := (nI 5)) dL_law_618 (pc' := 619) rfl (by decide) ?_
                    refine yy_perm (w' := (o1, .inr (10, [.int z3])) :: (wA G ad u15 ++ ((u14.1, .inl (G.2.1, 8, .inl u14.2)) :: (u11.1, .inr (0, [.ref (u11.2.1), .int (nI 0), .int (nI 0), .int (nI 0)])) :: (u11.2.1, .inl (G.2.2.2.1, (toldT S).2, .inl u11.2.2)) :: []))) List.perm_middle ?_
                    refine yc_i (yr_V C (As := [.int (nI 5)]) (rest := [.ref (ad 0)]) lk_L_115 cd_X7_next im_X7_next se_X7_next (mX7_next l G B0 o1 (wA G ad u15 ++ ((u14.1, .inl (G.2.1, 8, .inl u14.2)) :: (u11.1, .inr (0, [.ref (u11.2.1), .int (nI 0), .int (nI 0), .int (nI 0)])) :: (u11.2.1, .inl (G.2.2.2.1, (toldT S).2, .inl u11.2.2)) :: [])) z3 5 (by decide)) ⟨by decide, by decide⟩ ⟨(show 300 + 3000 * i_ + 1443 + 0 ≤ 600104 by omega), (show 10000 + 245000 * i_ + 120197 + 0 ≤ 7301314 by omega)⟩ 0 rfl rfl rfl rfl (Nat.le_of_ble_eq_true rfl) dL_law_619) (pc' := 622) rfl (fun r27 z4 hw27 => ?_)
                    obtain ⟨a2_, ha2_, rfl⟩ := hw27
                    refine yy_perm (w' := wA G ad u15 ++ ((o1, .inr (10, [.int z4])) :: (u14.1, .inl (G.2.1, 8, .inl u14.2)) :: (u11.1, .inr (0, [.ref (u11.2.1), .int (nI 0), .int (nI 0), .int (nI 0)])) :: (u11.2.1, .inl (G.2.2.2.1, (toldT S).2, .inl u11.2.2)) :: [])) List.perm_middle.symm ?_
                    refine yy_iload C 0 dL_law_622 (pc' := 624) rfl rfl ?_
                    refine yy_eqi (congrArg nI hn3.symm) ?_
                    refine yc_i (yr_S C (As := [.ref (ad 0), .int (nI a2_), .int (nI (u15.1 1))]) (rest := []) lk_L_250 cd_L_held_ st_L_held_ (mL_held_ l hl0 G B0 ad ((o1, .inr (10, [.int z4])) :: (u14.1, .inl (G.2.1, 8, .inl u14.2)) :: (u11.1, .inr (0, [.ref (u11.2.1), .int (nI 0), .int (nI 0), .int (nI 0)])) :: (u11.2.1, .inl (G.2.2.2.1, (toldT S).2, .inl u11.2.2)) :: []) u15 a2_ hR3 (show a2_ < 5 from ha2_)) ⟨by decide, by decide⟩ ⟨(show 300 + 3000 * i_ + 1443 + 245 ≤ 600104 by omega), (show 10000 + 245000 * i_ + 120197 + 1470 ≤ 7301314 by omega)⟩ rfl rfl (Nat.le_of_ble_eq_true rfl) dL_law_624) (pc' := 627) rfl (fun r28 u16 hw28 => ?_)
                    subst hw28
                    refine yy_widen (cs2 := 300 + 3000 * i_ + 1688) (ss2 := 10000 + 245000 * i_ + 121667) (show 300 + 3000 * i_ + 1443 + 245 ≤ 300 + 3000 * i_ + 1688 by omega) (show 10000 + 245000 * i_ + 120197 + 1470 ≤ 10000 + 245000 * i_ + 121667 by omega) ?_
                    refine yy_if_ne C dL_law_627 (pc' := 630) rfl (tgt := 632) (by decide) (fun c_627 => ?_) (fun c_627 => ?_)
                    · skip
                      refine yy_iinc C (v := (nI (i_ + 1))) (L' := [(4, .int (nI (i_ + 1))), (7, .int (nI (u12.1.1 1))), (9, .int r21), (8, .ref (u11.1)), (2, .int (nI ((2 * i_) + 2))), (6, .ref (o1)), (5, .int (nI j_)), (0, .ref (b)), (1, .ref (ad 0))]) 6 dL_law_632 (pc' := 635) rfl rfl (nI_add i_ 1) (by decide) rfl ?_
                      refine yy_goto C (tgt := 379) dL_law_635 (by decide) ?_
                      refine yy_drop (w' := wA G ad u15 ++ []) (List.Sublist.append_left (List.nil_sublist _) _) ?_
                      refine yy_loc [0, 4, 7, 8] rfl ?_
                      refine yy_widen (cs2 := 300 + 3000 * (i_ + 1)) (ss2 := 10000 + 245000 * (i_ + 1)) (show 300 + 3000 * i_ + 1688 ≤ 300 + 3000 * (i_ + 1) by omega) (show 10000 + 245000 * i_ + 121667 ≤ 10000 + 245000 * (i_ + 1) by omega) ?_
                      exact ih379 (i_ + 1) u15 (by omega) hR3 (by omega)
                    · skip
                      exact absurd c_627 (by decide)
          · skip
            refine yy_iload C 5 dL_law_546 (pc' := 548) rfl rfl ?_
            refine yy_bipush C (v := (nI 28)) dL_law_548 (pc' := 550) rfl (by decide) ?_
            refine yy_irem C (v := (nI (j_ % 28))) dL_law_550 (pc' := 551) rfl (by decide) (pk_rem (by omega) (by decide) (by decide)) ?_
            refine yy_iconst C (v := (nI 3)) dL_law_551 (pc' := 552) rfl (by decide) ?_
            refine yn_icmp_ge C (by omega) (by decide) dL_law_552 (pc' := 555) rfl (tgt := 564) (by decide) (fun c_552 => ?_) (fun c_552 => ?_)
            · skip
              refine yy_iconst C (v := (nI 0)) dL_law_564 (pc' := 565) rfl (by decide) ?_
              refine yy_iadd C (v := (nI (S.1 1))) dL_law_565 (pc' := 566) rfl (nI_add (S.1 1) 0) ?_
              refine yy_eqi (congrArg nI (ac_0 hw21 (fun z => absurd z.2 (by omega)))) ?_
              refine yy_istore C (L' := [(7, .int (nI (u12.1.1 1))), (9, .int r21), (8, .ref (u11.1)), (2, .int (nI ((2 * i_) + 2))), (6, .ref (o1)), (5, .int (nI j_)), (4, .int (nI i_)), (0, .ref (b)), (1, .ref (ad 0))]) dL_law_566 (pc' := 568) rfl (by decide) rfl ?_
              refine yy_iload C 6 dL_law_568 (pc' := 570) rfl rfl ?_
              refine yy_iconst C (v := (nI 3)) dL_law_570 (pc' := 571) rfl (by decide) ?_
              refine yy_irem C (v := (nI (i_ % 3))) dL_law_571 (pc' := 572) rfl (by decide) (pk_rem (by omega) (by decide) (by decide)) ?_
              refine yy_iconst C (v := (nI 2)) dL_law_572 (pc' := 573) rfl (by decide) ?_
              refine yn_icmp_ne C (by omega) (by decide) dL_law_573 (pc' := 576) rfl (tgt := 632) (by decide) (fun c_573 => ?_) (fun c_573 => ?_)
              · skip
                refine yy_iinc C (v := (nI (i_ + 1))) (L' := [(4, .int (nI (i_ + 1))), (7, .int (nI (u12.1.1 1))), (9, .int r21), (8, .ref (u11.1)), (2, .int (nI ((2 * i_) + 2))), (6, .ref (o1)), (5, .int (nI j_)), (0, .ref (b)), (1, .ref (ad 0))]) 6 dL_law_632 (pc' := 635) rfl rfl (nI_add i_ 1) (by decide) rfl ?_
                refine yy_goto C (tgt := 379) dL_law_635 (by decide) ?_
                refine yy_drop (w' := wA G ad u12.1 ++ []) (List.Sublist.append_left (List.nil_sublist _) _) ?_
                refine yy_loc [0, 4, 7, 8] rfl ?_
                refine yy_widen (cs2 := 300 + 3000 * (i_ + 1)) (ss2 := 10000 + 245000 * (i_ + 1)) (show 300 + 3000 * i_ + 214 ≤ 300 + 3000 * (i_ + 1) by omega) (show 10000 + 245000 * i_ + 112627 ≤ 10000 + 245000 * (i_ + 1) by omega) ?_
                exact ih379 (i_ + 1) u12.1 (by omega) hR2 (by omega)
              · skip
                refine yy_aload_n C 8 dL_law_576 (pc' := 577) rfl rfl rfl ?_
                refine yy_aload C 4 dL_law_577 (pc' := 579) rfl rfl ?_
                refine yy_iconst C (v := (nI 5)) dL_law_579 (pc' := 580) rfl (by decide) ?_
                refine yy_perm (w' := (o1, .inr (10, [.int u12.2])) :: (wA G ad u12.1 ++ ((u11.1, .inr (0, [.ref (u11.2.1), .int (nI 0), .int (nI 0), .int (nI 0)])) :: (u11.2.1, .inl (G.2.2.2.1, (toldT S).2, .inl u11.2.2)) :: []))) List.perm_middle ?_
                refine yc_i (yr_V C (As := [.int (nI 5)]) (rest := [.ref (ad 0)]) lk_L_115 cd_X7_next im_X7_next se_X7_next (mX7_next l G B0 o1 (wA G ad u12.1 ++ ((u11.1, .inr (0, [.ref (u11.2.1), .int (nI 0), .int (nI 0), .int (nI 0)])) :: (u11.2.1, .inl (G.2.2.2.1, (toldT S).2, .inl u11.2.2)) :: [])) u12.2 5 (by decide)) ⟨by decide, by decide⟩ ⟨(show 300 + 3000 * i_ + 214 + 0 ≤ 600104 by omega), (show 10000 + 245000 * i_ + 112627 + 0 ≤ 7301314 by omega)⟩ 0 rfl rfl rfl rfl (Nat.le_of_ble_eq_true rfl) dL_law_580) (pc' := 583) rfl (fun r22 z2 hw22 => ?_)
                obtain ⟨a1_, ha1_, rfl⟩ := hw22
                refine yy_perm (w' := wA G ad u12.1 ++ ((o1, .inr (10, [.int z2])) :: (u11.1, .inr (0, [.ref (u11.2.1), .int (nI 0), .int (nI 0), .int (nI 0)])) :: (u11.2.1, .inl (G.2.2.2.1, (toldT S).2, .inl u11.2.2)) :: [])) List.perm_middle.symm ?_
                refine yy_iload C 0 dL_law_583 (pc' := 585) rfl rfl ?_
                refine yc_i (yr_S C (As := [.ref (ad 0), .int (nI a1_), .int (nI (u12.1.1 1))]) (rest := []) lk_L_250 cd_L_held_ st_L_held_ (mL_held_ l hl0 G B0 ad ((o1, .inr (10, [.int z2])) :: (u11.1, .inr (0, [.ref (u11.2.1), .int (nI 0), .int (nI 0), .int (nI 0)])) :: (u11.2.1, .inl (G.2.2.2.1, (toldT S).2, .inl u11.2.2)) :: []) u12.1 a1_ hR2 (show a1_ < 5 from ha1_)) ⟨by decide, by decide⟩ ⟨(show 300 + 3000 * i_ + 214 + 245 ≤ 600104 by omega), (show 10000 + 245000 * i_ + 112627 + 1470 ≤ 7301314 by omega)⟩ rfl rfl (Nat.le_of_ble_eq_true rfl) dL_law_585) (pc' := 588) rfl (fun r23 u13 hw23 => ?_)
                subst hw23
                refine yy_widen (cs2 := 300 + 3000 * i_ + 459) (ss2 := 10000 + 245000 * i_ + 114097) (show 300 + 3000 * i_ + 214 + 245 ≤ 300 + 3000 * i_ + 459 by omega) (show 10000 + 245000 * i_ + 112627 + 1470 ≤ 10000 + 245000 * i_ + 114097 by omega) ?_
                refine yy_if_eq C dL_law_588 (pc' := 591) rfl (tgt := 630) (by decide) (fun c_588 => ?_) (fun c_588 => ?_)
                · skip
                  exact absurd c_588 (by decide)
                · skip
                  refine yy_aload_n C 8 dL_law_591 (pc' := 592) rfl rfl rfl ?_
                  refine yy_iload C 0 dL_law_592 (pc' := 594) rfl rfl ?_
                  refine yc_i (yr_S C (As := [.ref (ad 0), .int (nI (u12.1.1 1))]) (rest := []) lk_L_253 cd_L_hidden st_L_hidden (mL_hidden l hl0 G B0 ad ((o1, .inr (10, [.int z2])) :: (u11.1, .inr (0, [.ref (u11.2.1), .int (nI 0), .int (nI 0), .int (nI 0)])) :: (u11.2.1, .inl (G.2.2.2.1, (toldT S).2, .inl u11.2.2)) :: []) u12.1 hR2) ⟨by decide, by decide⟩ ⟨(show 300 + 3000 * i_ + 459 + 378 ≤ 600104 by omega), (show 10000 + 245000 * i_ + 114097 + 2270 ≤ 7301314 by omega)⟩ rfl rfl (Nat.le_of_ble_eq_true rfl) dL_law_594) (pc' := 597) rfl (fun r24 u14 hw24 => ?_)
                  subst hw24
                  refine yy_widen (cs2 := 300 + 3000 * i_ + 837) (ss2 := 10000 + 245000 * i_ + 116367) (show 300 + 3000 * i_ + 459 + 378 ≤ 300 + 3000 * i_ + 837 by omega) (show 10000 + 245000 * i_ + 114097 + 2270 ≤ 10000 + 245000 * i_ + 116367 by omega) ?_
                  refine yy_if_eq C dL_law_597 (pc' := 600) rfl (tgt := 630) (by decide) (fun c_597 => ?_) (fun c_597 => ?_)
                  · skip
                    exact absurd c_597 (by decide)
                  · skip
                    refine yy_aload_n C 8 dL_law_600 (pc' := 601) rfl rfl rfl ?_
                    refine yy_aload C 4 dL_law_601 (pc' := 603) rfl rfl ?_
                    refine yy_iconst C (v := (nI 4)) dL_law_603 (pc' := 604) rfl (by decide) ?_
                    refine yy_perm (w' := wA G ad u12.1 ++ ((o1, .inr (10, [.int z2])) :: (u14.1, .inl (G.2.1, 8, .inl u14.2)) :: (u11.1, .inr (0, [.ref (u11.2.1), .int (nI 0), .int (nI 0), .int (nI 0)])) :: (u11.2.1, .inl (G.2.2.2.1, (toldT S).2, .inl u11.2.2)) :: [])) (List.Perm.append_left _ (pm_1_0_2_3 _ _ _ _ _)) ?_
                    refine yy_perm (w' := (o1, .inr (10, [.int z2])) :: (wA G ad u12.1 ++ ((u14.1, .inl (G.2.1, 8, .inl u14.2)) :: (u11.1, .inr (0, [.ref (u11.2.1), .int (nI 0), .int (nI 0), .int (nI 0)])) :: (u11.2.1, .inl (G.2.2.2.1, (toldT S).2, .inl u11.2.2)) :: []))) List.perm_middle ?_
                    refine yc_i (yr_V C (As := [.int (nI 4)]) (rest := [.ref (ad 0)]) lk_L_115 cd_X7_next im_X7_next se_X7_next (mX7_next l G B0 o1 (wA G ad u12.1 ++ ((u14.1, .inl (G.2.1, 8, .inl u14.2)) :: (u11.1, .inr (0, [.ref (u11.2.1), .int (nI 0), .int (nI 0), .int (nI 0)])) :: (u11.2.1, .inl (G.2.2.2.1, (toldT S).2, .inl u11.2.2)) :: [])) z2 4 (by decide)) ⟨by decide, by decide⟩ ⟨(show 300 + 3000 * i_ + 837 + 0 ≤ 600104 by omega), (show 10000 + 245000 * i_ + 116367 + 0 ≤ 7301314 by omega)⟩ 0 rfl rfl rfl rfl (Nat.le_of_ble_eq_true rfl) dL_law_604) (pc' := 607) rfl (fun r25 z3 hw25 => ?_)
                    refine yy_perm (w' := wA G ad u12.1 ++ ((o1, .inr (10, [.int z3])) :: (u14.1, .inl (G.2.1, 8, .inl u14.2)) :: (u11.1, .inr (0, [.ref (u11.2.1), .int (nI 0), .int (nI 0), .int (nI 0)])) :: (u11.2.1, .inl (G.2.2.2.1, (toldT S).2, .inl u11.2.2)) :: [])) List.perm_middle.symm ?_
                    refine yy_iload C 0 dL_law_607 (pc' := 609) rfl rfl ?_
                    refine yc_i (yr_S C (As := [.ref (ad 0), .int r25, .int (nI (u12.1.1 1))]) (rest := []) lk_L_256 cd_L_answered st_L_answered (mL_answered l hl0 G B0 ad ((o1, .inr (10, [.int z3])) :: (u14.1, .inl (G.2.1, 8, .inl u14.2)) :: (u11.1, .inr (0, [.ref (u11.2.1), .int (nI 0), .int (nI 0), .int (nI 0)])) :: (u11.2.1, .inl (G.2.2.2.1, (toldT S).2, .inl u11.2.2)) :: []) u12.1 r25 hR2) ⟨by decide, by decide⟩ ⟨(show 300 + 3000 * i_ + 837 + 606 ≤ 600104 by omega), (show 10000 + 245000 * i_ + 116367 + 3830 ≤ 7301314 by omega)⟩ rfl rfl (Nat.le_of_ble_eq_true rfl) dL_law_609) (pc' := 612) rfl (fun r26 u15 hw26 => ?_)
                    obtain ⟨hr3, hR3, hn3⟩ := hw26
                    subst hr3
                    refine yy_widen (cs2 := 300 + 3000 * i_ + 1443) (ss2 := 10000 + 245000 * i_ + 120197) (show 300 + 3000 * i_ + 837 + 606 ≤ 300 + 3000 * i_ + 1443 by omega) (show 10000 + 245000 * i_ + 116367 + 3830 ≤ 10000 + 245000 * i_ + 120197 by omega) ?_
                    refine yy_if_eq C dL_law_612 (pc' := 615) rfl (tgt := 630) (by decide) (fun c_612 => ?_) (fun c_612 => ?_)
                    · skip
                      exact absurd c_612 (by decide)
                    · skip
                      refine yy_aload_n C 8 dL_law_615 (pc' := 616) rfl rfl rfl ?_
                      refine yy_aload C 4 dL_law_616 (pc' := 618) rfl rfl ?_
                      refine yy_iconst C (v := (nI 5)) dL_law_618 (pc' := 619) rfl (by decide) ?_
                      refine yy_perm (w' := (o1, .inr (10, [.int z3])) :: (wA G ad u15 ++ ((u14.1, .inl (G.2.1, 8, .inl u14.2)) :: (u11.1, .inr (0, [.ref (u11.2.1), .int (nI 0), .int (nI 0), .int (nI 0)])) :: (u11.2.1, .inl (G.2.2.2.1, (toldT S).2, .inl u11.2.2)) :: []))) List.perm_middle ?_
                      refine yc_i (yr_V C (As := [.int (nI 5)]) (rest := [.ref (ad 0)]) lk_L_115 cd_X7_next im_X7_next se_X7_next (mX7_next l G B0 o1 (wA G ad u15 ++ ((u14.1, .inl (G.2.1, 8, .inl u14.2)) :: (u11.1, .inr (0, [.ref (u11.2.1), .int (nI 0), .int (nI 0), .int (nI 0)])) :: (u11.2.1, .inl (G.2.2.2.1, (toldT S).2, .inl u11.2.2)) :: [])) z3 5 (by decide)) ⟨by decide, by decide⟩ ⟨(show 300 + 3000 * i_ + 1443 + 0 ≤ 600104 by omega), (show 10000 + 245000 * i_ + 120197 + 0 ≤ 7301314 by omega)⟩ 0 rfl rfl rfl rfl (Nat.le_of_ble_eq_true rfl) dL_law_619) (pc' := 622) rfl (fun r27 z4 hw27 => ?_)
                      obtain ⟨a2_, ha2_, rfl⟩ := hw27
                      refine yy_perm (w' := wA G ad u15 ++ ((o1, .inr (10, [.int z4])) :: (u14.1, .inl (G.2.1, 8, .inl u14.2)) :: (u11.1, .inr (0, [.ref (u11.2.1), .int (nI 0), .int (nI 0), .int (nI 0)])) :: (u11.2.1, .inl (G.2.2.2.1, (toldT S).2, .inl u11.2.2)) :: [])) List.perm_middle.symm ?_
                      refine yy_iload C 0 dL_law_622 (pc' := 624) rfl rfl ?_
                      refine yy_eqi (congrArg nI hn3.symm) ?_
                      refine yc_i (yr_S C (As := [.ref (ad 0), .int (nI a2_), .int (nI (u15.1 1))]) (rest := []) lk_L_250 cd_L_held_ st_L_held_ (mL_held_ l hl0 G B0 ad ((o1, .inr (10, [.int z4])) :: (u14.1, .inl (G.2.1, 8, .inl u14.2)) :: (u11.1, .inr (0, [.ref (u11.2.1), .int (nI 0), .int (nI 0), .int (nI 0)])) :: (u11.2.1, .inl (G.2.2.2.1, (toldT S).2, .inl u11.2.2)) :: []) u15 a2_ hR3 (show a2_ < 5 from ha2_)) ⟨by decide, by decide⟩ ⟨(show 300 + 3000 * i_ + 1443 + 245 ≤ 600104 by omega), (show 10000 + 245000 * i_ + 120197 + 1470 ≤ 7301314 by omega)⟩ rfl rfl (Nat.le_of_ble_eq_true rfl) dL_law_624) (pc' := 627) rfl (fun r28 u16 hw28 => ?_)
                      subst hw28
                      refine yy_widen (cs2 := 300 + 3000 * i_ + 1688) (ss2 := 10000 + 245000 * i_ + 121667) (show 300 + 3000 * i_ + 1443 + 245 ≤ 300 + 3000 * i_ + 1688 by omega) (show 10000 + 245000 * i_ + 120197 + 1470 ≤ 10000 + 245000 * i_ + 121667 by omega) ?_
                      refine yy_if_ne C dL_law_627 (pc' := 630) rfl (tgt := 632) (by decide) (fun c_627 => ?_) (fun c_627 => ?_)
                      · skip
                        refine yy_iinc C (v := (nI (i_ + 1))) (L' := [(4, .int (nI (i_ + 1))), (7, .int (nI (u12.1.1 1))), (9, .int r21), (8, .ref (u11.1)), (2, .int (nI ((2 * i_) + 2))), (6, .ref (o1)), (5, .int (nI j_)), (0, .ref (b)), (1, .ref (ad 0))]) 6 dL_law_632 (pc' := 635) rfl rfl (nI_add i_ 1) (by decide) rfl ?_
                        refine yy_goto C (tgt := 379) dL_law_635 (by decide) ?_
                        refine yy_drop (w' := wA G ad u15 ++ []) (List.Sublist.append_left (List.nil_sublist _) _) ?_
                        refine yy_loc [0, 4, 7, 8] rfl ?_
                        refine yy_widen (cs2 := 300 + 3000 * (i_ + 1)) (ss2 := 10000 + 245000 * (i_ + 1)) (show 300 + 3000 * i_ + 1688 ≤ 300 + 3000 * (i_ + 1) by omega) (show 10000 + 245000 * i_ + 121667 ≤ 10000 + 245000 * (i_ + 1) by omega) ?_
                        exact ih379 (i_ + 1) u15 (by omega) hR3 (by omega)
                      · skip
                        exact absurd c_627 (by decide)
            · skip
              refine yy_iload C 0 dL_law_555 (pc' := 557) rfl rfl ?_
              refine yy_if_lt C dL_law_557 (pc' := 560) rfl (tgt := 564) (by decide) (fun c_557 => ?_) (fun c_557 => ?_)
              · skip
                refine yy_iconst C (v := (nI 0)) dL_law_564 (pc' := 565) rfl (by decide) ?_
                refine yy_iadd C (v := (nI (S.1 1))) dL_law_565 (pc' := 566) rfl (nI_add (S.1 1) 0) ?_
                refine yy_eqi (congrArg nI (ac_n hw21 c_557)) ?_
                refine yy_istore C (L' := [(7, .int (nI (u12.1.1 1))), (9, .int r21), (8, .ref (u11.1)), (2, .int (nI ((2 * i_) + 2))), (6, .ref (o1)), (5, .int (nI j_)), (4, .int (nI i_)), (0, .ref (b)), (1, .ref (ad 0))]) dL_law_566 (pc' := 568) rfl (by decide) rfl ?_
                refine yy_iload C 6 dL_law_568 (pc' := 570) rfl rfl ?_
                refine yy_iconst C (v := (nI 3)) dL_law_570 (pc' := 571) rfl (by decide) ?_
                refine yy_irem C (v := (nI (i_ % 3))) dL_law_571 (pc' := 572) rfl (by decide) (pk_rem (by omega) (by decide) (by decide)) ?_
                refine yy_iconst C (v := (nI 2)) dL_law_572 (pc' := 573) rfl (by decide) ?_
                refine yn_icmp_ne C (by omega) (by decide) dL_law_573 (pc' := 576) rfl (tgt := 632) (by decide) (fun c_573 => ?_) (fun c_573 => ?_)
                · skip
                  refine yy_iinc C (v := (nI (i_ + 1))) (L' := [(4, .int (nI (i_ + 1))), (7, .int (nI (u12.1.1 1))), (9, .int r21), (8, .ref (u11.1)), (2, .int (nI ((2 * i_) + 2))), (6, .ref (o1)), (5, .int (nI j_)), (0, .ref (b)), (1, .ref (ad 0))]) 6 dL_law_632 (pc' := 635) rfl rfl (nI_add i_ 1) (by decide) rfl ?_
                  refine yy_goto C (tgt := 379) dL_law_635 (by decide) ?_
                  refine yy_drop (w' := wA G ad u12.1 ++ []) (List.Sublist.append_left (List.nil_sublist _) _) ?_
                  refine yy_loc [0, 4, 7, 8] rfl ?_
                  refine yy_widen (cs2 := 300 + 3000 * (i_ + 1)) (ss2 := 10000 + 245000 * (i_ + 1)) (show 300 + 3000 * i_ + 214 ≤ 300 + 3000 * (i_ + 1) by omega) (show 10000 + 245000 * i_ + 112627 ≤ 10000 + 245000 * (i_ + 1) by omega) ?_
                  exact ih379 (i_ + 1) u12.1 (by omega) hR2 (by omega)
                · skip
                  refine yy_aload_n C 8 dL_law_576 (pc' := 577) rfl rfl rfl ?_
                  refine yy_aload C 4 dL_law_577 (pc' := 579) rfl rfl ?_
                  refine yy_iconst C (v := (nI 5)) dL_law_579 (pc' := 580) rfl (by decide) ?_
                  refine yy_perm (w' := (o1, .inr (10, [.int u12.2])) :: (wA G ad u12.1 ++ ((u11.1, .inr (0, [.ref (u11.2.1), .int (nI 0), .int (nI 0), .int (nI 0)])) :: (u11.2.1, .inl (G.2.2.2.1, (toldT S).2, .inl u11.2.2)) :: []))) List.perm_middle ?_
                  refine yc_i (yr_V C (As := [.int (nI 5)]) (rest := [.ref (ad 0)]) lk_L_115 cd_X7_next im_X7_next se_X7_next (mX7_next l G B0 o1 (wA G ad u12.1 ++ ((u11.1, .inr (0, [.ref (u11.2.1), .int (nI 0), .int (nI 0), .int (nI 0)])) :: (u11.2.1, .inl (G.2.2.2.1, (toldT S).2, .inl u11.2.2)) :: [])) u12.2 5 (by decide)) ⟨by decide, by decide⟩ ⟨(show 300 + 3000 * i_ + 214 + 0 ≤ 600104 by omega), (show 10000 + 245000 * i_ + 112627 + 0 ≤ 7301314 by omega)⟩ 0 rfl rfl rfl rfl (Nat.le_of_ble_eq_true rfl) dL_law_580) (pc' := 583) rfl (fun r22 z2 hw22 => ?_)
                  obtain ⟨a1_, ha1_, rfl⟩ := hw22
                  refine yy_perm (w' := wA G ad u12.1 ++ ((o1, .inr (10, [.int z2])) :: (u11.1, .inr (0, [.ref (u11.2.1), .int (nI 0), .int (nI 0), .int (nI 0)])) :: (u11.2.1, .inl (G.2.2.2.1, (toldT S).2, .inl u11.2.2)) :: [])) List.perm_middle.symm ?_
                  refine yy_iload C 0 dL_law_583 (pc' := 585) rfl rfl ?_
                  refine yc_i (yr_S C (As := [.ref (ad 0), .int (nI a1_), .int (nI (u12.1.1 1))]) (rest := []) lk_L_250 cd_L_held_ st_L_held_ (mL_held_ l hl0 G B0 ad ((o1, .inr (10, [.int z2])) :: (u11.1, .inr (0, [.ref (u11.2.1), .int (nI 0), .int (nI 0), .int (nI 0)])) :: (u11.2.1, .inl (G.2.2.2.1, (toldT S).2, .inl u11.2.2)) :: []) u12.1 a1_ hR2 (show a1_ < 5 from ha1_)) ⟨by decide, by decide⟩ ⟨(show 300 + 3000 * i_ + 214 + 245 ≤ 600104 by omega), (show 10000 + 245000 * i_ + 112627 + 1470 ≤ 7301314 by omega)⟩ rfl rfl (Nat.le_of_ble_eq_true rfl) dL_law_585) (pc' := 588) rfl (fun r23 u13 hw23 => ?_)
                  subst hw23
                  refine yy_widen (cs2 := 300 + 3000 * i_ + 459) (ss2 := 10000 + 245000 * i_ + 114097) (show 300 + 3000 * i_ + 214 + 245 ≤ 300 + 3000 * i_ + 459 by omega) (show 10000 + 245000 * i_ + 112627 + 1470 ≤ 10000 + 245000 * i_ + 114097 by omega) ?_
                  refine yy_if_eq C dL_law_588 (pc' := 591) rfl (tgt := 630) (by decide) (fun c_588 => ?_) (fun c_588 => ?_)
                  · skip
                    exact absurd c_588 (by decide)
                  · skip
                    refine yy_aload_n C 8 dL_law_591 (pc' := 592) rfl rfl rfl ?_
                    refine yy_iload C 0 dL_law_592 (pc' := 594) rfl rfl ?_
                    refine yc_i (yr_S C (As := [.ref (ad 0), .int (nI (u12.1.1 1))]) (rest := []) lk_L_253 cd_L_hidden st_L_hidden (mL_hidden l hl0 G B0 ad ((o1, .inr (10, [.int z2])) :: (u11.1, .inr (0, [.ref (u11.2.1), .int (nI 0), .int (nI 0), .int (nI 0)])) :: (u11.2.1, .inl (G.2.2.2.1, (toldT S).2, .inl u11.2.2)) :: []) u12.1 hR2) ⟨by decide, by decide⟩ ⟨(show 300 + 3000 * i_ + 459 + 378 ≤ 600104 by omega), (show 10000 + 245000 * i_ + 114097 + 2270 ≤ 7301314 by omega)⟩ rfl rfl (Nat.le_of_ble_eq_true rfl) dL_law_594) (pc' := 597) rfl (fun r24 u14 hw24 => ?_)
                    subst hw24
                    refine yy_widen (cs2 := 300 + 3000 * i_ + 837) (ss2 := 10000 + 245000 * i_ + 116367) (show 300 + 3000 * i_ + 459 + 378 ≤ 300 + 3000 * i_ + 837 by omega) (show 10000 + 245000 * i_ + 114097 + 2270 ≤ 10000 + 245000 * i_ + 116367 by omega) ?_
                    refine yy_if_eq C dL_law_597 (pc' := 600) rfl (tgt := 630) (by decide) (fun c_597 => ?_) (fun c_597 => ?_)
                    · skip
                      exact absurd c_597 (by decide)
                    · skip
                      refine yy_aload_n C 8 dL_law_600 (pc' := 601) rfl rfl rfl ?_
                      refine yy_aload C 4 dL_law_601 (pc' := 603) rfl rfl ?_
                      refine yy_iconst C (v := (nI 4)) dL_law_603 (pc' := 604) rfl (by decide) ?_
                      refine yy_perm (w' := wA G ad u12.1 ++ ((o1, .inr (10, [.int z2])) :: (u14.1, .inl (G.2.1, 8, .inl u14.2)) :: (u11.1, .inr (0, [.ref (u11.2.1), .int (nI 0), .int (nI 0), .int (nI 0)])) :: (u11.2.1, .inl (G.2.2.2.1, (toldT S).2, .inl u11.2.2)) :: [])) (List.Perm.append_left _ (pm_1_0_2_3 _ _ _ _ _)) ?_
                      refine yy_perm (w' := (o1, .inr (10, [.int z2])) :: (wA G ad u12.1 ++ ((u14.1, .inl (G.2.1, 8, .inl u14.2)) :: (u11.1, .inr (0, [.ref (u11.2.1), .int (nI 0), .int (nI 0), .int (nI 0)])) :: (u11.2.1, .inl (G.2.2.2.1, (toldT S).2, .inl u11.2.2)) :: []))) List.perm_middle ?_
                      refine yc_i (yr_V C (As := [.int (nI 4)]) (rest := [.ref (ad 0)]) lk_L_115 cd_X7_next im_X7_next se_X7_next (mX7_next l G B0 o1 (wA G ad u12.1 ++ ((u14.1, .inl (G.2.1, 8, .inl u14.2)) :: (u11.1, .inr (0, [.ref (u11.2.1), .int (nI 0), .int (nI 0), .int (nI 0)])) :: (u11.2.1, .inl (G.2.2.2.1, (toldT S).2, .inl u11.2.2)) :: [])) z2 4 (by decide)) ⟨by decide, by decide⟩ ⟨(show 300 + 3000 * i_ + 837 + 0 ≤ 600104 by omega), (show 10000 + 245000 * i_ + 116367 + 0 ≤ 7301314 by omega)⟩ 0 rfl rfl rfl rfl (Nat.le_of_ble_eq_true rfl) dL_law_604) (pc' := 607) rfl (fun r25 z3 hw25 => ?_)
                      refine yy_perm (w' := wA G ad u12.1 ++ ((o1, .inr (10, [.int z3])) :: (u14.1, .inl (G.2.1, 8, .inl u14.2)) :: (u11.1, .inr (0, [.ref (u11.2.1), .int (nI 0), .int (nI 0), .int (nI 0)])) :: (u11.2.1, .inl (G.2.2.2.1, (toldT S).2, .inl u11.2.2)) :: [])) List.perm_middle.symm ?_
                      refine yy_iload C 0 dL_law_607 (pc' := 609) rfl rfl ?_
                      refine yc_i (yr_S C (As := [.ref (ad 0), .int r25, .int (nI (u12.1.1 1))]) (rest := []) lk_L_256 cd_L_answered st_L_answered (mL_answered l hl0 G B0 ad ((o1, .inr (10, [.int z3])) :: (u14.1, .inl (G.2.1, 8, .inl u14.2)) :: (u11.1, .inr (0, [.ref (u11.2.1), .int (nI 0), .int (nI 0), .int (nI 0)])) :: (u11.2.1, .inl (G.2.2.2.1, (toldT S).2, .inl u11.2.2)) :: []) u12.1 r25 hR2) ⟨by decide, by decide⟩ ⟨(show 300 + 3000 * i_ + 837 + 606 ≤ 600104 by omega), (show 10000 + 245000 * i_ + 116367 + 3830 ≤ 7301314 by omega)⟩ rfl rfl (Nat.le_of_ble_eq_true rfl) dL_law_609) (pc' := 612) rfl (fun r26 u15 hw26 => ?_)
                      obtain ⟨hr3, hR3, hn3⟩ := hw26
                      subst hr3
                      refine yy_widen (cs2 := 300 + 3000 * i_ + 1443) (ss2 := 10000 + 245000 * i_ + 120197) (show 300 + 3000 * i_ + 837 + 606 ≤ 300 + 3000 * i_ + 1443 by omega) (show 10000 + 245000 * i_ + 116367 + 3830 ≤ 10000 + 245000 * i_ + 120197 by omega) ?_
                      refine yy_if_eq C dL_law_612 (pc' := 615) rfl (tgt := 630) (by decide) (fun c_612 => ?_) (fun c_612 => ?_)
                      · skip
                        exact absurd c_612 (by decide)
                      · skip
                        refine yy_aload_n C 8 dL_law_615 (pc' := 616) rfl rfl rfl ?_
                        refine yy_aload C 4 dL_law_616 (pc' := 618) rfl rfl ?_
                        refine yy_iconst C (v := (nI 5)) dL_law_618 (pc' := 619) rfl (by decide) ?_
                        refine yy_perm (w' := (o1, .inr (10, [.int z3])) :: (wA G ad u15 ++ ((u14.1, .inl (G.2.1, 8, .inl u14.2)) :: (u11.1, .inr (0, [.ref (u11.2.1), .int (nI 0), .int (nI 0), .int (nI 0)])) :: (u11.2.1, .inl (G.2.2.2.1, (toldT S).2, .inl u11.2.2)) :: []))) List.perm_middle ?_
                        refine yc_i (yr_V C (As := [.int (nI 5)]) (rest := [.ref (ad 0)]) lk_L_115 cd_X7_next im_X7_next se_X7_next (mX7_next l G B0 o1 (wA G ad u15 ++ ((u14.1, .inl (G.2.1, 8, .inl u14.2)) :: (u11.1, .inr (0, [.ref (u11.2.1), .int (nI 0), .int (nI 0), .int (nI 0)])) :: (u11.2.1, .inl (G.2.2.2.1, (toldT S).2, .inl u11.2.2)) :: [])) z3 5 (by decide)) ⟨by decide, by decide⟩ ⟨(show 300 + 3000 * i_ + 1443 + 0 ≤ 600104 by omega), (show 10000 + 245000 * i_ + 120197 + 0 ≤ 7301314 by omega)⟩ 0 rfl rfl rfl rfl (Nat.le_of_ble_eq_true rfl) dL_law_619) (pc' := 622) rfl (fun r27 z4 hw27 => ?_)
                        obtain ⟨a2_, ha2_, rfl⟩ := hw27
                        refine yy_perm (w' := wA G ad u15 ++ ((o1, .inr (10, [.int z4])) :: (u14.1, .inl (G.2.1, 8, .inl u14.2)) :: (u11.1, .inr (0, [.ref (u11.2.1), .int (nI 0), .int (nI 0), .int (nI 0)])) :: (u11.2.1, .inl (G.2.2.2.1, (toldT S).2, .inl u11.2.2)) :: [])) List.perm_middle.symm ?_
                        refine yy_iload C 0 dL_law_622 (pc' := 624) rfl rfl ?_
                        refine yy_eqi (congrArg nI hn3.symm) ?_
                        refine yc_i (yr_S C (As := [.ref (ad 0), .int (nI a2_), .int (nI (u15.1 1))]) (rest := []) lk_L_250 cd_L_held_ st_L_held_ (mL_held_ l hl0 G B0 ad ((o1, .inr (10, [.int z4])) :: (u14.1, .inl (G.2.1, 8, .inl u14.2)) :: (u11.1, .inr (0, [.ref (u11.2.1), .int (nI 0), .int (nI 0), .int (nI 0)])) :: (u11.2.1, .inl (G.2.2.2.1, (toldT S).2, .inl u11.2.2)) :: []) u15 a2_ hR3 (show a2_ < 5 from ha2_)) ⟨by decide, by decide⟩ ⟨(show 300 + 3000 * i_ + 1443 + 245 ≤ 600104 by omega), (show 10000 + 245000 * i_ + 120197 + 1470 ≤ 7301314 by omega)⟩ rfl rfl (Nat.le_of_ble_eq_true rfl) dL_law_624) (pc' := 627) rfl (fun r28 u16 hw28 => ?_)
                        subst hw28
                        refine yy_widen (cs2 := 300 + 3000 * i_ + 1688) (ss2 := 10000 + 245000 * i_ + 121667) (show 300 + 3000 * i_ + 1443 + 245 ≤ 300 + 3000 * i_ + 1688 by omega) (show 10000 + 245000 * i_ + 120197 + 1470 ≤ 10000 + 245000 * i_ + 121667 by omega) ?_
                        refine yy_if_ne C dL_law_627 (pc' := 630) rfl (tgt := 632) (by decide) (fun c_627 => ?_) (fun c_627 => ?_)
                        · skip
                          refine yy_iinc C (v := (nI (i_ + 1))) (L' := [(4, .int (nI (i_ + 1))), (7, .int (nI (u12.1.1 1))), (9, .int r21), (8, .ref (u11.1)), (2, .int (nI ((2 * i_) + 2))), (6, .ref (o1)), (5, .int (nI j_)), (0, .ref (b)), (1, .ref (ad 0))]) 6 dL_law_632 (pc' := 635) rfl rfl (nI_add i_ 1) (by decide) rfl ?_
                          refine yy_goto C (tgt := 379) dL_law_635 (by decide) ?_
                          refine yy_drop (w' := wA G ad u15 ++ []) (List.Sublist.append_left (List.nil_sublist _) _) ?_
                          refine yy_loc [0, 4, 7, 8] rfl ?_
                          refine yy_widen (cs2 := 300 + 3000 * (i_ + 1)) (ss2 := 10000 + 245000 * (i_ + 1)) (show 300 + 3000 * i_ + 1688 ≤ 300 + 3000 * (i_ + 1) by omega) (show 10000 + 245000 * i_ + 121667 ≤ 10000 + 245000 * (i_ + 1) by omega) ?_
                          exact ih379 (i_ + 1) u15 (by omega) hR3 (by omega)
                        · skip
                          exact absurd c_627 (by decide)
              · skip
                refine yy_iconst C (v := (nI 1)) dL_law_560 (pc' := 561) rfl (by decide) ?_
                refine yy_goto C (tgt := 565) dL_law_561 (by decide) ?_
                refine yy_iadd C (v := (nI ((S.1 1) + 1))) dL_law_565 (pc' := 566) rfl (nI_add (S.1 1) 1) ?_
                refine yy_eqi (congrArg nI (ac_1 hw21 (Nat.pos_of_ne_zero (fun z => c_543 ((nI_le0 (by omega)).mpr z))) (by omega) c_557)) ?_
                refine yy_istore C (L' := [(7, .int (nI (u12.1.1 1))), (9, .int r21), (8, .ref (u11.1)), (2, .int (nI ((2 * i_) + 2))), (6, .ref (o1)), (5, .int (nI j_)), (4, .int (nI i_)), (0, .ref (b)), (1, .ref (ad 0))]) dL_law_566 (pc' := 568) rfl (by decide) rfl ?_
                refine yy_iload C 6 dL_law_568 (pc' := 570) rfl rfl ?_
                refine yy_iconst C (v := (nI 3)) dL_law_570 (pc' := 571) rfl (by decide) ?_
                refine yy_irem C (v := (nI (i_ % 3))) dL_law_571 (pc' := 572) rfl (by decide) (pk_rem (by omega) (by decide) (by decide)) ?_
                refine yy_iconst C (v := (nI 2)) dL_law_572 (pc' := 573) rfl (by decide) ?_
                refine yn_icmp_ne C (by omega) (by decide) dL_law_573 (pc' := 576) rfl (tgt := 632) (by decide) (fun c_573 => ?_) (fun c_573 => ?_)
                · skip
                  refine yy_iinc C (v := (nI (i_ + 1))) (L' := [(4, .int (nI (i_ + 1))), (7, .int (nI (u12.1.1 1))), (9, .int r21), (8, .ref (u11.1)), (2, .int (nI ((2 * i_) + 2))), (6, .ref (o1)), (5, .int (nI j_)), (0, .ref (b)), (1, .ref (ad 0))]) 6 dL_law_632 (pc' := 635) rfl rfl (nI_add i_ 1) (by decide) rfl ?_
                  refine yy_goto C (tgt := 379) dL_law_635 (by decide) ?_
                  refine yy_drop (w' := wA G ad u12.1 ++ []) (List.Sublist.append_left (List.nil_sublist _) _) ?_
                  refine yy_loc [0, 4, 7, 8] rfl ?_
                  refine yy_widen (cs2 := 300 + 3000 * (i_ + 1)) (ss2 := 10000 + 245000 * (i_ + 1)) (show 300 + 3000 * i_ + 214 ≤ 300 + 3000 * (i_ + 1) by omega) (show 10000 + 245000 * i_ + 112627 ≤ 10000 + 245000 * (i_ + 1) by omega) ?_
                  exact ih379 (i_ + 1) u12.1 (by omega) hR2 (by omega)
                · skip
                  refine yy_aload_n C 8 dL_law_576 (pc' := 577) rfl rfl rfl ?_
                  refine yy_aload C 4 dL_law_577 (pc' := 579) rfl rfl ?_
                  refine yy_iconst C (v := (nI 5)) dL_law_579 (pc' := 580) rfl (by decide) ?_
                  refine yy_perm (w' := (o1, .inr (10, [.int u12.2])) :: (wA G ad u12.1 ++ ((u11.1, .inr (0, [.ref (u11.2.1), .int (nI 0), .int (nI 0), .int (nI 0)])) :: (u11.2.1, .inl (G.2.2.2.1, (toldT S).2, .inl u11.2.2)) :: []))) List.perm_middle ?_
                  refine yc_i (yr_V C (As := [.int (nI 5)]) (rest := [.ref (ad 0)]) lk_L_115 cd_X7_next im_X7_next se_X7_next (mX7_next l G B0 o1 (wA G ad u12.1 ++ ((u11.1, .inr (0, [.ref (u11.2.1), .int (nI 0), .int (nI 0), .int (nI 0)])) :: (u11.2.1, .inl (G.2.2.2.1, (toldT S).2, .inl u11.2.2)) :: [])) u12.2 5 (by decide)) ⟨by decide, by decide⟩ ⟨(show 300 + 3000 * i_ + 214 + 0 ≤ 600104 by omega), (show 10000 + 245000 * i_ + 112627 + 0 ≤ 7301314 by omega)⟩ 0 rfl rfl rfl rfl (Nat.le_of_ble_eq_true rfl) dL_law_580) (pc' := 583) rfl (fun r22 z2 hw22 => ?_)
                  obtain ⟨a1_, ha1_, rfl⟩ := hw22
                  refine yy_perm (w' := wA G ad u12.1 ++ ((o1, .inr (10, [.int z2])) :: (u11.1, .inr (0, [.ref (u11.2.1), .int (nI 0), .int (nI 0), .int (nI 0)])) :: (u11.2.1, .inl (G.2.2.2.1, (toldT S).2, .inl u11.2.2)) :: [])) List.perm_middle.symm ?_
                  refine yy_iload C 0 dL_law_583 (pc' := 585) rfl rfl ?_
                  refine yc_i (yr_S C (As := [.ref (ad 0), .int (nI a1_), .int (nI (u12.1.1 1))]) (rest := []) lk_L_250 cd_L_held_ st_L_held_ (mL_held_ l hl0 G B0 ad ((o1, .inr (10, [.int z2])) :: (u11.1, .inr (0, [.ref (u11.2.1), .int (nI 0), .int (nI 0), .int (nI 0)])) :: (u11.2.1, .inl (G.2.2.2.1, (toldT S).2, .inl u11.2.2)) :: []) u12.1 a1_ hR2 (show a1_ < 5 from ha1_)) ⟨by decide, by decide⟩ ⟨(show 300 + 3000 * i_ + 214 + 245 ≤ 600104 by omega), (show 10000 + 245000 * i_ + 112627 + 1470 ≤ 7301314 by omega)⟩ rfl rfl (Nat.le_of_ble_eq_true rfl) dL_law_585) (pc' := 588) rfl (fun r23 u13 hw23 => ?_)
                  subst hw23
                  refine yy_widen (cs2 := 300 + 3000 * i_ + 459) (ss2 := 10000 + 245000 * i_ + 114097) (show 300 + 3000 * i_ + 214 + 245 ≤ 300 + 3000 * i_ + 459 by omega) (show 10000 + 245000 * i_ + 112627 + 1470 ≤ 10000 + 245000 * i_ + 114097 by omega) ?_
                  refine yy_if_eq C dL_law_588 (pc' := 591) rfl (tgt := 630) (by decide) (fun c_588 => ?_) (fun c_588 => ?_)
                  · skip
                    exact absurd c_588 (by decide)
                  · skip
                    refine yy_aload_n C 8 dL_law_591 (pc' := 592) rfl rfl rfl ?_
                    refine yy_iload C 0 dL_law_592 (pc' := 594) rfl rfl ?_
                    refine yc_i (yr_S C (As := [.ref (ad 0), .int (nI (u12.1.1 1))]) (rest := []) lk_L_253 cd_L_hidden st_L_hidden (mL_hidden l hl0 G B0 ad ((o1, .inr (10, [.int z2])) :: (u11.1, .inr (0, [.ref (u11.2.1), .int (nI 0), .int (nI 0), .int (nI 0)])) :: (u11.2.1, .inl (G.2.2.2.1, (toldT S).2, .inl u11.2.2)) :: []) u12.1 hR2) ⟨by decide, by decide⟩ ⟨(show 300 + 3000 * i_ + 459 + 378 ≤ 600104 by omega), (show 10000 + 245000 * i_ + 114097 + 2270 ≤ 7301314 by omega)⟩ rfl rfl (Nat.le_of_ble_eq_true rfl) dL_law_594) (pc' := 597) rfl (fun r24 u14 hw24 => ?_)
                    subst hw24
                    refine yy_widen (cs2 := 300 + 3000 * i_ + 837) (ss2 := 10000 + 245000 * i_ + 116367) (show 300 + 3000 * i_ + 459 + 378 ≤ 300 + 3000 * i_ + 837 by omega) (show 10000 + 245000 * i_ + 114097 + 2270 ≤ 10000 + 245000 * i_ + 116367 by omega) ?_
                    refine yy_if_eq C dL_law_597 (pc' := 600) rfl (tgt := 630) (by decide) (fun c_597 => ?_) (fun c_597 => ?_)
                    · skip
                      exact absurd c_597 (by decide)
                    · skip
                      refine yy_aload_n C 8 dL_law_600 (pc' := 601) rfl rfl rfl ?_
                      refine yy_aload C 4 dL_law_601 (pc' := 603) rfl rfl ?_
                      refine yy_iconst C (v := (nI 4)) dL_law_603 (pc' := 604) rfl (by decide) ?_
                      refine yy_perm (w' := wA G ad u12.1 ++ ((o1, .inr (10, [.int z2])) :: (u14.1, .inl (G.2.1, 8, .inl u14.2)) :: (u11.1, .inr (0, [.ref (u11.2.1), .int (nI 0), .int (nI 0), .int (nI 0)])) :: (u11.2.1, .inl (G.2.2.2.1, (toldT S).2, .inl u11.2.2)) :: [])) (List.Perm.append_left _ (pm_1_0_2_3 _ _ _ _ _)) ?_
                      refine yy_perm (w' := (o1, .inr (10, [.int z2])) :: (wA G ad u12.1 ++ ((u14.1, .inl (G.2.1, 8, .inl u14.2)) :: (u11.1, .inr (0, [.ref (u11.2.1), .int (nI 0), .int (nI 0), .int (nI 0)])) :: (u11.2.1, .inl (G.2.2.2.1, (toldT S).2, .inl u11.2.2)) :: []))) List.perm_middle ?_
                      refine yc_i (yr_V C (As := [.int (nI 4)]) (rest := [.ref (ad 0)]) lk_L_115 cd_X7_next im_X7_next se_X7_next (mX7_next l G B0 o1 (wA G ad u12.1 ++ ((u14.1, .inl (G.2.1, 8, .inl u14.2)) :: (u11.1, .inr (0, [.ref (u11.2.1), .int (nI 0), .int (nI 0), .int (nI 0)])) :: (u11.2.1, .inl (G.2.2.2.1, (toldT S).2, .inl u11.2.2)) :: [])) z2 4 (by decide)) ⟨by decide, by decide⟩ ⟨(show 300 + 3000 * i_ + 837 + 0 ≤ 600104 by omega), (show 10000 + 245000 * i_ + 116367 + 0 ≤ 7301314 by omega)⟩ 0 rfl rfl rfl rfl (Nat.le_of_ble_eq_true rfl) dL_law_604) (pc' := 607) rfl (fun r25 z3 hw25 => ?_)
                      refine yy_perm (w' := wA G ad u12.1 ++ ((o1, .inr (10, [.int z3])) :: (u14.1, .inl (G.2.1, 8, .inl u14.2)) :: (u11.1, .inr (0, [.ref (u11.2.1), .int (nI 0), .int (nI 0), .int (nI 0)])) :: (u11.2.1, .inl (G.2.2.2.1, (toldT S).2, .inl u11.2.2)) :: [])) List.perm_middle.symm ?_
                      refine yy_iload C 0 dL_law_607 (pc' := 609) rfl rfl ?_
                      refine yc_i (yr_S C (As := [.ref (ad 0), .int r25, .int (nI (u12.1.1 1))]) (rest := []) lk_L_256 cd_L_answered st_L_answered (mL_answered l hl0 G B0 ad ((o1, .inr (10, [.int z3])) :: (u14.1, .inl (G.2.1, 8, .inl u14.2)) :: (u11.1, .inr (0, [.ref (u11.2.1), .int (nI 0), .int (nI 0), .int (nI 0)])) :: (u11.2.1, .inl (G.2.2.2.1, (toldT S).2, .inl u11.2.2)) :: []) u12.1 r25 hR2) ⟨by decide, by decide⟩ ⟨(show 300 + 3000 * i_ + 837 + 606 ≤ 600104 by omega), (show 10000 + 245000 * i_ + 116367 + 3830 ≤ 7301314 by omega)⟩ rfl rfl (Nat.le_of_ble_eq_true rfl) dL_law_609) (pc' := 612) rfl (fun r26 u15 hw26 => ?_)
                      obtain ⟨hr3, hR3, hn3⟩ := hw26
                      subst hr3
                      refine yy_widen (cs2 := 300 + 3000 * i_ + 1443) (ss2 := 10000 + 245000 * i_ + 120197) (show 300 + 3000 * i_ + 837 + 606 ≤ 300 + 3000 * i_ + 1443 by omega) (show 10000 + 245000 * i_ + 116367 + 3830 ≤ 10000 + 245000 * i_ + 120197 by omega) ?_
                      refine yy_if_eq C dL_law_612 (pc' := 615) rfl (tgt := 630) (by decide) (fun c_612 => ?_) (fun c_612 => ?_)
                      · skip
                        exact absurd c_612 (by decide)
                      · skip
                        refine yy_aload_n C 8 dL_law_615 (pc' := 616) rfl rfl rfl ?_
                        refine yy_aload C 4 dL_law_616 (pc' := 618) rfl rfl ?_
                        refine yy_iconst C (v := (nI 5)) dL_law_618 (pc' := 619) rfl (by decide) ?_
                        refine yy_perm (w' := (o1, .inr (10, [.int z3])) :: (wA G ad u15 ++ ((u14.1, .inl (G.2.1, 8, .inl u14.2)) :: (u11.1, .inr (0, [.ref (u11.2.1), .int (nI 0), .int (nI 0), .int (nI 0)])) :: (u11.2.1, .inl (G.2.2.2.1, (toldT S).2, .inl u11.2.2)) :: []))) List.perm_middle ?_
                        refine yc_i (yr_V C (As := [.int (nI 5)]) (rest := [.ref (ad 0)]) lk_L_115 cd_X7_next im_X7_next se_X7_next (mX7_next l G B0 o1 (wA G ad u15 ++ ((u14.1, .inl (G.2.1, 8, .inl u14.2)) :: (u11.1, .inr (0, [.ref (u11.2.1), .int (nI 0), .int (nI 0), .int (nI 0)])) :: (u11.2.1, .inl (G.2.2.2.1, (toldT S).2, .inl u11.2.2)) :: [])) z3 5 (by decide)) ⟨by decide, by decide⟩ ⟨(show 300 + 3000 * i_ + 1443 + 0 ≤ 600104 by omega), (show 10000 + 245000 * i_ + 120197 + 0 ≤ 7301314 by omega)⟩ 0 rfl rfl rfl rfl (Nat.le_of_ble_eq_true rfl) dL_law_619) (pc' := 622) rfl (fun r27 z4 hw27 => ?_)
                        obtain ⟨a2_, ha2_, rfl⟩ := hw27
                        refine yy_perm (w' := wA G ad u15 ++ ((o1, .inr (10, [.int z4])) :: (u14.1, .inl (G.2.1, 8, .inl u14.2)) :: (u11.1, .inr (0, [.ref (u11.2.1), .int (nI 0), .int (nI 0), .int (nI 0)])) :: (u11.2.1, .inl (G.2.2.2.1, (toldT S).2, .inl u11.2.2)) :: [])) List.perm_middle.symm ?_
                        refine yy_iload C 0 dL_law_622 (pc' := 624) rfl rfl ?_
                        refine yy_eqi (congrArg nI hn3.symm) ?_
                        refine yc_i (yr_S C (As := [.ref (ad 0), .int (nI a2_), .int (nI (u15.1 1))]) (rest := []) lk_L_250 cd_L_held_ st_L_held_ (mL_held_ l hl0 G B0 ad ((o1, .inr (10, [.int z4])) :: (u14.1, .inl (G.2.1, 8, .inl u14.2)) :: (u11.1, .inr (0, [.ref (u11.2.1), .int (nI 0), .int (nI 0), .int (nI 0)])) :: (u11.2.1, .inl (G.2.2.2.1, (toldT S).2, .inl u11.2.2)) :: []) u15 a2_ hR3 (show a2_ < 5 from ha2_)) ⟨by decide, by decide⟩ ⟨(show 300 + 3000 * i_ + 1443 + 245 ≤ 600104 by omega), (show 10000 + 245000 * i_ + 120197 + 1470 ≤ 7301314 by omega)⟩ rfl rfl (Nat.le_of_ble_eq_true rfl) dL_law_624) (pc' := 627) rfl (fun r28 u16 hw28 => ?_)
                        subst hw28
                        refine yy_widen (cs2 := 300 + 3000 * i_ + 1688) (ss2 := 10000 + 245000 * i_ + 121667) (show 300 + 3000 * i_ + 1443 + 245 ≤ 300 + 3000 * i_ + 1688 by omega) (show 10000 + 245000 * i_ + 120197 + 1470 ≤ 10000 + 245000 * i_ + 121667 by omega) ?_
                        refine yy_if_ne C dL_law_627 (pc' := 630) rfl (tgt := 632) (by decide) (fun c_627 => ?_) (fun c_627 => ?_)
                        · skip
                          refine yy_iinc C (v := (nI (i_ + 1))) (L' := [(4, .int (nI (i_ + 1))), (7, .int (nI (u12.1.1 1))), (9, .int r21), (8, .ref (u11.1)), (2, .int (nI ((2 * i_) + 2))), (6, .ref (o1)), (5, .int (nI j_)), (0, .ref (b)), (1, .ref (ad 0))]) 6 dL_law_632 (pc' := 635) rfl rfl (nI_add i_ 1) (by decide) rfl ?_
                          refine yy_goto C (tgt := 379) dL_law_635 (by decide) ?_
                          refine yy_drop (w' := wA G ad u15 ++ []) (List.Sublist.append_left (List.nil_sublist _) _) ?_
                          refine yy_loc [0, 4, 7, 8] rfl ?_
                          refine yy_widen (cs2 := 300 + 3000 * (i_ + 1)) (ss2 := 10000 + 245000 * (i_ + 1)) (show 300 + 3000 * i_ + 1688 ≤ 300 + 3000 * (i_ + 1) by omega) (show 10000 + 245000 * i_ + 121667 ≤ 10000 + 245000 * (i_ + 1) by omega) ?_
                          exact ih379 (i_ + 1) u15 (by omega) hR3 (by omega)
                        · skip
                          exact absurd c_627 (by decide)
        · skip
          have hu_ : u12.1 = S := hw21.2.1 (Int32.not_le.mp c_519)
          refine yy_perm (w' := wA G ad S ++ ((o1, .inr (10, [.int u12.2])) :: (u11.1, .inr (0, [.ref (u11.2.1), .int (nI 0), .int (nI 0), .int (nI 0)])) :: (u11.2.1, .inl (G.2.2.2.1, (toldT S).2, .inl u11.2.2)) :: [])) (by rw [hu_]) ?_
          have htl_ := hw20.2.2
          refine yy_aload C 1 dL_law_522 (pc' := 524) rfl rfl ?_
          refine yy_aload_n C 8 dL_law_524 (pc' := 525) rfl rfl rfl ?_
          refine yc_r (yr_S C (As := [.ref (ad 0)]) (rest := [.ref (u11.1)]) lk_L_236 cd_L_told st_L_told (mL_told l hl0 G B0 ad ((o1, .inr (10, [.int u12.2])) :: (u11.1, .inr (0, [.ref (u11.2.1), .int (nI 0), .int (nI 0), .int (nI 0)])) :: (u11.2.1, .inl (G.2.2.2.1, (toldT S).2, .inl u11.2.2)) :: []) S hR.1.1 (tb_of hR)) ⟨by decide, by decide⟩ ⟨(show 300 + 3000 * i_ + 214 + 204 ≤ 600104 by omega), (show 10000 + 245000 * i_ + 112627 + 112572 ≤ 7301314 by omega)⟩ rfl rfl (Nat.le_of_ble_eq_true rfl) dL_law_525) (pc' := 528) rfl (fun u13 hw22 => ?_)
          refine yy_widen (cs2 := 300 + 3000 * i_ + 418) (ss2 := 10000 + 245000 * i_ + 225199) (show 300 + 3000 * i_ + 214 + 204 ≤ 300 + 3000 * i_ + 418 by omega) (show 10000 + 245000 * i_ + 112627 + 112572 ≤ 10000 + 245000 * i_ + 225199 by omega) ?_
          refine yy_perm (w' := wA G ad S ++ ((u11.1, .inr (0, [.ref (u11.2.1), .int (nI 0), .int (nI 0), .int (nI 0)])) :: (u11.2.1, .inl (G.2.2.2.1, (toldT S).2, .inl u11.2.2)) :: (u13.1, .inr (0, [.ref (u13.2.1), .int (nI 0), .int (nI 0), .int (nI 0)])) :: (u13.2.1, .inl (G.2.2.2.1, (toldT S).2, .inl u13.2.2)) :: (o1, .inr (10, [.int u12.2])) :: [])) (List.Perm.append_left _ (pm_3_4_0_1_2 _ _ _ _ _ _)) ?_
          refine yy_perm (w' := ((u11.1, .inr (0, [.ref (u11.2.1), .int (nI 0), .int (nI 0), .int (nI 0)])) :: (u11.2.1, .inl (G.2.2.2.1, (toldT S).2, .inl u11.2.2)) :: (u13.1, .inr (0, [.ref (u13.2.1), .int (nI 0), .int (nI 0), .int (nI 0)])) :: (u13.2.1, .inl (G.2.2.2.1, (toldT S).2, .inl u13.2.2)) :: (wA G ad S ++ ((o1, .inr (10, [.int u12.2])) :: [])))) (p4 _ _ _ _ _ _) ?_
          refine yc_i (yr_V C (As := [.ref (u13.1)]) (rest := []) lk_L_244 cd_J0_equals_9ea2d im_J0_equals_9ea2d se_J0_equals_9ea2d (mJ0_equals_9ea2d l G B0 u11.1 u11.2.1 u13.1 u13.2.1 ((toldT S).2) u11.2.2 u13.2.2 (wA G ad S ++ ((o1, .inr (10, [.int u12.2])) :: [])) (by omega) (fun j hj => (hw20.1 j hj).2.trans (hw22.1 j hj).2.symm)) ⟨by decide, by decide⟩ ⟨(show 300 + 3000 * i_ + 418 + 0 ≤ 600104 by omega), (show 10000 + 245000 * i_ + 225199 + 0 ≤ 7301314 by omega)⟩ 0 rfl rfl rfl rfl (Nat.le_of_ble_eq_true rfl) dL_law_528) (pc' := 531) rfl (fun re_ _ hre_ => ?_)
          subst hre_
          refine yy_perm (w' := wA G ad S ++ ((u11.1, .inr (0, [.ref (u11.2.1), .int (nI 0), .int (nI 0), .int (nI 0)])) :: (u11.2.1, .inl (G.2.2.2.1, (toldT S).2, .inl u11.2.2)) :: (u13.1, .inr (0, [.ref (u13.2.1), .int (nI 0), .int (nI 0), .int (nI 0)])) :: (u13.2.1, .inl (G.2.2.2.1, (toldT S).2, .inl u13.2.2)) :: (o1, .inr (10, [.int u12.2])) :: [])) (p4 _ _ _ _ _ _).symm ?_
          refine yy_if_ne C dL_law_531 (pc' := 534) rfl (tgt := 536) (by decide) (fun c_531 => ?_) (fun c_531 => ?_)
          · skip
            refine yy_perm (w' := wA G ad u12.1 ++ ((u11.1, .inr (0, [.ref (u11.2.1), .int (nI 0), .int (nI 0), .int (nI 0)])) :: (u11.2.1, .inl (G.2.2.2.1, (toldT S).2, .inl u11.2.2)) :: (u13.1, .inr (0, [.ref (u13.2.1), .int (nI 0), .int (nI 0), .int (nI 0)])) :: (u13.2.1, .inl (G.2.2.2.1, (toldT S).2, .inl u13.2.2)) :: (o1, .inr (10, [.int u12.2])) :: [])) (by rw [hu_]) ?_
            refine yy_iload C 2 dL_law_536 (pc' := 538) rfl rfl ?_
            refine yy_iload C 5 dL_law_538 (pc' := 540) rfl rfl ?_
            refine yy_bipush C (v := (nI 28)) dL_law_540 (pc' := 542) rfl (by decide) ?_
            refine yy_irem C (v := (nI (j_ % 28))) dL_law_542 (pc' := 543) rfl (by decide) (pk_rem (by omega) (by decide) (by decide)) ?_
            refine yy_if_le C dL_law_543 (pc' := 546) rfl (tgt := 564) (by decide) (fun c_543 => ?_) (fun c_543 => ?_)
            · skip
              refine yy_iconst C (v := (nI 0)) dL_law_564 (pc' := 565) rfl (by decide) ?_
              refine yy_iadd C (v := (nI (S.1 1))) dL_law_565 (pc' := 566) rfl (nI_add (S.1 1) 0) ?_
              refine yy_eqi (congrArg nI (ac_0 hw21 (fun z => absurd ((nI_le0 (by omega)).mp c_543) (by omega)))) ?_
              refine yy_istore C (L' := [(7, .int (nI (u12.1.1 1))), (9, .int r21), (8, .ref (u11.1)), (2, .int (nI ((2 * i_) + 2))), (6, .ref (o1)), (5, .int (nI j_)), (4, .int (nI i_)), (0, .ref (b)), (1, .ref (ad 0))]) dL_law_566 (pc' := 568) rfl (by decide) rfl ?_
              refine yy_iload C 6 dL_law_568 (pc' := 570) rfl rfl ?_
              refine yy_iconst C (v := (nI 3)) dL_law_570 (pc' := 571) rfl (by decide) ?_
              refine yy_irem C (v := (nI (i_ % 3))) dL_law_571 (pc' := 572) rfl (by decide) (pk_rem (by omega) (by decide) (by decide)) ?_
              refine yy_iconst C (v := (nI 2)) dL_law_572 (pc' := 573) rfl (by decide) ?_
              refine yn_icmp_ne C (by omega) (by decide) dL_law_573 (pc' := 576) rfl (tgt := 632) (by decide) (fun c_573 => ?_) (fun c_573 => ?_)
              · skip
                refine yy_iinc C (v := (nI (i_ + 1))) (L' := [(4, .int (nI (i_ + 1))), (7, .int (nI (u12.1.1 1))), (9, .int r21), (8, .ref (u11.1)), (2, .int (nI ((2 * i_) + 2))), (6, .ref (o1)), (5, .int (nI j_)), (0, .ref (b)), (1, .ref (ad 0))]) 6 dL_law_632 (pc' := 635) rfl rfl (nI_add i_ 1) (by decide) rfl ?_
                refine yy_goto C (tgt := 379) dL_law_635 (by decide) ?_
                refine yy_drop (w' := wA G ad u12.1 ++ []) (List.Sublist.append_left (List.nil_sublist _) _) ?_
                refine yy_loc [0, 4, 7, 8] rfl ?_
                refine yy_widen (cs2 := 300 + 3000 * (i_ + 1)) (ss2 := 10000 + 245000 * (i_ + 1)) (show 300 + 3000 * i_ + 418 ≤ 300 + 3000 * (i_ + 1) by omega) (show 10000 + 245000 * i_ + 225199 ≤ 10000 + 245000 * (i_ + 1) by omega) ?_
                exact ih379 (i_ + 1) u12.1 (by omega) hR2 (by omega)
              · skip
                refine yy_aload_n C 8 dL_law_576 (pc' := 577) rfl rfl rfl ?_
                refine yy_aload C 4 dL_law_577 (pc' := 579) rfl rfl ?_
                refine yy_iconst C (v := (nI 5)) dL_law_579 (pc' := 580) rfl (by decide) ?_
                refine yy_perm (w' := wA G ad u12.1 ++ ((o1, .inr (10, [.int u12.2])) :: (u11.1, .inr (0, [.ref (u11.2.1), .int (nI 0), .int (nI 0), .int (nI 0)])) :: (u11.2.1, .inl (G.2.2.2.1, (toldT S).2, .inl u11.2.2)) :: (u13.1, .inr (0, [.ref (u13.2.1), .int (nI 0), .int (nI 0), .int (nI 0)])) :: (u13.2.1, .inl (G.2.2.2.1, (toldT S).2, .inl u13.2.2)) :: [])) (List.Perm.append_left _ (pm_4_0_1_2_3 _ _ _ _ _ _)) ?_
                refine yy_perm (w' := (o1, .inr (10, [.int u12.2])) :: (wA G ad u12.1 ++ ((u11.1, .inr (0, [.ref (u11.2.1), .int (nI 0), .int (nI 0), .int (nI 0)])) :: (u11.2.1, .inl (G.2.2.2.1, (toldT S).2, .inl u11.2.2)) :: (u13.1, .inr (0, [.ref (u13.2.1), .int (nI 0), .int (nI 0), .int (nI 0)])) :: (u13.2.1, .inl (G.2.2.2.1, (toldT S).2, .inl u13.2.2)) :: []))) List.perm_middle ?_
                refine yc_i (yr_V C (As := [.int (nI 5)]) (rest := [.ref (ad 0)]) lk_L_115 cd_X7_next im_X7_next se_X7_next (mX7_next l G B0 o1 (wA G ad u12.1 ++ ((u11.1, .inr (0, [.ref (u11.2.1), .int (nI 0), .int (nI 0), .int (nI 0)])) :: (u11.2.1, .inl (G.2.2.2.1, (toldT S).2, .inl u11.2.2)) :: (u13.1, .inr (0, [.ref (u13.2.1), .int (nI 0), .int (nI 0), .int (nI 0)])) :: (u13.2.1, .inl (G.2.2.2.1, (toldT S).2, .inl u13.2.2)) :: [])) u12.2 5 (by decide)) ⟨by decide, by decide⟩ ⟨(show 300 + 3000 * i_ + 418 + 0 ≤ 600104 by omega), (show 10000 + 245000 * i_ + 225199 + 0 ≤ 7301314 by omega)⟩ 0 rfl rfl rfl rfl (Nat.le_of_ble_eq_true rfl) dL_law_580) (pc' := 583) rfl (fun r23 z2 hw23 => ?_)
                obtain ⟨a1_, ha1_, rfl⟩ := hw23
                refine yy_perm (w' := wA G ad u12.1 ++ ((o1, .inr (10, [.int z2])) :: (u11.1, .inr (0, [.ref (u11.2.1), .int (nI 0), .int (nI 0), .int (nI 0)])) :: (u11.2.1, .inl (G.2.2.2.1, (toldT S).2, .inl u11.2.2)) :: (u13.1, .inr (0, [.ref (u13.2.1), .int (nI 0), .int (nI 0), .int (nI 0)])) :: (u13.2.1, .inl (G.2.2.2.1, (toldT S).2, .inl u13.2.2)) :: [])) List.perm_middle.symm ?_
                refine yy_iload C 0 dL_law_583 (pc' := 585) rfl rfl ?_
                refine yc_i (yr_S C (As := [.ref (ad 0), .int (nI a1_), .int (nI (u12.1.1 1))]) (rest := []) lk_L_250 cd_L_held_ st_L_held_ (mL_held_ l hl0 G B0 ad ((o1, .inr (10, [.int z2])) :: (u11.1, .inr (0, [.ref (u11.2.1), .int (nI 0), .int (nI 0), .int (nI 0)])) :: (u11.2.1, .inl (G.2.2.2.1, (toldT S).2, .inl u11.2.2)) :: (u13.1, .inr (0, [.ref (u13.2.1), .int (nI 0), .int (nI 0), .int (nI 0)])) :: (u13.2.1, .inl (G.2.2.2.1, (toldT S).2, .inl u13.2.2)) :: []) u12.1 a1_ hR2 (show a1_ < 5 from ha1_)) ⟨by decide, by decide⟩ ⟨(show 300 + 3000 * i_ + 418 + 245 ≤ 600104 by omega), (show 10000 + 245000 * i_ + 225199 + 1470 ≤ 7301314 by omega)⟩ rfl rfl (Nat.le_of_ble_eq_true rfl) dL_law_585) (pc' := 588) rfl (fun r24 u14 hw24 => ?_)
                subst hw24
                refine yy_widen (cs2 := 300 + 3000 * i_ + 663) (ss2 := 10000 + 245000 * i_ + 226669) (show 300 + 3000 * i_ + 418 + 245 ≤ 300 + 3000 * i_ + 663 by omega) (show 10000 + 245000 * i_ + 225199 + 1470 ≤ 10000 + 245000 * i_ + 226669 by omega) ?_
                refine yy_if_eq C dL_law_588 (pc' := 591) rfl (tgt := 630) (by decide) (fun c_588 => ?_) (fun c_588 => ?_)
                · skip
                  exact absurd c_588 (by decide)
                · skip
                  refine yy_aload_n C 8 dL_law_591 (pc' := 592) rfl rfl rfl ?_
                  refine yy_iload C 0 dL_law_592 (pc' := 594) rfl rfl ?_
                  refine yc_i (yr_S C (As := [.ref (ad 0), .int (nI (u12.1.1 1))]) (rest := []) lk_L_253 cd_L_hidden st_L_hidden (mL_hidden l hl0 G B0 ad ((o1, .inr (10, [.int z2])) :: (u11.1, .inr (0, [.ref (u11.2.1), .int (nI 0), .int (nI 0), .int (nI 0)])) :: (u11.2.1, .inl (G.2.2.2.1, (toldT S).2, .inl u11.2.2)) :: (u13.1, .inr (0, [.ref (u13.2.1), .int (nI 0), .int (nI 0), .int (nI 0)])) :: (u13.2.1, .inl (G.2.2.2.1, (toldT S).2, .inl u13.2.2)) :: []) u12.1 hR2) ⟨by decide, by decide⟩ ⟨(show 300 + 3000 * i_ + 663 + 378 ≤ 600104 by omega), (show 10000 + 245000 * i_ + 226669 + 2270 ≤ 7301314 by omega)⟩ rfl rfl (Nat.le_of_ble_eq_true rfl) dL_law_594) (pc' := 597) rfl (fun r25 u15 hw25 => ?_)
                  subst hw25
                  refine yy_widen (cs2 := 300 + 3000 * i_ + 1041) (ss2 := 10000 + 245000 * i_ + 228939) (show 300 + 3000 * i_ + 663 + 378 ≤ 300 + 3000 * i_ + 1041 by omega) (show 10000 + 245000 * i_ + 226669 + 2270 ≤ 10000 + 245000 * i_ + 228939 by omega) ?_
                  refine yy_if_eq C dL_law_597 (pc' := 600) rfl (tgt := 630) (by decide) (fun c_597 => ?_) (fun c_597 => ?_)
                  · skip
                    exact absurd c_597 (by decide)
                  · skip
                    refine yy_aload_n C 8 dL_law_600 (pc' := 601) rfl rfl rfl ?_
                    refine yy_aload C 4 dL_law_601 (pc' := 603) rfl rfl ?_
                    refine yy_iconst C (v := (nI 4)) dL_law_603 (pc' := 604) rfl (by decide) ?_
                    refine yy_perm (w' := wA G ad u12.1 ++ ((o1, .inr (10, [.int z2])) :: (u15.1, .inl (G.2.1, 8, .inl u15.2)) :: (u11.1, .inr (0, [.ref (u11.2.1), .int (nI 0), .int (nI 0), .int (nI 0)])) :: (u11.2.1, .inl (G.2.2.2.1, (toldT S).2, .inl u11.2.2)) :: (u13.1, .inr (0, [.ref (u13.2.1), .int (nI 0), .int (nI 0), .int (nI 0)])) :: (u13.2.1, .inl (G.2.2.2.1, (toldT S).2, .inl u13.2.2)) :: [])) (List.Perm.append_left _ (pm_1_0_2_3_4_5 _ _ _ _ _ _ _)) ?_
                    refine yy_perm (w' := (o1, .inr (10, [.int z2])) :: (wA G ad u12.1 ++ ((u15.1, .inl (G.2.1, 8, .inl u15.2)) :: (u11.1, .inr (0, [.ref (u11.2.1), .int (nI 0), .int (nI 0), .int (nI 0)])) :: (u11.2.1, .inl (G.2.2.2.1, (toldT S).2, .inl u11.2.2)) :: (u13.1, .inr (0, [.ref (u13.2.1), .int (nI 0), .int (nI 0), .int (nI 0)])) :: (u13.2.1, .inl (G.2.2.2.1, (toldT S).2, .inl u13.2.2)) :: []))) List.perm_middle ?_
                    refine yc_i (yr_V C (As := [.int (nI 4)]) (rest := [.ref (ad 0)]) lk_L_115 cd_X7_next im_X7_next se_X7_next (mX7_next l G B0 o1 (wA G ad u12.1 ++ ((u15.1, .inl (G.2.1, 8, .inl u15.2)) :: (u11.1, .inr (0, [.ref (u11.2.1), .int (nI 0), .int (nI 0), .int (nI 0)])) :: (u11.2.1, .inl (G.2.2.2.1, (toldT S).2, .inl u11.2.2)) :: (u13.1, .inr (0, [.ref (u13.2.1), .int (nI 0), .int (nI 0), .int (nI 0)])) :: (u13.2.1, .inl (G.2.2.2.1, (toldT S).2, .inl u13.2.2)) :: [])) z2 4 (by decide)) ⟨by decide, by decide⟩ ⟨(show 300 + 3000 * i_ + 1041 + 0 ≤ 600104 by omega), (show 10000 + 245000 * i_ + 228939 + 0 ≤ 7301314 by omega)⟩ 0 rfl rfl rfl rfl (Nat.le_of_ble_eq_true rfl) dL_law_604) (pc' := 607) rfl (fun r26 z3 hw26 => ?_)
                    refine yy_perm (w' := wA G ad u12.1 ++ ((o1, .inr (10, [.int z3])) :: (u15.1, .inl (G.2.1, 8, .inl u15.2)) :: (u11.1, .inr (0, [.ref (u11.2.1), .int (nI 0), .int (nI 0), .int (nI 0)])) :: (u11.2.1, .inl (G.2.2.2.1, (toldT S).2, .inl u11.2.2)) :: (u13.1, .inr (0, [.ref (u13.2.1), .int (nI 0), .int (nI 0), .int (nI 0)])) :: (u13.2.1, .inl (G.2.2.2.1, (toldT S).2, .inl u13.2.2)) :: [])) List.perm_middle.symm ?_
                    refine yy_iload C 0 dL_law_607 (pc' := 609) rfl rfl ?_
                    refine yc_i (yr_S C (As := [.ref (ad 0), .int r26, .int (nI (u12.1.1 1))]) (rest := []) lk_L_256 cd_L_answered st_L_answered (mL_answered l hl0 G B0 ad ((o1, .inr (10, [.int z3])) :: (u15.1, .inl (G.2.1, 8, .inl u15.2)) :: (u11.1, .inr (0, [.ref (u11.2.1), .int (nI 0), .int (nI 0), .int (nI 0)])) :: (u11.2.1, .inl (G.2.2.2.1, (toldT S).2, .inl u11.2.2)) :: (u13.1, .inr (0, [.ref (u13.2.1), .int (nI 0), .int (nI 0), .int (nI 0)])) :: (u13.2.1, .inl (G.2.2.2.1, (toldT S).2, .inl u13.2.2)) :: []) u12.1 r26 hR2) ⟨by decide, by decide⟩ ⟨(show 300 + 3000 * i_ + 1041 + 606 ≤ 600104 by omega), (show 10000 + 245000 * i_ + 228939 + 3830 ≤ 7301314 by omega)⟩ rfl rfl (Nat.le_of_ble_eq_true rfl) dL_law_609) (pc' := 612) rfl (fun r27 u16 hw27 => ?_)
                    obtain ⟨hr3, hR3, hn3⟩ := hw27
                    subst hr3
                    refine yy_widen (cs2 := 300 + 3000 * i_ + 1647) (ss2 := 10000 + 245000 * i_ + 232769) (show 300 + 3000 * i_ + 1041 + 606 ≤ 300 + 3000 * i_ + 1647 by omega) (show 10000 + 245000 * i_ + 228939 + 3830 ≤ 10000 + 245000 * i_ + 232769 by omega) ?_
                    refine yy_if_eq C dL_law_612 (pc' := 615) rfl (tgt := 630) (by decide) (fun c_612 => ?_) (fun c_612 => ?_)
                    · skip
                      exact absurd c_612 (by decide)
                    · skip
                      refine yy_aload_n C 8 dL_law_615 (pc' := 616) rfl rfl rfl ?_
                      refine yy_aload C 4 dL_law_616 (pc' := 618) rfl rfl ?_
                      refine yy_iconst C (v := (nI 5)) dL_law_618 (pc' := 619) rfl (by decide) ?_
                      refine yy_perm (w' := (o1, .inr (10, [.int z3])) :: (wA G ad u16 ++ ((u15.1, .inl (G.2.1, 8, .inl u15.2)) :: (u11.1, .inr (0, [.ref (u11.2.1), .int (nI 0), .int (nI 0), .int (nI 0)])) :: (u11.2.1, .inl (G.2.2.2.1, (toldT S).2, .inl u11.2.2)) :: (u13.1, .inr (0, [.ref (u13.2.1), .int (nI 0), .int (nI 0), .int (nI 0)])) :: (u13.2.1, .inl (G.2.2.2.1, (toldT S).2, .inl u13.2.2)) :: []))) List.perm_middle ?_
                      refine yc_i (yr_V C (As := [.int (nI 5)]) (rest := [.ref (ad 0)]) lk_L_115 cd_X7_next im_X7_next se_X7_next (mX7_next l G B0 o1 (wA G ad u16 ++ ((u15.1, .inl (G.2.1, 8, .inl u15.2)) :: (u11.1, .inr (0, [.ref (u11.2.1), .int (nI 0), .int (nI 0), .int (nI 0)])) :: (u11.2.1, .inl (G.2.2.2.1, (toldT S).2, .inl u11.2.2)) :: (u13.1, .inr (0, [.ref (u13.2.1), .int (nI 0), .int (nI 0), .int (nI 0)])) :: (u13.2.1, .inl (G.2.2.2.1, (toldT S).2, .inl u13.2.2)) :: [])) z3 5 (by decide)) ⟨by decide, by decide⟩ ⟨(show 300 + 3000 * i_ + 1647 + 0 ≤ 600104 by omega), (show 10000 + 245000 * i_ + 232769 + 0 ≤ 7301314 by omega)⟩ 0 rfl rfl rfl rfl (Nat.le_of_ble_eq_true rfl) dL_law_619) (pc' := 622) rfl (fun r28 z4 hw28 => ?_)
                      obtain ⟨a2_, ha2_, rfl⟩ := hw28
                      refine yy_perm (w' := wA G ad u16 ++ ((o1, .inr (10, [.int z4])) :: (u15.1, .inl (G.2.1, 8, .inl u15.2)) :: (u11.1, .inr (0, [.ref (u11.2.1), .int (nI 0), .int (nI 0), .int (nI 0)])) :: (u11.2.1, .inl (G.2.2.2.1, (toldT S).2, .inl u11.2.2)) :: (u13.1, .inr (0, [.ref (u13.2.1), .int (nI 0), .int (nI 0), .int (nI 0)])) :: (u13.2.1, .inl (G.2.2.2.1, (toldT S).2, .inl u13.2.2)) :: [])) List.perm_middle.symm ?_
                      refine yy_iload C 0 dL_law_622 (pc' := 624) rfl rfl ?_
                      refine yy_eqi (congrArg nI hn3.symm) ?_
                      refine yc_i (yr_S C (As := [.ref (ad 0), .int (nI a2_), .int (nI (u16.1 1))]) (rest := []) lk_L_250 cd_L_held_ st_L_held_ (mL_held_ l hl0 G B0 ad ((o1, .inr (10, [.int z4])) :: (u15.1, .inl (G.2.1, 8, .inl u15.2)) :: (u11.1, .inr (0, [.ref (u11.2.1), .int (nI 0), .int (nI 0), .int (nI 0)])) :: (u11.2.1, .inl (G.2.2.2.1, (toldT S).2, .inl u11.2.2)) :: (u13.1, .inr (0, [.ref (u13.2.1), .int (nI 0), .int (nI 0), .int (nI 0)])) :: (u13.2.1, .inl (G.2.2.2.1, (toldT S).2, .inl u13.2.2)) :: []) u16 a2_ hR3 (show a2_ < 5 from ha2_)) ⟨by decide, by decide⟩ ⟨(show 300 + 3000 * i_ + 1647 + 245 ≤ 600104 by omega), (show 10000 + 245000 * i_ + 232769 + 1470 ≤ 7301314 by omega)⟩ rfl rfl (Nat.le_of_ble_eq_true rfl) dL_law_624) (pc' := 627) rfl (fun r29 u17 hw29 => ?_)
                      subst hw29
                      refine yy_widen (cs2 := 300 + 3000 * i_ + 1892) (ss2 := 10000 + 245000 * i_ + 234239) (show 300 + 3000 * i_ + 1647 + 245 ≤ 300 + 3000 * i_ + 1892 by omega) (show 10000 + 245000 * i_ + 232769 + 1470 ≤ 10000 + 245000 * i_ + 234239 by omega) ?_
                      refine yy_if_ne C dL_law_627 (pc' := 630) rfl (tgt := 632) (by decide) (fun c_627 => ?_) (fun c_627 => ?_)
                      · skip
                        refine yy_iinc C (v := (nI (i_ + 1))) (L' := [(4, .int (nI (i_ + 1))), (7, .int (nI (u12.1.1 1))), (9, .int r21), (8, .ref (u11.1)), (2, .int (nI ((2 * i_) + 2))), (6, .ref (o1)), (5, .int (nI j_)), (0, .ref (b)), (1, .ref (ad 0))]) 6 dL_law_632 (pc' := 635) rfl rfl (nI_add i_ 1) (by decide) rfl ?_
                        refine yy_goto C (tgt := 379) dL_law_635 (by decide) ?_
                        refine yy_drop (w' := wA G ad u16 ++ []) (List.Sublist.append_left (List.nil_sublist _) _) ?_
                        refine yy_loc [0, 4, 7, 8] rfl ?_
                        refine yy_widen (cs2 := 300 + 3000 * (i_ + 1)) (ss2 := 10000 + 245000 * (i_ + 1)) (show 300 + 3000 * i_ + 1892 ≤ 300 + 3000 * (i_ + 1) by omega) (show 10000 + 245000 * i_ + 234239 ≤ 10000 + 245000 * (i_ + 1) by omega) ?_
                        exact ih379 (i_ + 1) u16 (by omega) hR3 (by omega)
                      · skip
                        exact absurd c_627 (by decide)
            · skip
              refine yy_iload C 5 dL_law_546 (pc' := 548) rfl rfl ?_
              refine yy_bipush C (v := (nI 28)) dL_law_548 (pc' := 550) rfl (by decide) ?_
              refine yy_irem C (v := (nI (j_ % 28))) dL_law_550 (pc' := 551) rfl (by decide) (pk_rem (by omega) (by decide) (by decide)) ?_
              refine yy_iconst C (v := (nI 3)) dL_law_551 (pc' := 552) rfl (by decide) ?_
              refine yn_icmp_ge C (by omega) (by decide) dL_law_552 (pc' := 555) rfl (tgt := 564) (by decide) (fun c_552 => ?_) (fun c_552 => ?_)
              · skip
                refine yy_iconst C (v := (nI 0)) dL_law_564 (pc' := 565) rfl (by decide) ?_
                refine yy_iadd C (v := (nI (S.1 1))) dL_law_565 (pc' := 566) rfl (nI_add (S.1 1) 0) ?_
                refine yy_eqi (congrArg nI (ac_0 hw21 (fun z => absurd z.2 (by omega)))) ?_
                refine yy_istore C (L' := [(7, .int (nI (u12.1.1 1))), (9, .int r21), (8, .ref (u11.1)), (2, .int (nI ((2 * i_) + 2))), (6, .ref (o1)), (5, .int (nI j_)), (4, .int (nI i_)), (0, .ref (b)), (1, .ref (ad 0))]) dL_law_566 (pc' := 568) rfl (by decide) rfl ?_
                refine yy_iload C 6 dL_law_568 (pc' := 570) rfl rfl ?_
                refine yy_iconst C (v := (nI 3)) dL_law_570 (pc' := 571) rfl (by decide) ?_
                refine yy_irem C (v := (nI (i_ % 3))) dL_law_571 (pc' := 572) rfl (by decide) (pk_rem (by omega) (by decide) (by decide)) ?_
                refine yy_iconst C (v := (nI 2)) dL_law_572 (pc' := 573) rfl (by decide) ?_
                refine yn_icmp_ne C (by omega) (by decide) dL_law_573 (pc' := 576) rfl (tgt := 632) (by decide) (fun c_573 => ?_) (fun c_573 => ?_)
                · skip
                  refine yy_iinc C (v := (nI (i_ + 1))) (L' := [(4, .int (nI (i_ + 1))), (7, .int (nI (u12.1.1 1))), (9, .int r21), (8, .ref (u11.1)), (2, .int (nI ((2 * i_) + 2))), (6, .ref (o1)), (5, .int (nI j_)), (0, .ref (b)), (1, .ref (ad 0))]) 6 dL_law_632 (pc' := 635) rfl rfl (nI_add i_ 1) (by decide) rfl ?_
                  refine yy_goto C (tgt := 379) dL_law_635 (by decide) ?_
                  refine yy_drop (w' := wA G ad u12.1 ++ []) (List.Sublist.append_left (List.nil_sublist _) _) ?_
                  refine yy_loc [0, 4, 7, 8] rfl ?_
                  refine yy_widen (cs2 := 300 + 3000 * (i_ + 1)) (ss2 := 10000 + 245000 * (i_ + 1)) (show 300 + 3000 * i_ + 418 ≤ 300 + 3000 * (i_ + 1) by omega) (show 10000 + 245000 * i_ + 225199 ≤ 10000 + 245000 * (i_ + 1) by omega) ?_
                  exact ih379 (i_ + 1) u12.1 (by omega) hR2 (by omega)
                · skip
                  refine yy_aload_n C 8 dL_law_576 (pc' := 577) rfl rfl rfl ?_
                  refine yy_aload C 4 dL_law_577 (pc' := 579) rfl rfl ?_
                  refine yy_iconst C (v := (nI 5)) dL_law_579 (pc' := 580) rfl (by decide) ?_
                  refine yy_perm (w' := wA G ad u12.1 ++ ((o1, .inr (10, [.int u12.2])) :: (u11.1, .inr (0, [.ref (u11.2.1), .int (nI 0), .int (nI 0), .int (nI 0)])) :: (u11.2.1, .inl (G.2.2.2.1, (toldT S).2, .inl u11.2.2)) :: (u13.1, .inr (0, [.ref (u13.2.1), .int (nI 0), .int (nI 0), .int (nI 0)])) :: (u13.2.1, .inl (G.2.2.2.1, (toldT S).2, .inl u13.2.2)) :: [])) (List.Perm.append_left _ (pm_4_0_1_2_3 _ _ _ _ _ _)) ?_
                  refine yy_perm (w' := (o1, .inr (10, [.int u12.2])) :: (wA G ad u12.1 ++ ((u11.1, .inr (0, [.ref (u11.2.1), .int (nI 0), .int (nI 0), .int (nI 0)])) :: (u11.2.1, .inl (G.2.2.2.1, (toldT S).2, .inl u11.2.2)) :: (u13.1, .inr (0, [.ref (u13.2.1), .int (nI 0), .int (nI 0), .int (nI 0)])) :: (u13.2.1, .inl (G.2.2.2.1, (toldT S).2, .inl u13.2.2)) :: []))) List.perm_middle ?_
                  refine yc_i (yr_V C (As := [.int (nI 5)]) (rest := [.ref (ad 0)]) lk_L_115 cd_X7_next im_X7_next se_X7_next (mX7_next l G B0 o1 (wA G ad u12.1 ++ ((u11.1, .inr (0, [.ref (u11.2.1), .int (nI 0), .int (nI 0), .int (nI 0)])) :: (u11.2.1, .inl (G.2.2.2.1, (toldT S).2, .inl u11.2.2)) :: (u13.1, .inr (0, [.ref (u13.2.1), .int (nI 0), .int (nI 0), .int (nI 0)])) :: (u13.2.1, .inl (G.2.2.2.1, (toldT S).2, .inl u13.2.2)) :: [])) u12.2 5 (by decide)) ⟨by decide, by decide⟩ ⟨(show 300 + 3000 * i_ + 418 + 0 ≤ 600104 by omega), (show 10000 + 245000 * i_ + 225199 + 0 ≤ 7301314 by omega)⟩ 0 rfl rfl rfl rfl (Nat.le_of_ble_eq_true rfl) dL_law_580) (pc' := 583) rfl (fun r23 z2 hw23 => ?_)
                  obtain ⟨a1_, ha1_, rfl⟩ := hw23
                  refine yy_perm (w' := wA G ad u12.1 ++ ((o1, .inr (10, [.int z2])) :: (u11.1, .inr (0, [.ref (u11.2.1), .int (nI 0), .int (nI 0), .int (nI 0)])) :: (u11.2.1, .inl (G.2.2.2.1, (toldT S).2, .inl u11.2.2)) :: (u13.1, .inr (0, [.ref (u13.2.1), .int (nI 0), .int (nI 0), .int (nI 0)])) :: (u13.2.1, .inl (G.2.2.2.1, (toldT S).2, .inl u13.2.2)) :: [])) List.perm_middle.symm ?_
                  refine yy_iload C 0 dL_law_583 (pc' := 585) rfl rfl ?_
                  refine yc_i (yr_S C (As := [.ref (ad 0), .int (nI a1_), .int (nI (u12.1.1 1))]) (rest := []) lk_L_250 cd_L_held_ st_L_held_ (mL_held_ l hl0 G B0 ad ((o1, .inr (10, [.int z2])) :: (u11.1, .inr (0, [.ref (u11.2.1), .int (nI 0), .int (nI 0), .int (nI 0)])) :: (u11.2.1, .inl (G.2.2.2.1, (toldT S).2, .inl u11.2.2)) :: (u13.1, .inr (0, [.ref (u13.2.1), .int (nI 0), .int (nI 0), .int (nI 0)])) :: (u13.2.1, .inl (G.2.2.2.1, (toldT S).2, .inl u13.2.2)) :: []) u12.1 a1_ hR2 (show a1_ < 5 from ha1_)) ⟨by decide, by decide⟩ ⟨(show 300 + 3000 * i_ + 418 + 245 ≤ 600104 by omega), (show 10000 + 245000 * i_ + 225199 + 1470 ≤ 7301314 by omega)⟩ rfl rfl (Nat.le_of_ble_eq_true rfl) dL_law_585) (pc' := 588) rfl (fun r24 u14 hw24 => ?_)
                  subst hw24
                  refine yy_widen (cs2 := 300 + 3000 * i_ + 663) (ss2 := 10000 + 245000 * i_ + 226669) (show 300 + 3000 * i_ + 418 + 245 ≤ 300 + 3000 * i_ + 663 by omega) (show 10000 + 245000 * i_ + 225199 + 1470 ≤ 10000 + 245000 * i_ + 226669 by omega) ?_
                  refine yy_if_eq C dL_law_588 (pc' := 591) rfl (tgt := 630) (by decide) (fun c_588 => ?_) (fun c_588 => ?_)
                  · skip
                    exact absurd c_588 (by decide)
                  · skip
                    refine yy_aload_n C 8 dL_law_591 (pc' := 592) rfl rfl rfl ?_
                    refine yy_iload C 0 dL_law_592 (pc' := 594) rfl rfl ?_
                    refine yc_i (yr_S C (As := [.ref (ad 0), .int (nI (u12.1.1 1))]) (rest := []) lk_L_253 cd_L_hidden st_L_hidden (mL_hidden l hl0 G B0 ad ((o1, .inr (10, [.int z2])) :: (u11.1, .inr (0, [.ref (u11.2.1), .int (nI 0), .int (nI 0), .int (nI 0)])) :: (u11.2.1, .inl (G.2.2.2.1, (toldT S).2, .inl u11.2.2)) :: (u13.1, .inr (0, [.ref (u13.2.1), .int (nI 0), .int (nI 0), .int (nI 0)])) :: (u13.2.1, .inl (G.2.2.2.1, (toldT S).2, .inl u13.2.2)) :: []) u12.1 hR2) ⟨by decide, by decide⟩ ⟨(show 300 + 3000 * i_ + 663 + 378 ≤ 600104 by omega), (show 10000 + 245000 * i_ + 226669 + 2270 ≤ 7301314 by omega)⟩ rfl rfl (Nat.le_of_ble_eq_true rfl) dL_law_594) (pc' := 597) rfl (fun r25 u15 hw25 => ?_)
                    subst hw25
                    refine yy_widen (cs2 := 300 + 3000 * i_ + 1041) (ss2 := 10000 + 245000 * i_ + 228939) (show 300 + 3000 * i_ + 663 + 378 ≤ 300 + 3000 * i_ + 1041 by omega) (show 10000 + 245000 * i_ + 226669 + 2270 ≤ 10000 + 245000 * i_ + 228939 by omega) ?_
                    refine yy_if_eq C dL_law_597 (pc' := 600) rfl (tgt := 630) (by decide) (fun c_597 => ?_) (fun c_597 => ?_)
                    · skip
                      exact absurd c_597 (by decide)
                    · skip
                      refine yy_aload_n C 8 dL_law_600 (pc' := 601) rfl rfl rfl ?_
                      refine yy_aload C 4 dL_law_601 (pc' := 603) rfl rfl ?_
                      refine yy_iconst C (v := (nI 4)) dL_law_603 (pc' := 604) rfl (by decide) ?_
                      refine yy_perm (w' := wA G ad u12.1 ++ ((o1, .inr (10, [.int z2])) :: (u15.1, .inl (G.2.1, 8, .inl u15.2)) :: (u11.1, .inr (0, [.ref (u11.2.1), .int (nI 0), .int (nI 0), .int (nI 0)])) :: (u11.2.1, .inl (G.2.2.2.1, (toldT S).2, .inl u11.2.2)) :: (u13.1, .inr (0, [.ref (u13.2.1), .int (nI 0), .int (nI 0), .int (nI 0)])) :: (u13.2.1, .inl (G.2.2.2.1, (toldT S).2, .inl u13.2.2)) :: [])) (List.Perm.append_left _ (pm_1_0_2_3_4_5 _ _ _ _ _ _ _)) ?_
                      refine yy_perm (w' := (o1, .inr (10, [.int z2])) :: (wA G ad u12.1 ++ ((u15.1, .inl (G.2.1, 8, .inl u15.2)) :: (u11.1, .inr (0, [.ref (u11.2.1), .int (nI 0), .int (nI 0), .int (nI 0)])) :: (u11.2.1, .inl (G.2.2.2.1, (toldT S).2, .inl u11.2.2)) :: (u13.1, .inr (0, [.ref (u13.2.1), .int (nI 0), .int (nI 0), .int (nI 0)])) :: (u13.2.1, .inl (G.2.2.2.1, (toldT S).2, .inl u13.2.2)) :: []))) List.perm_middle ?_
                      refine yc_i (yr_V C (As := [.int (nI 4)]) (rest := [.ref (ad 0)]) lk_L_115 cd_X7_next im_X7_next se_X7_next (mX7_next l G B0 o1 (wA G ad u12.1 ++ ((u15.1, .inl (G.2.1, 8, .inl u15.2)) :: (u11.1, .inr (0, [.ref (u11.2.1), .int (nI 0), .int (nI 0), .int (nI 0)])) :: (u11.2.1, .inl (G.2.2.2.1, (toldT S).2, .inl u11.2.2)) :: (u13.1, .inr (0, [.ref (u13.2.1), .int (nI 0), .int (nI 0), .int (nI 0)])) :: (u13.2.1, .inl (G.2.2.2.1, (toldT S).2, .inl u13.2.2)) :: [])) z2 4 (by decide)) ⟨by decide, by decide⟩ ⟨(show 300 + 3000 * i_ + 1041 + 0 ≤ 600104 by omega), (show 10000 + 245000 * i_ + 228939 + 0 ≤ 7301314 by omega)⟩ 0 rfl rfl rfl rfl (Nat.le_of_ble_eq_true rfl) dL_law_604) (pc' := 607) rfl (fun r26 z3 hw26 => ?_)
                      refine yy_perm (w' := wA G ad u12.1 ++ ((o1, .inr (10, [.int z3])) :: (u15.1, .inl (G.2.1, 8, .inl u15.2)) :: (u11.1, .inr (0, [.ref (u11.2.1), .int (nI 0), .int (nI 0), .int (nI 0)])) :: (u11.2.1, .inl (G.2.2.2.1, (toldT S).2, .inl u11.2.2)) :: (u13.1, .inr (0, [.ref (u13.2.1), .int (nI 0), .int (nI 0), .int (nI 0)])) :: (u13.2.1, .inl (G.2.2.2.1, (toldT S).2, .inl u13.2.2)) :: [])) List.perm_middle.symm ?_
                      refine yy_iload C 0 dL_law_607 (pc' := 609) rfl rfl ?_
                      refine yc_i (yr_S C (As := [.ref (ad 0), .int r26, .int (nI (u12.1.1 1))]) (rest := []) lk_L_256 cd_L_answered st_L_answered (mL_answered l hl0 G B0 ad ((o1, .inr (10, [.int z3])) :: (u15.1, .inl (G.2.1, 8, .inl u15.2)) :: (u11.1, .inr (0, [.ref (u11.2.1), .int (nI 0), .int (nI 0), .int (nI 0)])) :: (u11.2.1, .inl (G.2.2.2.1, (toldT S).2, .inl u11.2.2)) :: (u13.1, .inr (0, [.ref (u13.2.1), .int (nI 0), .int (nI 0), .int (nI 0)])) :: (u13.2.1, .inl (G.2.2.2.1, (toldT S).2, .inl u13.2.2)) :: []) u12.1 r26 hR2) ⟨by decide, by decide⟩ ⟨(show 300 + 3000 * i_ + 1041 + 606 ≤ 600104 by omega), (show 10000 + 245000 * i_ + 228939 + 3830 ≤ 7301314 by omega)⟩ rfl rfl (Nat.le_of_ble_eq_true rfl) dL_law_609) (pc' := 612) rfl (fun r27 u16 hw27 => ?_)
                      obtain ⟨hr3, hR3, hn3⟩ := hw27
                      subst hr3
                      refine yy_widen (cs2 := 300 + 3000 * i_ + 1647) (ss2 := 10000 + 245000 * i_ + 232769) (show 300 + 3000 * i_ + 1041 + 606 ≤ 300 + 3000 * i_ + 1647 by omega) (show 10000 + 245000 * i_ + 228939 + 3830 ≤ 10000 + 245000 * i_ + 232769 by omega) ?_
                      refine yy_if_eq C dL_law_612 (pc' := 615) rfl (tgt := 630) (by decide) (fun c_612 => ?_) (fun c_612 => ?_)
                      · skip
                        exact absurd c_612 (by decide)
                      · skip
                        refine yy_aload_n C 8 dL_law_615 (pc' := 616) rfl rfl rfl ?_
                        refine yy_aload C 4 dL_law_616 (pc' := 618) rfl rfl ?_
                        refine yy_iconst C (v := (nI 5)) dL_law_618 (pc' := 619) rfl (by decide) ?_
                        refine yy_perm (w' := (o1, .inr (10, [.int z3])) :: (wA G ad u16 ++ ((u15.1, .inl (G.2.1, 8, .inl u15.2)) :: (u11.1, .inr (0, [.ref (u11.2.1), .int (nI 0), .int (nI 0), .int (nI 0)])) :: (u11.2.1, .inl (G.2.2.2.1, (toldT S).2, .inl u11.2.2)) :: (u13.1, .inr (0, [.ref (u13.2.1), .int (nI 0), .int (nI 0), .int (nI 0)])) :: (u13.2.1, .inl (G.2.2.2.1, (toldT S).2, .inl u13.2.2)) :: []))) List.perm_middle ?_
                        refine yc_i (yr_V C (As := [.int (nI 5)]) (rest := [.ref (ad 0)]) lk_L_115 cd_X7_next im_X7_next se_X7_next (mX7_next l G B0 o1 (wA G ad u16 ++ ((u15.1, .inl (G.2.1, 8, .inl u15.2)) :: (u11.1, .inr (0, [.ref (u11.2.1), .int (nI 0), .int (nI 0), .int (nI 0)])) :: (u11.2.1, .inl (G.2.2.2.1, (toldT S).2, .inl u11.2.2)) :: (u13.1, .inr (0, [.ref (u13.2.1), .int (nI 0), .int (nI 0), .int (nI 0)])) :: (u13.2.1, .inl (G.2.2.2.1, (toldT S).2, .inl u13.2.2)) :: [])) z3 5 (by decide)) ⟨by decide, by decide⟩ ⟨(show 300 + 3000 * i_ + 1647 + 0 ≤ 600104 by omega), (show 10000 + 245000 * i_ + 232769 + 0 ≤ 7301314 by omega)⟩ 0 rfl rfl rfl rfl (Nat.le_of_ble_eq_true rfl) dL_law_619) (pc' := 622) rfl (fun r28 z4 hw28 => ?_)
                        obtain ⟨a2_, ha2_, rfl⟩ := hw28
                        refine yy_perm (w' := wA G ad u16 ++ ((o1, .inr (10, [.int z4])) :: (u15.1, .inl (G.2.1, 8, .inl u15.2)) :: (u11.1, .inr (0, [.ref (u11.2.1), .int (nI 0), .int (nI 0), .int (nI 0)])) :: (u11.2.1, .inl (G.2.2.2.1, (toldT S).2, .inl u11.2.2)) :: (u13.1, .inr (0, [.ref (u13.2.1), .int (nI 0), .int (nI 0), .int (nI 0)])) :: (u13.2.1, .inl (G.2.2.2.1, (toldT S).2, .inl u13.2.2)) :: [])) List.perm_middle.symm ?_
                        refine yy_iload C 0 dL_law_622 (pc' := 624) rfl rfl ?_
                        refine yy_eqi (congrArg nI hn3.symm) ?_
                        refine yc_i (yr_S C (As := [.ref (ad 0), .int (nI a2_), .int (nI (u16.1 1))]) (rest := []) lk_L_250 cd_L_held_ st_L_held_ (mL_held_ l hl0 G B0 ad ((o1, .inr (10, [.int z4])) :: (u15.1, .inl (G.2.1, 8, .inl u15.2)) :: (u11.1, .inr (0, [.ref (u11.2.1), .int (nI 0), .int (nI 0), .int (nI 0)])) :: (u11.2.1, .inl (G.2.2.2.1, (toldT S).2, .inl u11.2.2)) :: (u13.1, .inr (0, [.ref (u13.2.1), .int (nI 0), .int (nI 0), .int (nI 0)])) :: (u13.2.1, .inl (G.2.2.2.1, (toldT S).2, .inl u13.2.2)) :: []) u16 a2_ hR3 (show a2_ < 5 from ha2_)) ⟨by decide, by decide⟩ ⟨(show 300 + 3000 * i_ + 1647 + 245 ≤ 600104 by omega), (show 10000 + 245000 * i_ + 232769 + 1470 ≤ 7301314 by omega)⟩ rfl rfl (Nat.le_of_ble_eq_true rfl) dL_law_624) (pc' := 627) rfl (fun r29 u17 hw29 => ?_)
                        subst hw29
                        refine yy_widen (cs2 := 300 + 3000 * i_ + 1892) (ss2 := 10000 + 245000 * i_ + 234239) (show 300 + 3000 * i_ + 1647 + 245 ≤ 300 + 3000 * i_ + 1892 by omega) (show 10000 + 245000 * i_ + 232769 + 1470 ≤ 10000 + 245000 * i_ + 234239 by omega) ?_
                        refine yy_if_ne C dL_law_627 (pc' := 630) rfl (tgt := 632) (by decide) (fun c_627 => ?_) (fun c_627 => ?_)
                        · skip
                          refine yy_iinc C (v := (nI (i_ + 1))) (L' := [(4, .int (nI (i_ + 1))), (7, .int (nI (u12.1.1 1))), (9, .int r21), (8, .ref (u11.1)), (2, .int (nI ((2 * i_) + 2))), (6, .ref (o1)), (5, .int (nI j_)), (0, .ref (b)), (1, .ref (ad 0))]) 6 dL_law_632 (pc' := 635) rfl rfl (nI_add i_ 1) (by decide) rfl ?_
                          refine yy_goto C (tgt := 379) dL_law_635 (by decide) ?_
                          refine yy_drop (w' := wA G ad u16 ++ []) (List.Sublist.append_left (List.nil_sublist _) _) ?_
                          refine yy_loc [0, 4, 7, 8] rfl ?_
                          refine yy_widen (cs2 := 300 + 3000 * (i_ + 1)) (ss2 := 10000 + 245000 * (i_ + 1)) (show 300 + 3000 * i_ + 1892 ≤ 300 + 3000 * (i_ + 1) by omega) (show 10000 + 245000 * i_ + 234239 ≤ 10000 + 245000 * (i_ + 1) by omega) ?_
                          exact ih379 (i_ + 1) u16 (by omega) hR3 (by omega)
                        · skip
                          exact absurd c_627 (by decide)
              · skip
                refine yy_iload C 0 dL_law_555 (pc' := 557) rfl rfl ?_
                refine yy_if_lt C dL_law_557 (pc' := 560) rfl (tgt := 564) (by decide) (fun c_557 => ?_) (fun c_557 => ?_)
                · skip
                  refine yy_iconst C (v := (nI 0)) dL_law_564 (pc' := 565) rfl (by decide) ?_
                  refine yy_iadd C (v := (nI (S.1 1))) dL_law_565 (pc' := 566) rfl (nI_add (S.1 1) 0) ?_
                  refine yy_eqi (congrArg nI (ac_n hw21 c_557)) ?_
                  refine yy_istore C (L' := [(7, .int (nI (u12.1.1 1))), (9, .int r21), (8, .ref (u11.1)), (2, .int (nI ((2 * i_) + 2))), (6, .ref (o1)), (5, .int (nI j_)), (4, .int (nI i_)), (0, .ref (b)), (1, .ref (ad 0))]) dL_law_566 (pc' := 568) rfl (by decide) rfl ?_
                  refine yy_iload C 6 dL_law_568 (pc' := 570) rfl rfl ?_
                  refine yy_iconst C (v := (nI 3)) dL_law_570 (pc' := 571) rfl (by decide) ?_
                  refine yy_irem C (v := (nI (i_ % 3))) dL_law_571 (pc' := 572) rfl (by decide) (pk_rem (by omega) (by decide) (by decide)) ?_
                  refine yy_iconst C (v := (nI 2)) dL_law_572 (pc' := 573) rfl (by decide) ?_
                  refine yn_icmp_ne C (by omega) (by decide) dL_law_573 (pc' := 576) rfl (tgt := 632) (by decide) (fun c_573 => ?_) (fun c_573 => ?_)
                  · skip
                    refine yy_iinc C (v := (nI (i_ + 1))) (L' := [(4, .int (nI (i_ + 1))), (7, .int (nI (u12.1.1 1))), (9, .int r21), (8, .ref (u11.1)), (2, .int (nI ((2 * i_) + 2))), (6, .ref (o1)), (5, .int (nI j_)), (0, .ref (b)), (1, .ref (ad 0))]) 6 dL_law_632 (pc' := 635) rfl rfl (nI_add i_ 1) (by decide) rfl ?_
                    refine yy_goto C (tgt := 379) dL_law_635 (by decide) ?_
                    refine yy_drop (w' := wA G ad u12.1 ++ []) (List.Sublist.append_left (List.nil_sublist _) _) ?_
                    refine yy_loc [0, 4, 7, 8] rfl ?_
                    refine yy_widen (cs2 := 300 + 3000 * (i_ + 1)) (ss2 := 10000 + 245000 * (i_ + 1)) (show 300 + 3000 * i_ + 418 ≤ 300 + 3000 * (i_ + 1) by omega) (show 10000 + 245000 * i_ + 225199 ≤ 10000 + 245000 * (i_ + 1) by omega) ?_
                    exact ih379 (i_ + 1) u12.1 (by omega) hR2 (by omega)
                  · skip
                    refine yy_aload_n C 8 dL_law_576 (pc' := 577) rfl rfl rfl ?_
                    refine yy_aload C 4 dL_law_577 (pc' := 579) rfl rfl ?_
                    refine yy_iconst C (v := (nI 5)) dL_law_579 (pc' := 580) rfl (by decide) ?_
                    refine yy_perm (w' := wA G ad u12.1 ++ ((o1, .inr (10, [.int u12.2])) :: (u11.1, .inr (0, [.ref (u11.2.1), .int (nI 0), .int (nI 0), .int (nI 0)])) :: (u11.2.1, .inl (G.2.2.2.1, (toldT S).2, .inl u11.2.2)) :: (u13.1, .inr (0, [.ref (u13.2.1), .int (nI 0), .int (nI 0), .int (nI 0)])) :: (u13.2.1, .inl (G.2.2.2.1, (toldT S).2, .inl u13.2.2)) :: [])) (List.Perm.append_left _ (pm_4_0_1_2_3 _ _ _ _ _ _)) ?_
                    refine yy_perm (w' := (o1, .inr (10, [.int u12.2])) :: (wA G ad u12.1 ++ ((u11.1, .inr (0, [.ref (u11.2.1), .int (nI 0), .int (nI 0), .int (nI 0)])) :: (u11.2.1, .inl (G.2.2.2.1, (toldT S).2, .inl u11.2.2)) :: (u13.1, .inr (0, [.ref (u13.2.1), .int (nI 0), .int (nI 0), .int (nI 0)])) :: (u13.2.1, .inl (G.2.2.2.1, (toldT S).2, .inl u13.2.2)) :: []))) List.perm_middle ?_
                    refine yc_i (yr_V C (As := [.int (nI 5)]) (rest := [.ref (ad 0)]) lk_L_115 cd_X7_next im_X7_next se_X7_next (mX7_next l G B0 o1 (wA G ad u12.1 ++ ((u11.1, .inr (0, [.ref (u11.2.1), .int (nI 0), .int (nI 0), .int (nI 0)])) :: (u11.2.1, .inl (G.2.2.2.1, (toldT S).2, .inl u11.2.2)) :: (u13.1, .inr (0, [.ref (u13.2.1), .int (nI 0), .int (nI 0), .int (nI 0)])) :: (u13.2.1, .inl (G.2.2.2.1, (toldT S).2, .inl u13.2.2)) :: [])) u12.2 5 (by decide)) ⟨by decide, by decide⟩ ⟨(show 300 + 3000 * i_ + 418 + 0 ≤ 600104 by omega), (show 10000 + 245000 * i_ + 225199 + 0 ≤ 7301314 by omega)⟩ 0 rfl rfl rfl rfl (Nat.le_of_ble_eq_true rfl) dL_law_580) (pc' := 583) rfl (fun r23 z2 hw23 => ?_)
                    obtain ⟨a1_, ha1_, rfl⟩ := hw23
                    refine yy_perm (w' := wA G ad u12.1 ++ ((o1, .inr (10, [.int z2])) :: (u11.1, .inr (0, [.ref (u11.2.1), .int (nI 0), .int (nI 0), .int (nI 0)])) :: (u11.2.1, .inl (G.2.2.2.1, (toldT S).2, .inl u11.2.2)) :: (u13.1, .inr (0, [.ref (u13.2.1), .int (nI 0), .int (nI 0), .int (nI 0)])) :: (u13.2.1, .inl (G.2.2.2.1, (toldT S).2, .inl u13.2.2)) :: [])) List.perm_middle.symm ?_
                    refine yy_iload C 0 dL_law_583 (pc' := 585) rfl rfl ?_
                    refine yc_i (yr_S C (As := [.ref (ad 0), .int (nI a1_), .int (nI (u12.1.1 1))]) (rest := []) lk_L_250 cd_L_held_ st_L_held_ (mL_held_ l hl0 G B0 ad ((o1, .inr (10, [.int z2])) :: (u11.1, .inr (0, [.ref (u11.2.1), .int (nI 0), .int (nI 0), .int (nI 0)])) :: (u11.2.1, .inl (G.2.2.2.1, (toldT S).2, .inl u11.2.2)) :: (u13.1, .inr (0, [.ref (u13.2.1), .int (nI 0), .int (nI 0), .int (nI 0)])) :: (u13.2.1, .inl (G.2.2.2.1, (toldT S).2, .inl u13.2.2)) :: []) u12.1 a1_ hR2 (show a1_ < 5 from ha1_)) ⟨by decide, by decide⟩ ⟨(show 300 + 3000 * i_ + 418 + 245 ≤ 600104 by omega), (show 10000 + 245000 * i_ + 225199 + 1470 ≤ 7301314 by omega)⟩ rfl rfl (Nat.le_of_ble_eq_true rfl) dL_law_585) (pc' := 588) rfl (fun r24 u14 hw24 => ?_)
                    subst hw24
                    refine yy_widen (cs2 := 300 + 3000 * i_ + 663) (ss2 := 10000 + 245000 * i_ + 226669) (show 300 + 3000 * i_ + 418 + 245 ≤ 300 + 3000 * i_ + 663 by omega) (show 10000 + 245000 * i_ + 225199 + 1470 ≤ 10000 + 245000 * i_ + 226669 by omega) ?_
                    refine yy_if_eq C dL_law_588 (pc' := 591) rfl (tgt := 630) (by decide) (fun c_588 => ?_) (fun c_588 => ?_)
                    · skip
                      exact absurd c_588 (by decide)
                    · skip
                      refine yy_aload_n C 8 dL_law_591 (pc' := 592) rfl rfl rfl ?_
                      refine yy_iload C 0 dL_law_592 (pc' := 594) rfl rfl ?_
                      refine yc_i (yr_S C (As := [.ref (ad 0), .int (nI (u12.1.1 1))]) (rest := []) lk_L_253 cd_L_hidden st_L_hidden (mL_hidden l hl0 G B0 ad ((o1, .inr (10, [.int z2])) :: (u11.1, .inr (0, [.ref (u11.2.1), .int (nI 0), .int (nI 0), .int (nI 0)])) :: (u11.2.1, .inl (G.2.2.2.1, (toldT S).2, .inl u11.2.2)) :: (u13.1, .inr (0, [.ref (u13.2.1), .int (nI 0), .int (nI 0), .int (nI 0)])) :: (u13.2.1, .inl (G.2.2.2.1, (toldT S).2, .inl u13.2.2)) :: []) u12.1 hR2) ⟨by decide, by decide⟩ ⟨(show 300 + 3000 * i_ + 663 + 378 ≤ 600104 by omega), (show 10000 + 245000 * i_ + 226669 + 2270 ≤ 7301314 by omega)⟩ rfl rfl (Nat.le_of_ble_eq_true rfl) dL_law_594) (pc' := 597) rfl (fun r25 u15 hw25 => ?_)
                      subst hw25
                      refine yy_widen (cs2 := 300 + 3000 * i_ + 1041) (ss2 := 10000 + 245000 * i_ + 228939) (show 300 + 3000 * i_ + 663 + 378 ≤ 300 + 3000 * i_ + 1041 by omega) (show 10000 + 245000 * i_ + 226669 + 2270 ≤ 10000 + 245000 * i_ + 228939 by omega) ?_
                      refine yy_if_eq C dL_law_597 (pc' := 600) rfl (tgt := 630) (by decide) (fun c_597 => ?_) (fun c_597 => ?_)
                      · skip
                        exact absurd c_597 (by decide)
                      · skip
                        refine yy_aload_n C 8 dL_law_600 (pc' := 601) rfl rfl rfl ?_
                        refine yy_aload C 4 dL_law_601 (pc' := 603) rfl rfl ?_
                        refine yy_iconst C (v := (nI 4)) dL_law_603 (pc' := 604) rfl (by decide) ?_
                        refine yy_perm (w' := wA G ad u12.1 ++ ((o1, .inr (10, [.int z2])) :: (u15.1, .inl (G.2.1, 8, .inl u15.2)) :: (u11.1, .inr (0, [.ref (u11.2.1), .int (nI 0), .int (nI 0), .int (nI 0)])) :: (u11.2.1, .inl (G.2.2.2.1, (toldT S).2, .inl u11.2.2)) :: (u13.1, .inr (0, [.ref (u13.2.1), .int (nI 0), .int (nI 0), .int (nI 0)])) :: (u13.2.1, .inl (G.2.2.2.1, (toldT S).2, .inl u13.2.2)) :: [])) (List.Perm.append_left _ (pm_1_0_2_3_4_5 _ _ _ _ _ _ _)) ?_
                        refine yy_perm (w' := (o1, .inr (10, [.int z2])) :: (wA G ad u12.1 ++ ((u15.1, .inl (G.2.1, 8, .inl u15.2)) :: (u11.1, .inr (0, [.ref (u11.2.1), .int (nI 0), .int (nI 0), .int (nI 0)])) :: (u11.2.1, .inl (G.2.2.2.1, (toldT S).2, .inl u11.2.2)) :: (u13.1, .inr (0, [.ref (u13.2.1), .int (nI 0), .int (nI 0), .int (nI 0)])) :: (u13.2.1, .inl (G.2.2.2.1, (toldT S).2, .inl u13.2.2)) :: []))) List.perm_middle ?_
                        refine yc_i (yr_V C (As := [.int (nI 4)]) (rest := [.ref (ad 0)]) lk_L_115 cd_X7_next im_X7_next se_X7_next (mX7_next l G B0 o1 (wA G ad u12.1 ++ ((u15.1, .inl (G.2.1, 8, .inl u15.2)) :: (u11.1, .inr (0, [.ref (u11.2.1), .int (nI 0), .int (nI 0), .int (nI 0)])) :: (u11.2.1, .inl (G.2.2.2.1, (toldT S).2, .inl u11.2.2)) :: (u13.1, .inr (0, [.ref (u13.2.1), .int (nI 0), .int (nI 0), .int (nI 0)])) :: (u13.2.1, .inl (G.2.2.2.1, (toldT S).2, .inl u13.2.2)) :: [])) z2 4 (by decide)) ⟨by decide, by decide⟩ ⟨(show 300 + 3000 * i_ + 1041 + 0 ≤ 600104 by omega), (show 10000 + 245000 * i_ + 228939 + 0 ≤ 7301314 by omega)⟩ 0 rfl rfl rfl rfl (Nat.le_of_ble_eq_true rfl) dL_law_604) (pc' := 607) rfl (fun r26 z3 hw26 => ?_)
                        refine yy_perm (w' := wA G ad u12.1 ++ ((o1, .inr (10, [.int z3])) :: (u15.1, .inl (G.2.1, 8, .inl u15.2)) :: (u11.1, .inr (0, [.ref (u11.2.1), .int (nI 0), .int (nI 0), .int (nI 0)])) :: (u11.2.1, .inl (G.2.2.2.1, (toldT S).2, .inl u11.2.2)) :: (u13.1, .inr (0, [.ref (u13.2.1), .int (nI 0), .int (nI 0), .int (nI 0)])) :: (u13.2.1, .inl (G.2.2.2.1, (toldT S).2, .inl u13.2.2)) :: [])) List.perm_middle.symm ?_
                        refine yy_iload C 0 dL_law_607 (pc' := 609) rfl rfl ?_
                        refine yc_i (yr_S C (As := [.ref (ad 0), .int r26, .int (nI (u12.1.1 1))]) (rest := []) lk_L_256 cd_L_answered st_L_answered (mL_answered l hl0 G B0 ad ((o1, .inr (10, [.int z3])) :: (u15.1, .inl (G.2.1, 8, .inl u15.2)) :: (u11.1, .inr (0, [.ref (u11.2.1), .int (nI 0), .int (nI 0), .int (nI 0)])) :: (u11.2.1, .inl (G.2.2.2.1, (toldT S).2, .inl u11.2.2)) :: (u13.1, .inr (0, [.ref (u13.2.1), .int (nI 0), .int (nI 0), .int (nI 0)])) :: (u13.2.1, .inl (G.2.2.2.1, (toldT S).2, .inl u13.2.2)) :: []) u12.1 r26 hR2) ⟨by decide, by decide⟩ ⟨(show 300 + 3000 * i_ + 1041 + 606 ≤ 600104 by omega), (show 10000 + 245000 * i_ + 228939 + 3830 ≤ 7301314 by omega)⟩ rfl rfl (Nat.le_of_ble_eq_true rfl) dL_law_609) (pc' := 612) rfl (fun r27 u16 hw27 => ?_)
                        obtain ⟨hr3, hR3, hn3⟩ := hw27
                        subst hr3
                        refine yy_widen (cs2 := 300 + 3000 * i_ + 1647) (ss2 := 10000 + 245000 * i_ + 232769) (show 300 + 3000 * i_ + 1041 + 606 ≤ 300 + 3000 * i_ + 1647 by omega) (show 10000 + 245000 * i_ + 228939 + 3830 ≤ 10000 + 245000 * i_ + 232769 by omega) ?_
                        refine yy_if_eq C dL_law_612 (pc' := 615) rfl (tgt := 630) (by decide) (fun c_612 => ?_) (fun c_612 => ?_)
                        · skip
                          exact absurd c_612 (by decide)
                        · skip
                          refine yy_aload_n C 8 dL_law_615 (pc' := 616) rfl rfl rfl ?_
                          refine yy_aload C 4 dL_law_616 (pc' := 618) rfl rfl ?_
                          refine yy_iconst C (v := (nI 5)) dL_law_618 (pc' := 619) rfl (by decide) ?_
                          refine yy_perm (w' := (o1, .inr (10, [.int z3])) :: (wA G ad u16 ++ ((u15.1, .inl (G.2.1, 8, .inl u15.2)) :: (u11.1, .inr (0, [.ref (u11.2.1), .int (nI 0), .int (nI 0), .int (nI 0)])) :: (u11.2.1, .inl (G.2.2.2.1, (toldT S).2, .inl u11.2.2)) :: (u13.1, .inr (0, [.ref (u13.2.1), .int (nI 0), .int (nI 0), .int (nI 0)])) :: (u13.2.1, .inl (G.2.2.2.1, (toldT S).2, .inl u13.2.2)) :: []))) List.perm_middle ?_
                          refine yc_i (yr_V C (As := [.int (nI 5)]) (rest := [.ref (ad 0)]) lk_L_115 cd_X7_next im_X7_next se_X7_next (mX7_next l G B0 o1 (wA G ad u16 ++ ((u15.1, .inl (G.2.1, 8, .inl u15.2)) :: (u11.1, .inr (0, [.ref (u11.2.1), .int (nI 0), .int (nI 0), .int (nI 0)])) :: (u11.2.1, .inl (G.2.2.2.1, (toldT S).2, .inl u11.2.2)) :: (u13.1, .inr (0, [.ref (u13.2.1), .int (nI 0), .int (nI 0), .int (nI 0)])) :: (u13.2.1, .inl (G.2.2.2.1, (toldT S).2, .inl u13.2.2)) :: [])) z3 5 (by decide)) ⟨by decide, by decide⟩ ⟨(show 300 + 3000 * i_ + 1647 + 0 ≤ 600104 by omega), (show 10000 + 245000 * i_ + 232769 + 0 ≤ 7301314 by omega)⟩ 0 rfl rfl rfl rfl (Nat.le_of_ble_eq_true rfl) dL_law_619) (pc' := 622) rfl (fun r28 z4 hw28 => ?_)
                          obtain ⟨a2_, ha2_, rfl⟩ := hw28
                          refine yy_perm (w' := wA G ad u16 ++ ((o1, .inr (10, [.int z4])) :: (u15.1, .inl (G.2.1, 8, .inl u15.2)) :: (u11.1, .inr (0, [.ref (u11.2.1), .int (nI 0), .int (nI 0), .int (nI 0)])) :: (u11.2.1, .inl (G.2.2.2.1, (toldT S).2, .inl u11.2.2)) :: (u13.1, .inr (0, [.ref (u13.2.1), .int (nI 0), .int (nI 0), .int (nI 0)])) :: (u13.2.1, .inl (G.2.2.2.1, (toldT S).2, .inl u13.2.2)) :: [])) List.perm_middle.symm ?_
                          refine yy_iload C 0 dL_law_622 (pc' := 624) rfl rfl ?_
                          refine yy_eqi (congrArg nI hn3.symm) ?_
                          refine yc_i (yr_S C (As := [.ref (ad 0), .int (nI a2_), .int (nI (u16.1 1))]) (rest := []) lk_L_250 cd_L_held_ st_L_held_ (mL_held_ l hl0 G B0 ad ((o1, .inr (10, [.int z4])) :: (u15.1, .inl (G.2.1, 8, .inl u15.2)) :: (u11.1, .inr (0, [.ref (u11.2.1), .int (nI 0), .int (nI 0), .int (nI 0)])) :: (u11.2.1, .inl (G.2.2.2.1, (toldT S).2, .inl u11.2.2)) :: (u13.1, .inr (0, [.ref (u13.2.1), .int (nI 0), .int (nI 0), .int (nI 0)])) :: (u13.2.1, .inl (G.2.2.2.1, (toldT S).2, .inl u13.2.2)) :: []) u16 a2_ hR3 (show a2_ < 5 from ha2_)) ⟨by decide, by decide⟩ ⟨(show 300 + 3000 * i_ + 1647 + 245 ≤ 600104 by omega), (show 10000 + 245000 * i_ + 232769 + 1470 ≤ 7301314 by omega)⟩ rfl rfl (Nat.le_of_ble_eq_true rfl) dL_law_624) (pc' := 627) rfl (fun r29 u17 hw29 => ?_)
                          subst hw29
                          refine yy_widen (cs2 := 300 + 3000 * i_ + 1892) (ss2 := 10000 + 245000 * i_ + 234239) (show 300 + 3000 * i_ + 1647 + 245 ≤ 300 + 3000 * i_ + 1892 by omega) (show 10000 + 245000 * i_ + 232769 + 1470 ≤ 10000 + 245000 * i_ + 234239 by omega) ?_
                          refine yy_if_ne C dL_law_627 (pc' := 630) rfl (tgt := 632) (by decide) (fun c_627 => ?_) (fun c_627 => ?_)
                          · skip
                            refine yy_iinc C (v := (nI (i_ + 1))) (L' := [(4, .int (nI (i_ + 1))), (7, .int (nI (u12.1.1 1))), (9, .int r21), (8, .ref (u11.1)), (2, .int (nI ((2 * i_) + 2))), (6, .ref (o1)), (5, .int (nI j_)), (0, .ref (b)), (1, .ref (ad 0))]) 6 dL_law_632 (pc' := 635) rfl rfl (nI_add i_ 1) (by decide) rfl ?_
                            refine yy_goto C (tgt := 379) dL_law_635 (by decide) ?_
                            refine yy_drop (w' := wA G ad u16 ++ []) (List.Sublist.append_left (List.nil_sublist _) _) ?_
                            refine yy_loc [0, 4, 7, 8] rfl ?_
                            refine yy_widen (cs2 := 300 + 3000 * (i_ + 1)) (ss2 := 10000 + 245000 * (i_ + 1)) (show 300 + 3000 * i_ + 1892 ≤ 300 + 3000 * (i_ + 1) by omega) (show 10000 + 245000 * i_ + 234239 ≤ 10000 + 245000 * (i_ + 1) by omega) ?_
                            exact ih379 (i_ + 1) u16 (by omega) hR3 (by omega)
                          · skip
                            exact absurd c_627 (by decide)
                · skip
                  refine yy_iconst C (v := (nI 1)) dL_law_560 (pc' := 561) rfl (by decide) ?_
                  refine yy_goto C (tgt := 565) dL_law_561 (by decide) ?_
                  refine yy_iadd C (v := (nI ((S.1 1) + 1))) dL_law_565 (pc' := 566) rfl (nI_add (S.1 1) 1) ?_
                  refine yy_eqi (congrArg nI (ac_1 hw21 (Nat.pos_of_ne_zero (fun z => c_543 ((nI_le0 (by omega)).mpr z))) (by omega) c_557)) ?_
                  refine yy_istore C (L' := [(7, .int (nI (u12.1.1 1))), (9, .int r21), (8, .ref (u11.1)), (2, .int (nI ((2 * i_) + 2))), (6, .ref (o1)), (5, .int (nI j_)), (4, .int (nI i_)), (0, .ref (b)), (1, .ref (ad 0))]) dL_law_566 (pc' := 568) rfl (by decide) rfl ?_
                  refine yy_iload C 6 dL_law_568 (pc' := 570) rfl rfl ?_
                  refine yy_iconst C (v := (nI 3)) dL_law_570 (pc' := 571) rfl (by decide) ?_
                  refine yy_irem C (v := (nI (i_ % 3))) dL_law_571 (pc' := 572) rfl (by decide) (pk_rem (by omega) (by decide) (by decide)) ?_
                  refine yy_iconst C (v := (nI 2)) dL_law_572 (pc' := 573) rfl (by decide) ?_
                  refine yn_icmp_ne C (by omega) (by decide) dL_law_573 (pc' := 576) rfl (tgt := 632) (by decide) (fun c_573 => ?_) (fun c_573 => ?_)
                  · skip
                    refine yy_iinc C (v := (nI (i_ + 1))) (L' := [(4, .int (nI (i_ + 1))), (7, .int (nI (u12.1.1 1))), (9, .int r21), (8, .ref (u11.1)), (2, .int (nI ((2 * i_) + 2))), (6, .ref (o1)), (5, .int (nI j_)), (0, .ref (b)), (1, .ref (ad 0))]) 6 dL_law_632 (pc' := 635) rfl rfl (nI_add i_ 1) (by decide) rfl ?_
                    refine yy_goto C (tgt := 379) dL_law_635 (by decide) ?_
                    refine yy_drop (w' := wA G ad u12.1 ++ []) (List.Sublist.append_left (List.nil_sublist _) _) ?_
                    refine yy_loc [0, 4, 7, 8] rfl ?_
                    refine yy_widen (cs2 := 300 + 3000 * (i_ + 1)) (ss2 := 10000 + 245000 * (i_ + 1)) (show 300 + 3000 * i_ + 418 ≤ 300 + 3000 * (i_ + 1) by omega) (show 10000 + 245000 * i_ + 225199 ≤ 10000 + 245000 * (i_ + 1) by omega) ?_
                    exact ih379 (i_ + 1) u12.1 (by omega) hR2 (by omega)
                  · skip
                    refine yy_aload_n C 8 dL_law_576 (pc' := 577) rfl rfl rfl ?_
                    refine yy_aload C 4 dL_law_577 (pc' := 579) rfl rfl ?_
                    refine yy_iconst C (v := (nI 5)) dL_law_579 (pc' := 580) rfl (by decide) ?_
                    refine yy_perm (w' := wA G ad u12.1 ++ ((o1, .inr (10, [.int u12.2])) :: (u11.1, .inr (0, [.ref (u11.2.1), .int (nI 0), .int (nI 0), .int (nI 0)])) :: (u11.2.1, .inl (G.2.2.2.1, (toldT S).2, .inl u11.2.2)) :: (u13.1, .inr (0, [.ref (u13.2.1), .int (nI 0), .int (nI 0), .int (nI 0)])) :: (u13.2.1, .inl (G.2.2.2.1, (toldT S).2, .inl u13.2.2)) :: [])) (List.Perm.append_left _ (pm_4_0_1_2_3 _ _ _ _ _ _)) ?_
                    refine yy_perm (w' := (o1, .inr (10, [.int u12.2])) :: (wA G ad u12.1 ++ ((u11.1, .inr (0, [.ref (u11.2.1), .int (nI 0), .int (nI 0), .int (nI 0)])) :: (u11.2.1, .inl (G.2.2.2.1, (toldT S).2, .inl u11.2.2)) :: (u13.1, .inr (0, [.ref (u13.2.1), .int (nI 0), .int (nI 0), .int (nI 0)])) :: (u13.2.1, .inl (G.2.2.2.1, (toldT S).2, .inl u13.2.2)) :: []))) List.perm_middle ?_
                    refine yc_i (yr_V C (As := [.int (nI 5)]) (rest := [.ref (ad 0)]) lk_L_115 cd_X7_next im_X7_next se_X7_next (mX7_next l G B0 o1 (wA G ad u12.1 ++ ((u11.1, .inr (0, [.ref (u11.2.1), .int (nI 0), .int (nI 0), .int (nI 0)])) :: (u11.2.1, .inl (G.2.2.2.1, (toldT S).2, .inl u11.2.2)) :: (u13.1, .inr (0, [.ref (u13.2.1), .int (nI 0), .int (nI 0), .int (nI 0)])) :: (u13.2.1, .inl (G.2.2.2.1, (toldT S).2, .inl u13.2.2)) :: [])) u12.2 5 (by decide)) ⟨by decide, by decide⟩ ⟨(show 300 + 3000 * i_ + 418 + 0 ≤ 600104 by omega), (show 10000 + 245000 * i_ + 225199 + 0 ≤ 7301314 by omega)⟩ 0 rfl rfl rfl rfl (Nat.le_of_ble_eq_true rfl) dL_law_580) (pc' := 583) rfl (fun r23 z2 hw23 => ?_)
                    obtain ⟨a1_, ha1_, rfl⟩ := hw23
                    refine yy_perm (w' := wA G ad u12.1 ++ ((o1, .inr (10, [.int z2])) :: (u11.1, .inr (0, [.ref (u11.2.1), .int (nI 0), .int (nI 0), .int (nI 0)])) :: (u11.2.1, .inl (G.2.2.2.1, (toldT S).2, .inl u11.2.2)) :: (u13.1, .inr (0, [.ref (u13.2.1), .int (nI 0), .int (nI 0), .int (nI 0)])) :: (u13.2.1, .inl (G.2.2.2.1, (toldT S).2, .inl u13.2.2)) :: [])) List.perm_middle.symm ?_
                    refine yy_iload C 0 dL_law_583 (pc' := 585) rfl rfl ?_
                    refine yc_i (yr_S C (As := [.ref (ad 0), .int (nI a1_), .int (nI (u12.1.1 1))]) (rest := []) lk_L_250 cd_L_held_ st_L_held_ (mL_held_ l hl0 G B0 ad ((o1, .inr (10, [.int z2])) :: (u11.1, .inr (0, [.ref (u11.2.1), .int (nI 0), .int (nI 0), .int (nI 0)])) :: (u11.2.1, .inl (G.2.2.2.1, (toldT S).2, .inl u11.2.2)) :: (u13.1, .inr (0, [.ref (u13.2.1), .int (nI 0), .int (nI 0), .int (nI 0)])) :: (u13.2.1, .inl (G.2.2.2.1, (toldT S).2, .inl u13.2.2)) :: []) u12.1 a1_ hR2 (show a1_ < 5 from ha1_)) ⟨by decide, by decide⟩ ⟨(show 300 + 3000 * i_ + 418 + 245 ≤ 600104 by omega), (show 10000 + 245000 * i_ + 225199 + 1470 ≤ 7301314 by omega)⟩ rfl rfl (Nat.le_of_ble_eq_true rfl) dL_law_585) (pc' := 588) rfl (fun r24 u14 hw24 => ?_)
                    subst hw24
                    refine yy_widen (cs2 := 300 + 3000 * i_ + 663) (ss2 := 10000 + 245000 * i_ + 226669) (show 300 + 3000 * i_ + 418 + 245 ≤ 300 + 3000 * i_ + 663 by omega) (show 10000 + 245000 * i_ + 225199 + 1470 ≤ 10000 + 245000 * i_ + 226669 by omega) ?_
                    refine yy_if_eq C dL_law_588 (pc' := 591) rfl (tgt := 630) (by decide) (fun c_588 => ?_) (fun c_588 => ?_)
                    · skip
                      exact absurd c_588 (by decide)
                    · skip
                      refine yy_aload_n C 8 dL_law_591 (pc' := 592) rfl rfl rfl ?_
                      refine yy_iload C 0 dL_law_592 (pc' := 594) rfl rfl ?_
                      refine yc_i (yr_S C (As := [.ref (ad 0), .int (nI (u12.1.1 1))]) (rest := []) lk_L_253 cd_L_hidden st_L_hidden (mL_hidden l hl0 G B0 ad ((o1, .inr (10, [.int z2])) :: (u11.1, .inr (0, [.ref (u11.2.1), .int (nI 0), .int (nI 0), .int (nI 0)])) :: (u11.2.1, .inl (G.2.2.2.1, (toldT S).2, .inl u11.2.2)) :: (u13.1, .inr (0, [.ref (u13.2.1), .int (nI 0), .int (nI 0), .int (nI 0)])) :: (u13.2.1, .inl (G.2.2.2.1, (toldT S).2, .inl u13.2.2)) :: []) u12.1 hR2) ⟨by decide, by decide⟩ ⟨(show 300 + 3000 * i_ + 663 + 378 ≤ 600104 by omega), (show 10000 + 245000 * i_ + 226669 + 2270 ≤ 7301314 by omega)⟩ rfl rfl (Nat.le_of_ble_eq_true rfl) dL_law_594) (pc' := 597) rfl (fun r25 u15 hw25 => ?_)
                      subst hw25
                      refine yy_widen (cs2 := 300 + 3000 * i_ + 1041) (ss2 := 10000 + 245000 * i_ + 228939) (show 300 + 3000 * i_ + 663 + 378 ≤ 300 + 3000 * i_ + 1041 by omega) (show 10000 + 245000 * i_ + 226669 + 2270 ≤ 10000 + 245000 * i_ + 228939 by omega) ?_
                      refine yy_if_eq C dL_law_597 (pc' := 600) rfl (tgt := 630) (by decide) (fun c_597 => ?_) (fun c_597 => ?_)
                      · skip
                        exact absurd c_597 (by decide)
                      · skip
                        refine yy_aload_n C 8 dL_law_600 (pc' := 601) rfl rfl rfl ?_
                        refine yy_aload C 4 dL_law_601 (pc' := 603) rfl rfl ?_
                        refine yy_iconst C (v := (nI 4)) dL_law_603 (pc' := 604) rfl (by decide) ?_
                        refine yy_perm (w' := wA G ad u12.1 ++ ((o1, .inr (10, [.int z2])) :: (u15.1, .inl (G.2.1, 8, .inl u15.2)) :: (u11.1, .inr (0, [.ref (u11.2.1), .int (nI 0), .int (nI 0), .int (nI 0)])) :: (u11.2.1, .inl (G.2.2.2.1, (toldT S).2, .inl u11.2.2)) :: (u13.1, .inr (0, [.ref (u13.2.1), .int (nI 0), .int (nI 0), .int (nI 0)])) :: (u13.2.1, .inl (G.2.2.2.1, (toldT S).2, .inl u13.2.2)) :: [])) (List.Perm.append_left _ (pm_1_0_2_3_4_5 _ _ _ _ _ _ _)) ?_
                        refine yy_perm (w' := (o1, .inr (10, [.int z2])) :: (wA G ad u12.1 ++ ((u15.1, .inl (G.2.1, 8, .inl u15.2)) :: (u11.1, .inr (0, [.ref (u11.2.1), .int (nI 0), .int (nI 0), .int (nI 0)])) :: (u11.2.1, .inl (G.2.2.2.1, (toldT S).2, .inl u11.2.2)) :: (u13.1, .inr (0, [.ref (u13.2.1), .int (nI 0), .int (nI 0), .int (nI 0)])) :: (u13.2.1, .inl (G.2.2.2.1, (toldT S).2, .inl u13.2.2)) :: []))) List.perm_middle ?_
                        refine yc_i (yr_V C (As := [.int (nI 4)]) (rest := [.ref (ad 0)]) lk_L_115 cd_X7_next im_X7_next se_X7_next (mX7_next l G B0 o1 (wA G ad u12.1 ++ ((u15.1, .inl (G.2.1, 8, .inl u15.2)) :: (u11.1, .inr (0, [.ref (u11.2.1), .int (nI 0), .int (nI 0), .int (nI 0)])) :: (u11.2.1, .inl (G.2.2.2.1, (toldT S).2, .inl u11.2.2)) :: (u13.1, .inr (0, [.ref (u13.2.1), .int (nI 0), .int (nI 0), .int (nI 0)])) :: (u13.2.1, .inl (G.2.2.2.1, (toldT S).2, .inl u13.2.2)) :: [])) z2 4 (by decide)) ⟨by decide, by decide⟩ ⟨(show 300 + 3000 * i_ + 1041 + 0 ≤ 600104 by omega), (show 10000 + 245000 * i_ + 228939 + 0 ≤ 7301314 by omega)⟩ 0 rfl rfl rfl rfl (Nat.le_of_ble_eq_true rfl) dL_law_604) (pc' := 607) rfl (fun r26 z3 hw26 => ?_)
                        refine yy_perm (w' := wA G ad u12.1 ++ ((o1, .inr (10, [.int z3])) :: (u15.1, .inl (G.2.1, 8, .inl u15.2)) :: (u11.1, .inr (0, [.ref (u11.2.1), .int (nI 0), .int (nI 0), .int (nI 0)])) :: (u11.2.1, .inl (G.2.2.2.1, (toldT S).2, .inl u11.2.2)) :: (u13.1, .inr (0, [.ref (u13.2.1), .int (nI 0), .int (nI 0), .int (nI 0)])) :: (u13.2.1, .inl (G.2.2.2.1, (toldT S).2, .inl u13.2.2)) :: [])) List.perm_middle.symm ?_
                        refine yy_iload C 0 dL_law_607 (pc' := 609) rfl rfl ?_
                        refine yc_i (yr_S C (As := [.ref (ad 0), .int r26, .int (nI (u12.1.1 1))]) (rest := []) lk_L_256 cd_L_answered st_L_answered (mL_answered l hl0 G B0 ad ((o1, .inr (10, [.int z3])) :: (u15.1, .inl (G.2.1, 8, .inl u15.2)) :: (u11.1, .inr (0, [.ref (u11.2.1), .int (nI 0), .int (nI 0), .int (nI 0)])) :: (u11.2.1, .inl (G.2.2.2.1, (toldT S).2, .inl u11.2.2)) :: (u13.1, .inr (0, [.ref (u13.2.1), .int (nI 0), .int (nI 0), .int (nI 0)])) :: (u13.2.1, .inl (G.2.2.2.1, (toldT S).2, .inl u13.2.2)) :: []) u12.1 r26 hR2) ⟨by decide, by decide⟩ ⟨(show 300 + 3000 * i_ + 1041 + 606 ≤ 600104 by omega), (show 10000 + 245000 * i_ + 228939 + 3830 ≤ 7301314 by omega)⟩ rfl rfl (Nat.le_of_ble_eq_true rfl) dL_law_609) (pc' := 612) rfl (fun r27 u16 hw27 => ?_)
                        obtain ⟨hr3, hR3, hn3⟩ := hw27
                        subst hr3
                        refine yy_widen (cs2 := 300 + 3000 * i_ + 1647) (ss2 := 10000 + 245000 * i_ + 232769) (show 300 + 3000 * i_ + 1041 + 606 ≤ 300 + 3000 * i_ + 1647 by omega) (show 10000 + 245000 * i_ + 228939 + 3830 ≤ 10000 + 245000 * i_ + 232769 by omega) ?_
                        refine yy_if_eq C dL_law_612 (pc' := 615) rfl (tgt := 630) (by decide) (fun c_612 => ?_) (fun c_612 => ?_)
                        · skip
                          exact absurd c_612 (by decide)
                        · skip
                          refine yy_aload_n C 8 dL_law_615 (pc' := 616) rfl rfl rfl ?_
                          refine yy_aload C 4 dL_law_616 (pc' := 618) rfl rfl ?_
                          refine yy_iconst C (v := (nI 5)) dL_law_618 (pc' := 619) rfl (by decide) ?_
                          refine yy_perm (w' := (o1, .inr (10, [.int z3])) :: (wA G ad u16 ++ ((u15.1, .inl (G.2.1, 8, .inl u15.2)) :: (u11.1, .inr (0, [.ref (u11.2.1), .int (nI 0), .int (nI 0), .int (nI 0)])) :: (u11.2.1, .inl (G.2.2.2.1, (toldT S).2, .inl u11.2.2)) :: (u13.1, .inr (0, [.ref (u13.2.1), .int (nI 0), .int (nI 0), .int (nI 0)])) :: (u13.2.1, .inl (G.2.2.2.1, (toldT S).2, .inl u13.2.2)) :: []))) List.perm_middle ?_
                          refine yc_i (yr_V C (As := [.int (nI 5)]) (rest := [.ref (ad 0)]) lk_L_115 cd_X7_next im_X7_next se_X7_next (mX7_next l G B0 o1 (wA G ad u16 ++ ((u15.1, .inl (G.2.1, 8, .inl u15.2)) :: (u11.1, .inr (0, [.ref (u11.2.1), .int (nI 0), .int (nI 0), .int (nI 0)])) :: (u11.2.1, .inl (G.2.2.2.1, (toldT S).2, .inl u11.2.2)) :: (u13.1, .inr (0, [.ref (u13.2.1), .int (nI 0), .int (nI 0), .int (nI 0)])) :: (u13.2.1, .inl (G.2.2.2.1, (toldT S).2, .inl u13.2.2)) :: [])) z3 5 (by decide)) ⟨by decide, by decide⟩ ⟨(show 300 + 3000 * i_ + 1647 + 0 ≤ 600104 by omega), (show 10000 + 245000 * i_ + 232769 + 0 ≤ 7301314 by omega)⟩ 0 rfl rfl rfl rfl (Nat.le_of_ble_eq_true rfl) dL_law_619) (pc' := 622) rfl (fun r28 z4 hw28 => ?_)
                          obtain ⟨a2_, ha2_, rfl⟩ := hw28
                          refine yy_perm (w' := wA G ad u16 ++ ((o1, .inr (10, [.int z4])) :: (u15.1, .inl (G.2.1, 8, .inl u15.2)) :: (u11.1, .inr (0, [.ref (u11.2.1), .int (nI 0), .int (nI 0), .int (nI 0)])) :: (u11.2.1, .inl (G.2.2.2.1, (toldT S).2, .inl u11.2.2)) :: (u13.1, .inr (0, [.ref (u13.2.1), .int (nI 0), .int (nI 0), .int (nI 0)])) :: (u13.2.1, .inl (G.2.2.2.1, (toldT S).2, .inl u13.2.2)) :: [])) List.perm_middle.symm ?_
                          refine yy_iload C 0 dL_law_622 (pc' := 624) rfl rfl ?_
                          refine yy_eqi (congrArg nI hn3.symm) ?_
                          refine yc_i (yr_S C (As := [.ref (ad 0), .int (nI a2_), .int (nI (u16.1 1))]) (rest := []) lk_L_250 cd_L_held_ st_L_held_ (mL_held_ l hl0 G B0 ad ((o1, .inr (10, [.int z4])) :: (u15.1, .inl (G.2.1, 8, .inl u15.2)) :: (u11.1, .inr (0, [.ref (u11.2.1), .int (nI 0), .int (nI 0), .int (nI 0)])) :: (u11.2.1, .inl (G.2.2.2.1, (toldT S).2, .inl u11.2.2)) :: (u13.1, .inr (0, [.ref (u13.2.1), .int (nI 0), .int (nI 0), .int (nI 0)])) :: (u13.2.1, .inl (G.2.2.2.1, (toldT S).2, .inl u13.2.2)) :: []) u16 a2_ hR3 (show a2_ < 5 from ha2_)) ⟨by decide, by decide⟩ ⟨(show 300 + 3000 * i_ + 1647 + 245 ≤ 600104 by omega), (show 10000 + 245000 * i_ + 232769 + 1470 ≤ 7301314 by omega)⟩ rfl rfl (Nat.le_of_ble_eq_true rfl) dL_law_624) (pc' := 627) rfl (fun r29 u17 hw29 => ?_)
                          subst hw29
                          refine yy_widen (cs2 := 300 + 3000 * i_ + 1892) (ss2 := 10000 + 245000 * i_ + 234239) (show 300 + 3000 * i_ + 1647 + 245 ≤ 300 + 3000 * i_ + 1892 by omega) (show 10000 + 245000 * i_ + 232769 + 1470 ≤ 10000 + 245000 * i_ + 234239 by omega) ?_
                          refine yy_if_ne C dL_law_627 (pc' := 630) rfl (tgt := 632) (by decide) (fun c_627 => ?_) (fun c_627 => ?_)
                          · skip
                            refine yy_iinc C (v := (nI (i_ + 1))) (L' := [(4, .int (nI (i_ + 1))), (7, .int (nI (u12.1.1 1))), (9, .int r21), (8, .ref (u11.1)), (2, .int (nI ((2 * i_) + 2))), (6, .ref (o1)), (5, .int (nI j_)), (0, .ref (b)), (1, .ref (ad 0))]) 6 dL_law_632 (pc' := 635) rfl rfl (nI_add i_ 1) (by decide) rfl ?_
                            refine yy_goto C (tgt := 379) dL_law_635 (by decide) ?_
                            refine yy_drop (w' := wA G ad u16 ++ []) (List.Sublist.append_left (List.nil_sublist _) _) ?_
                            refine yy_loc [0, 4, 7, 8] rfl ?_
                            refine yy_widen (cs2 := 300 + 3000 * (i_ + 1)) (ss2 := 10000 + 245000 * (i_ + 1)) (show 300 + 3000 * i_ + 1892 ≤ 300 + 3000 * (i_ + 1) by omega) (show 10000 + 245000 * i_ + 234239 ≤ 10000 + 245000 * (i_ + 1) by omega) ?_
                            exact ih379 (i_ + 1) u16 (by omega) hR3 (by omega)
                          · skip
                            exact absurd c_627 (by decide)
          · skip
            exact absurd c_531 (by decide)
  refine yy_loc (L' := [(4, .int (nI 0)), (2, .int (nI 0)), (0, .ref (b)), (1, .ref (ad 0))]) [0, 1, 2, 3] rfl ?_
  refine yy_widen (cs2 := 300 + 3000 * 0) (ss2 := 10000 + 245000 * 0) (Nat.le_refl _) (Nat.le_refl _) ?_
  exact lp_379 25 0 S (by omega) hR (by omega)
