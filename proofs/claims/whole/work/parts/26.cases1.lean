set_option maxHeartbeats 4000000 in
set_option maxRecDepth 100000 in
theorem law_4 (op_indexOf : Op_indexOf) {p : Program} {l : Launch} (hl0 : l.stackTraces = false) {e : Env} {s : State} {m : MethodId} {args : Array Value} {below : List Frame} {meth : Method} {c : Code} {G : gG} {B0 : Nat} {Q : State → Prop} (C : CX p s m args meth c cL_law RL 8 G B0) {b L0 : Nat} {xs : Nat → Int32} (hX : va_X b L0 xs s s.heap) (hbl : b < s.heap.size) (hbB : b < B0) (hL : L0 ≤ 2560) {i : Nat} (hi : i + 5 ≤ L0) {ad bd : Nat → Nat} {o1 o2 cs ss : Nat} {S : SA} {M : SM} {fo : Nat → Int64} {fd : Nat → UInt64} (hR : Rel S M) (hcs : cs + 1 ≤ room_1.cells) (hss : ss + 6 ≤ room_1.slots) (K : ∀ (S' : SA) (M' : SM) (fo' : Nat → Int64) (fd' : Nat → UInt64), Rel S' M' → YY p l e room_1 s m args below meth c G B0 8 Q 2020 [(5, .int (nI i)), (0, .ref (b)), (1, .ref (ad 0)), (2, .ref (bd 0)), (3, .ref (o1)), (4, .ref (o2))] [] (w1L G ad bd o1 o2 S' M' fo' fd') (cs + 1) (ss + 6)) : YY p l e room_1 s m args below meth c G B0 8 Q 424 [(5, .int (nI i)), (0, .ref (b)), (1, .ref (ad 0)), (2, .ref (bd 0)), (3, .ref (o1)), (4, .ref (o2))] [] (w1L G ad bd o1 o2 S M fo fd) cs ss := by
  have hi31 : L0 < 2 ^ 31 := by omega
  have hcs0 : cs + 1 + 0 ≤ room_1.cells := by omega
  have hss0 : ss + 6 + 0 ≤ room_1.slots := by omega
  refine yy_aload_n C 2 dL_law_424 (pc' := 425) rfl rfl rfl ?_
  refine yy_aload_n C 1 dL_law_425 (pc' := 426) rfl rfl rfl ?_
  refine yy_iload C 0 dL_law_426 (pc' := 428) rfl rfl ?_
  refine yy_iconst C (v := (nI 1)) dL_law_428 (pc' := 429) rfl (by decide) ?_
  refine yy_iadd C (v := (nI (i + 1))) dL_law_429 (pc' := 430) rfl (nI_add i 1) ?_
  refine yy_sld C hX hbl hbB (i := i + 1) (by omega) (by omega) dL_law_430 (pc' := 431) rfl ?_
  refine yy_aload_n C 4 dL_law_431 (pc' := 432) rfl rfl rfl ?_
  refine yc_i (yr_SW C (As := [.ref (ad 0), .int (xs (i + 1)), .ref (o1)]) (rest := []) lk_L_137 cd_L_indexOf st_L_indexOf (mL_indexOf l hl0 G B0 ad ((o2, .inl (G.2.2.2.2.2, 1, .inr (.inr (.inr (.inl fd))))) :: wM G bd M) S (xs (i + 1)) hR.1 o1 fo) ⟨by decide +kernel, by decide +kernel⟩ ⟨hcs, hss⟩ rfl rfl (Nat.le_of_ble_eq_true rfl) dL_law_432) (pc' := 435) rfl (fun r1 u1 hw1 => ?_)
  refine yy_istore C (L' := [(6, .int r1), (5, .int (nI i)), (0, .ref (b)), (1, .ref (ad 0)), (2, .ref (bd 0)), (3, .ref (o1)), (4, .ref (o2))]) dL_law_435 (pc' := 437) rfl (by decide) rfl ?_
  refine yy_aload_n C 4 dL_law_437 (pc' := 438) rfl rfl rfl ?_
  refine yy_aload_n C 2 dL_law_438 (pc' := 439) rfl rfl rfl ?_
  refine yy_iload C 1 dL_law_439 (pc' := 441) rfl rfl ?_
  refine yy_iconst C (v := (nI 1)) dL_law_441 (pc' := 442) rfl (by decide) ?_
  refine yy_iadd C (v := (nI (i + 1))) dL_law_442 (pc' := 443) rfl (nI_add i 1) ?_
  refine yy_sld C hX hbl hbB (i := i + 1) (by omega) (by omega) dL_law_443 (pc' := 444) rfl ?_
  refine yy_perm (w' := w2L G ad bd o1 o2 u1.1 M u1.2 fd) p12 ?_
  refine yc_i (yr_V C (As := [.int (xs (i + 1))]) (rest := []) lk_L_139 cd_X7_indexOf im_X7_indexOf se_X7_indexOf (mX7_indexOf l G B0 bd (wA G ad u1.1 ++ [(o1, .inl (G.2.2.1, 1, .inr (.inl u1.2))), (o2, .inl (G.2.2.2.2.2, 1, .inr (.inr (.inr (.inl fd)))))]) M (xs (i + 1)) hR.im) ⟨by decide +kernel, by decide +kernel⟩ ⟨hcs0, hss0⟩ 0 rfl rfl rfl rfl (Nat.le_of_ble_eq_true rfl) dL_law_444) (pc' := 447) rfl (fun z1 u2_1 hw_z1 => ?_)
  refine yy_istore C (L' := [(7, .int z1), (6, .int r1), (5, .int (nI i)), (0, .ref (b)), (1, .ref (ad 0)), (2, .ref (bd 0)), (3, .ref (o1)), (4, .ref (o2))]) dL_law_447 (pc' := 449) rfl (by decide) rfl ?_
  refine yy_aload_n C 5 dL_law_449 (pc' := 450) rfl rfl rfl ?_
  refine yc_i (yr_V C (As := []) (rest := []) lk_L_123 cd_X7_thrown im_X7_thrown se_X7_thrown (mX7_thrown l G B0 bd (wA G ad u1.1 ++ [(o1, .inl (G.2.2.1, 1, .inr (.inl u1.2))), (o2, .inl (G.2.2.2.2.2, 1, .inr (.inr (.inr (.inl fd)))))]) u2_1) ⟨by decide +kernel, by decide +kernel⟩ ⟨hcs0, hss0⟩ 0 rfl rfl rfl rfl (Nat.le_of_ble_eq_true rfl) dL_law_450) (pc' := 453) rfl (fun z2 _ hw_z2 => ?_)
  subst hw_z2
  have hop := op_indexOf hR hw1 hw_z1
  refine yy_iload C 1 dL_law_453 (pc' := 455) rfl rfl ?_
  rw [← hop.1]
  refine yy_icmp_eq C dL_law_455 (pc' := 458) rfl (tgt := 460) (by decide) (fun _ => ?_) (fun h_ => absurd rfl h_)
  refine yy_iload C 1 dL_law_460 (pc' := 462) rfl rfl ?_
  refine yy_if_ne C dL_law_462 (pc' := 465) rfl (tgt := 477) (by decide) (fun _ => ?_) (fun c_k => ?_)
  · skip
    refine yy_goto C (tgt := 2020) dL_law_477 (by decide) ?_
    refine yy_perm (w' := w1L G ad bd o1 o2 u1.1 u2_1 u1.2 fd) p21 ?_
    refine yy_loc [2, 3, 4, 5, 6, 7] rfl ?_
    exact K u1.1 u2_1 u1.2 fd hop.2.2
  · skip
    refine yy_aload_n C 6 dL_law_465 (pc' := 466) rfl rfl rfl ?_
    refine yy_iconst C (v := (nI 0)) dL_law_466 (pc' := 467) rfl (by decide) ?_
    refine yy_lald C 50 dL_law_467 (pc' := 468) rfl rfl (by decide) (by decide) ?_
    refine yy_iload C 0 dL_law_468 (pc' := 470) rfl rfl ?_
    refine yy_i2l C (v := z1.toInt64) dL_law_470 (pc' := 471) rfl rfl ?_
    refine yy_lcmp C dL_law_471 (pc' := 472) rfl ?_
    refine yy_eqi (show _ = nI 0 by rw [hop.2.1 c_k]; exact lg_self _) ?_
    refine yy_if_eq C dL_law_472 (pc' := 475) rfl (tgt := 477) (by decide) (fun _ => ?_) (fun h_ => absurd rfl h_)
    refine yy_goto C (tgt := 2020) dL_law_477 (by decide) ?_
    refine yy_perm (w' := w1L G ad bd o1 o2 u1.1 u2_1 u1.2 fd) p21 ?_
    refine yy_loc [2, 3, 4, 5, 6, 7] rfl ?_
    exact K u1.1 u2_1 u1.2 fd hop.2.2

set_option maxHeartbeats 4000000 in
set_option maxRecDepth 100000 in
theorem law_5 (op_lines : Op_lines) {p : Program} {l : Launch} (hl0 : l.stackTraces = false) {e : Env} {s : State} {m : MethodId} {args : Array Value} {below : List Frame} {meth : Method} {c : Code} {G : gG} {B0 : Nat} {Q : State → Prop} (C : CX p s m args meth c cL_law RL 8 G B0) {b L0 : Nat} {xs : Nat → Int32} (hX : va_X b L0 xs s s.heap) (hbl : b < s.heap.size) (hbB : b < B0) (hL : L0 ≤ 2560) {i : Nat} (hi : i + 5 ≤ L0) {ad bd : Nat → Nat} {o1 o2 cs ss : Nat} {S : SA} {M : SM} {fo : Nat → Int64} {fd : Nat → UInt64} (hR : Rel S M) (hcs : cs + 1 ≤ room_1.cells) (hss : ss + 6 ≤ room_1.slots) (K : ∀ (S' : SA) (M' : SM) (fo' : Nat → Int64) (fd' : Nat → UInt64), Rel S' M' → YY p l e room_1 s m args below meth c G B0 8 Q 2020 [(5, .int (nI i)), (0, .ref (b)), (1, .ref (ad 0)), (2, .ref (bd 0)), (3, .ref (o1)), (4, .ref (o2))] [] (w1L G ad bd o1 o2 S' M' fo' fd') (cs + 1) (ss + 6)) : YY p l e room_1 s m args below meth c G B0 8 Q 480 [(5, .int (nI i)), (0, .ref (b)), (1, .ref (ad 0)), (2, .ref (bd 0)), (3, .ref (o1)), (4, .ref (o2))] [] (w1L G ad bd o1 o2 S M fo fd) cs ss := by
  have hi31 : L0 < 2 ^ 31 := by omega
  have hcs0 : cs + 1 + 0 ≤ room_1.cells := by omega
  have hss0 : ss + 6 + 0 ≤ room_1.slots := by omega
  refine yy_aload_n C 2 dL_law_480 (pc' := 481) rfl rfl rfl ?_
  refine yy_aload_n C 1 dL_law_481 (pc' := 482) rfl rfl rfl ?_
  refine yy_iload C 0 dL_law_482 (pc' := 484) rfl rfl ?_
  refine yy_iconst C (v := (nI 1)) dL_law_484 (pc' := 485) rfl (by decide) ?_
  refine yy_iadd C (v := (nI (i + 1))) dL_law_485 (pc' := 486) rfl (nI_add i 1) ?_
  refine yy_sld C hX hbl hbB (i := i + 1) (by omega) (by omega) dL_law_486 (pc' := 487) rfl ?_
  refine yy_aload_n C 4 dL_law_487 (pc' := 488) rfl rfl rfl ?_
  refine yc_i (yr_SW C (As := [.ref (ad 0), .int (xs (i + 1)), .ref (o1)]) (rest := []) lk_L_140 cd_L_lines st_L_lines (mL_lines l hl0 G B0 ad ((o2, .inl (G.2.2.2.2.2, 1, .inr (.inr (.inr (.inl fd))))) :: wM G bd M) S (xs (i + 1)) hR.1 o1 fo) ⟨by decide +kernel, by decide +kernel⟩ ⟨hcs, hss⟩ rfl rfl (Nat.le_of_ble_eq_true rfl) dL_law_488) (pc' := 491) rfl (fun r1 u1 hw1 => ?_)
  refine yy_istore C (L' := [(6, .int r1), (5, .int (nI i)), (0, .ref (b)), (1, .ref (ad 0)), (2, .ref (bd 0)), (3, .ref (o1)), (4, .ref (o2))]) dL_law_491 (pc' := 493) rfl (by decide) rfl ?_
  refine yy_aload_n C 4 dL_law_493 (pc' := 494) rfl rfl rfl ?_
  refine yy_aload_n C 2 dL_law_494 (pc' := 495) rfl rfl rfl ?_
  refine yy_iload C 1 dL_law_495 (pc' := 497) rfl rfl ?_
  refine yy_iconst C (v := (nI 1)) dL_law_497 (pc' := 498) rfl (by decide) ?_
  refine yy_iadd C (v := (nI (i + 1))) dL_law_498 (pc' := 499) rfl (nI_add i 1) ?_
  refine yy_sld C hX hbl hbB (i := i + 1) (by omega) (by omega) dL_law_499 (pc' := 500) rfl ?_
  refine yy_perm (w' := w2L G ad bd o1 o2 u1.1 M u1.2 fd) p12 ?_
  refine yc_i (yr_V C (As := [.int (xs (i + 1))]) (rest := []) lk_L_142 cd_X7_lines im_X7_lines se_X7_lines (mX7_lines l G B0 bd (wA G ad u1.1 ++ [(o1, .inl (G.2.2.1, 1, .inr (.inl u1.2))), (o2, .inl (G.2.2.2.2.2, 1, .inr (.inr (.inr (.inl fd)))))]) M (xs (i + 1)) hR.im) ⟨by decide +kernel, by decide +kernel⟩ ⟨hcs0, hss0⟩ 0 rfl rfl rfl rfl (Nat.le_of_ble_eq_true rfl) dL_law_500) (pc' := 503) rfl (fun z1 u2_1 hw_z1 => ?_)
  refine yy_istore C (L' := [(7, .int z1), (6, .int r1), (5, .int (nI i)), (0, .ref (b)), (1, .ref (ad 0)), (2, .ref (bd 0)), (3, .ref (o1)), (4, .ref (o2))]) dL_law_503 (pc' := 505) rfl (by decide) rfl ?_
  refine yy_aload_n C 5 dL_law_505 (pc' := 506) rfl rfl rfl ?_
  refine yc_i (yr_V C (As := []) (rest := []) lk_L_123 cd_X7_thrown im_X7_thrown se_X7_thrown (mX7_thrown l G B0 bd (wA G ad u1.1 ++ [(o1, .inl (G.2.2.1, 1, .inr (.inl u1.2))), (o2, .inl (G.2.2.2.2.2, 1, .inr (.inr (.inr (.inl fd)))))]) u2_1) ⟨by decide +kernel, by decide +kernel⟩ ⟨hcs0, hss0⟩ 0 rfl rfl rfl rfl (Nat.le_of_ble_eq_true rfl) dL_law_506) (pc' := 509) rfl (fun z2 _ hw_z2 => ?_)
  subst hw_z2
  have hop := op_lines hR hw1 hw_z1
  refine yy_iload C 1 dL_law_509 (pc' := 511) rfl rfl ?_
  rw [← hop.1]
  refine yy_icmp_eq C dL_law_511 (pc' := 514) rfl (tgt := 516) (by decide) (fun _ => ?_) (fun h_ => absurd rfl h_)
  refine yy_iload C 1 dL_law_516 (pc' := 518) rfl rfl ?_
  refine yy_if_ne C dL_law_518 (pc' := 521) rfl (tgt := 533) (by decide) (fun _ => ?_) (fun c_k => ?_)
  · skip
    refine yy_goto C (tgt := 2020) dL_law_533 (by decide) ?_
    refine yy_perm (w' := w1L G ad bd o1 o2 u1.1 u2_1 u1.2 fd) p21 ?_
    refine yy_loc [2, 3, 4, 5, 6, 7] rfl ?_
    exact K u1.1 u2_1 u1.2 fd hop.2.2
  · skip
    refine yy_aload_n C 6 dL_law_521 (pc' := 522) rfl rfl rfl ?_
    refine yy_iconst C (v := (nI 0)) dL_law_522 (pc' := 523) rfl (by decide) ?_
    refine yy_lald C 50 dL_law_523 (pc' := 524) rfl rfl (by decide) (by decide) ?_
    refine yy_iload C 0 dL_law_524 (pc' := 526) rfl rfl ?_
    refine yy_i2l C (v := z1.toInt64) dL_law_526 (pc' := 527) rfl rfl ?_
    refine yy_lcmp C dL_law_527 (pc' := 528) rfl ?_
    refine yy_eqi (show _ = nI 0 by rw [hop.2.1 c_k]; exact lg_self _) ?_
    refine yy_if_eq C dL_law_528 (pc' := 531) rfl (tgt := 533) (by decide) (fun _ => ?_) (fun h_ => absurd rfl h_)
    refine yy_goto C (tgt := 2020) dL_law_533 (by decide) ?_
    refine yy_perm (w' := w1L G ad bd o1 o2 u1.1 u2_1 u1.2 fd) p21 ?_
    refine yy_loc [2, 3, 4, 5, 6, 7] rfl ?_
    exact K u1.1 u2_1 u1.2 fd hop.2.2

set_option maxHeartbeats 4000000 in
set_option maxRecDepth 100000 in
theorem law_6 (op_addRule : Op_addRule) {p : Program} {l : Launch} (hl0 : l.stackTraces = false) {e : Env} {s : State} {m : MethodId} {args : Array Value} {below : List Frame} {meth : Method} {c : Code} {G : gG} {B0 : Nat} {Q : State → Prop} (C : CX p s m args meth c cL_law RL 8 G B0) {b L0 : Nat} {xs : Nat → Int32} (hX : va_X b L0 xs s s.heap) (hbl : b < s.heap.size) (hbB : b < B0) (hL : L0 ≤ 2560) {i : Nat} (hi : i + 5 ≤ L0) {ad bd : Nat → Nat} {o1 o2 cs ss : Nat} {S : SA} {M : SM} {fo : Nat → Int64} {fd : Nat → UInt64} (hR : Rel S M) (hcs : cs + 1 ≤ room_1.cells) (hss : ss + 6 ≤ room_1.slots) (K : ∀ (S' : SA) (M' : SM) (fo' : Nat → Int64) (fd' : Nat → UInt64), Rel S' M' → YY p l e room_1 s m args below meth c G B0 8 Q 2020 [(5, .int (nI i)), (0, .ref (b)), (1, .ref (ad 0)), (2, .ref (bd 0)), (3, .ref (o1)), (4, .ref (o2))] [] (w1L G ad bd o1 o2 S' M' fo' fd') (cs + 1) (ss + 6)) : YY p l e room_1 s m args below meth c G B0 8 Q 536 [(5, .int (nI i)), (0, .ref (b)), (1, .ref (ad 0)), (2, .ref (bd 0)), (3, .ref (o1)), (4, .ref (o2))] [] (w1L G ad bd o1 o2 S M fo fd) cs ss := by
  have hi31 : L0 < 2 ^ 31 := by omega
  have hcs0 : cs + 1 + 0 ≤ room_1.cells := by omega
  have hss0 : ss + 6 + 0 ≤ room_1.slots := by omega
  refine yy_aload_n C 2 dL_law_536 (pc' := 537) rfl rfl rfl ?_
  refine yy_aload_n C 1 dL_law_537 (pc' := 538) rfl rfl rfl ?_
  refine yy_iload C 0 dL_law_538 (pc' := 540) rfl rfl ?_
  refine yy_iconst C (v := (nI 1)) dL_law_540 (pc' := 541) rfl (by decide) ?_
  refine yy_iadd C (v := (nI (i + 1))) dL_law_541 (pc' := 542) rfl (nI_add i 1) ?_
  refine yy_sld C hX hbl hbB (i := i + 1) (by omega) (by omega) dL_law_542 (pc' := 543) rfl ?_
  refine yy_aload_n C 1 dL_law_543 (pc' := 544) rfl rfl rfl ?_
  refine yy_iload C 0 dL_law_544 (pc' := 546) rfl rfl ?_
  refine yy_iconst C (v := (nI 2)) dL_law_546 (pc' := 547) rfl (by decide) ?_
  refine yy_iadd C (v := (nI (i + 2))) dL_law_547 (pc' := 548) rfl (nI_add i 2) ?_
  refine yy_sld C hX hbl hbB (i := i + 2) (by omega) (by omega) dL_law_548 (pc' := 549) rfl ?_
  refine yy_aload_n C 1 dL_law_549 (pc' := 550) rfl rfl rfl ?_
  refine yy_iload C 0 dL_law_550 (pc' := 552) rfl rfl ?_
  refine yy_iconst C (v := (nI 3)) dL_law_552 (pc' := 553) rfl (by decide) ?_
  refine yy_iadd C (v := (nI (i + 3))) dL_law_553 (pc' := 554) rfl (nI_add i 3) ?_
  refine yy_sld C hX hbl hbB (i := i + 3) (by omega) (by omega) dL_law_554 (pc' := 555) rfl ?_
  refine yy_aload_n C 4 dL_law_555 (pc' := 556) rfl rfl rfl ?_
  refine yc_i (yr_SW C (As := [.ref (ad 0), .int (xs (i + 1)), .int (xs (i + 2)), .int (xs (i + 3)), .ref (o1)]) (rest := []) lk_L_143 cd_L_addRule st_L_addRule (mL_addRule l hl0 G B0 ad ((o2, .inl (G.2.2.2.2.2, 1, .inr (.inr (.inr (.inl fd))))) :: wM G bd M) S (xs (i + 1)) (xs (i + 2)) (xs (i + 3)) hR.1 o1 fo) ⟨by decide +kernel, by decide +kernel⟩ ⟨hcs, hss⟩ rfl rfl (Nat.le_of_ble_eq_true rfl) dL_law_556) (pc' := 559) rfl (fun r1 u1 hw1 => ?_)
  refine yy_istore C (L' := [(6, .int r1), (5, .int (nI i)), (0, .ref (b)), (1, .ref (ad 0)), (2, .ref (bd 0)), (3, .ref (o1)), (4, .ref (o2))]) dL_law_559 (pc' := 561) rfl (by decide) rfl ?_
  refine yy_aload_n C 4 dL_law_561 (pc' := 562) rfl rfl rfl ?_
  refine yy_aload_n C 2 dL_law_562 (pc' := 563) rfl rfl rfl ?_
  refine yy_iload C 1 dL_law_563 (pc' := 565) rfl rfl ?_
  refine yy_iconst C (v := (nI 1)) dL_law_565 (pc' := 566) rfl (by decide) ?_
  refine yy_iadd C (v := (nI (i + 1))) dL_law_566 (pc' := 567) rfl (nI_add i 1) ?_
  refine yy_sld C hX hbl hbB (i := i + 1) (by omega) (by omega) dL_law_567 (pc' := 568) rfl ?_
  refine yy_aload_n C 2 dL_law_568 (pc' := 569) rfl rfl rfl ?_
  refine yy_iload C 1 dL_law_569 (pc' := 571) rfl rfl ?_
  refine yy_iconst C (v := (nI 2)) dL_law_571 (pc' := 572) rfl (by decide) ?_
  refine yy_iadd C (v := (nI (i + 2))) dL_law_572 (pc' := 573) rfl (nI_add i 2) ?_
  refine yy_sld C hX hbl hbB (i := i + 2) (by omega) (by omega) dL_law_573 (pc' := 574) rfl ?_
  refine yy_aload_n C 2 dL_law_574 (pc' := 575) rfl rfl rfl ?_
  refine yy_iload C 1 dL_law_575 (pc' := 577) rfl rfl ?_
  refine yy_iconst C (v := (nI 3)) dL_law_577 (pc' := 578) rfl (by decide) ?_
  refine yy_iadd C (v := (nI (i + 3))) dL_law_578 (pc' := 579) rfl (nI_add i 3) ?_
  refine yy_sld C hX hbl hbB (i := i + 3) (by omega) (by omega) dL_law_579 (pc' := 580) rfl ?_
  refine yy_perm (w' := w2L G ad bd o1 o2 u1.1 M u1.2 fd) p12 ?_
  refine yc_i (yr_V C (As := [.int (xs (i + 1)), .int (xs (i + 2)), .int (xs (i + 3))]) (rest := []) lk_L_146 cd_X7_addRule im_X7_addRule se_X7_addRule (mX7_addRule l G B0 bd (wA G ad u1.1 ++ [(o1, .inl (G.2.2.1, 1, .inr (.inl u1.2))), (o2, .inl (G.2.2.2.2.2, 1, .inr (.inr (.inr (.inl fd)))))]) M (xs (i + 1)) (xs (i + 2)) (xs (i + 3)) hR.im) ⟨by decide +kernel, by decide +kernel⟩ ⟨hcs0, hss0⟩ 0 rfl rfl rfl rfl (Nat.le_of_ble_eq_true rfl) dL_law_580) (pc' := 583) rfl (fun z1 u2_1 hw_z1 => ?_)
  refine yy_istore C (L' := [(7, .int z1), (6, .int r1), (5, .int (nI i)), (0, .ref (b)), (1, .ref (ad 0)), (2, .ref (bd 0)), (3, .ref (o1)), (4, .ref (o2))]) dL_law_583 (pc' := 585) rfl (by decide) rfl ?_
  refine yy_aload_n C 5 dL_law_585 (pc' := 586) rfl rfl rfl ?_
  refine yc_i (yr_V C (As := []) (rest := []) lk_L_123 cd_X7_thrown im_X7_thrown se_X7_thrown (mX7_thrown l G B0 bd (wA G ad u1.1 ++ [(o1, .inl (G.2.2.1, 1, .inr (.inl u1.2))), (o2, .inl (G.2.2.2.2.2, 1, .inr (.inr (.inr (.inl fd)))))]) u2_1) ⟨by decide +kernel, by decide +kernel⟩ ⟨hcs0, hss0⟩ 0 rfl rfl rfl rfl (Nat.le_of_ble_eq_true rfl) dL_law_586) (pc' := 589) rfl (fun z2 _ hw_z2 => ?_)
  subst hw_z2
  have hop := op_addRule hR hw1 hw_z1
  refine yy_iload C 1 dL_law_589 (pc' := 591) rfl rfl ?_
  rw [← hop.1]
  refine yy_icmp_eq C dL_law_591 (pc' := 594) rfl (tgt := 596) (by decide) (fun _ => ?_) (fun h_ => absurd rfl h_)
  refine yy_iload C 1 dL_law_596 (pc' := 598) rfl rfl ?_
  refine yy_if_ne C dL_law_598 (pc' := 601) rfl (tgt := 613) (by decide) (fun _ => ?_) (fun c_k => ?_)
  · skip
    refine yy_goto C (tgt := 2020) dL_law_613 (by decide) ?_
    refine yy_perm (w' := w1L G ad bd o1 o2 u1.1 u2_1 u1.2 fd) p21 ?_
    refine yy_loc [2, 3, 4, 5, 6, 7] rfl ?_
    exact K u1.1 u2_1 u1.2 fd hop.2.2
  · skip
    refine yy_aload_n C 6 dL_law_601 (pc' := 602) rfl rfl rfl ?_
    refine yy_iconst C (v := (nI 0)) dL_law_602 (pc' := 603) rfl (by decide) ?_
    refine yy_lald C 50 dL_law_603 (pc' := 604) rfl rfl (by decide) (by decide) ?_
    refine yy_iload C 0 dL_law_604 (pc' := 606) rfl rfl ?_
    refine yy_i2l C (v := z1.toInt64) dL_law_606 (pc' := 607) rfl rfl ?_
    refine yy_lcmp C dL_law_607 (pc' := 608) rfl ?_
    refine yy_eqi (show _ = nI 0 by rw [hop.2.1 c_k]; exact lg_self _) ?_
    refine yy_if_eq C dL_law_608 (pc' := 611) rfl (tgt := 613) (by decide) (fun _ => ?_) (fun h_ => absurd rfl h_)
    refine yy_goto C (tgt := 2020) dL_law_613 (by decide) ?_
    refine yy_perm (w' := w1L G ad bd o1 o2 u1.1 u2_1 u1.2 fd) p21 ?_
    refine yy_loc [2, 3, 4, 5, 6, 7] rfl ?_
    exact K u1.1 u2_1 u1.2 fd hop.2.2

set_option maxHeartbeats 4000000 in
set_option maxRecDepth 100000 in
theorem law_7 (op_addSpan : Op_addSpan) {p : Program} {l : Launch} (hl0 : l.stackTraces = false) {e : Env} {s : State} {m : MethodId} {args : Array Value} {below : List Frame} {meth : Method} {c : Code} {G : gG} {B0 : Nat} {Q : State → Prop} (C : CX p s m args meth c cL_law RL 8 G B0) {b L0 : Nat} {xs : Nat → Int32} (hX : va_X b L0 xs s s.heap) (hbl : b < s.heap.size) (hbB : b < B0) (hL : L0 ≤ 2560) {i : Nat} (hi : i + 5 ≤ L0) {ad bd : Nat → Nat} {o1 o2 cs ss : Nat} {S : SA} {M : SM} {fo : Nat → Int64} {fd : Nat → UInt64} (hR : Rel S M) (hcs : cs + 1 ≤ room_1.cells) (hss : ss + 6 ≤ room_1.slots) (K : ∀ (S' : SA) (M' : SM) (fo' : Nat → Int64) (fd' : Nat → UInt64), Rel S' M' → YY p l e room_1 s m args below meth c G B0 8 Q 2020 [(5, .int (nI i)), (0, .ref (b)), (1, .ref (ad 0)), (2, .ref (bd 0)), (3, .ref (o1)), (4, .ref (o2))] [] (w1L G ad bd o1 o2 S' M' fo' fd') (cs + 1) (ss + 6)) : YY p l e room_1 s m args below meth c G B0 8 Q 616 [(5, .int (nI i)), (0, .ref (b)), (1, .ref (ad 0)), (2, .ref (bd 0)), (3, .ref (o1)), (4, .ref (o2))] [] (w1L G ad bd o1 o2 S M fo fd) cs ss := by
  have hi31 : L0 < 2 ^ 31 := by omega
  have hcs0 : cs + 1 + 0 ≤ room_1.cells := by omega
  have hss0 : ss + 6 + 0 ≤ room_1.slots := by omega
  refine yy_aload_n C 2 dL_law_616 (pc' := 617) rfl rfl rfl ?_
  refine yy_aload_n C 1 dL_law_617 (pc' := 618) rfl rfl rfl ?_
  refine yy_iload C 0 dL_law_618 (pc' := 620) rfl rfl ?_
  refine yy_iconst C (v := (nI 1)) dL_law_620 (pc' := 621) rfl (by decide) ?_
  refine yy_iadd C (v := (nI (i + 1))) dL_law_621 (pc' := 622) rfl (nI_add i 1) ?_
  refine yy_sld C hX hbl hbB (i := i + 1) (by omega) (by omega) dL_law_622 (pc' := 623) rfl ?_
  refine yy_aload_n C 1 dL_law_623 (pc' := 624) rfl rfl rfl ?_
  refine yy_iload C 0 dL_law_624 (pc' := 626) rfl rfl ?_
  refine yy_iconst C (v := (nI 2)) dL_law_626 (pc' := 627) rfl (by decide) ?_
  refine yy_iadd C (v := (nI (i + 2))) dL_law_627 (pc' := 628) rfl (nI_add i 2) ?_
  refine yy_sld C hX hbl hbB (i := i + 2) (by omega) (by omega) dL_law_628 (pc' := 629) rfl ?_
  refine yy_aload_n C 1 dL_law_629 (pc' := 630) rfl rfl rfl ?_
  refine yy_iload C 0 dL_law_630 (pc' := 632) rfl rfl ?_
  refine yy_iconst C (v := (nI 3)) dL_law_632 (pc' := 633) rfl (by decide) ?_
  refine yy_iadd C (v := (nI (i + 3))) dL_law_633 (pc' := 634) rfl (nI_add i 3) ?_
  refine yy_sld C hX hbl hbB (i := i + 3) (by omega) (by omega) dL_law_634 (pc' := 635) rfl ?_
  refine yy_aload_n C 1 dL_law_635 (pc' := 636) rfl rfl rfl ?_
  refine yy_iload C 0 dL_law_636 (pc' := 638) rfl rfl ?_
  refine yy_iconst C (v := (nI 4)) dL_law_638 (pc' := 639) rfl (by decide) ?_
  refine yy_iadd C (v := (nI (i + 4))) dL_law_639 (pc' := 640) rfl (nI_add i 4) ?_
  refine yy_sld C hX hbl hbB (i := i + 4) (by omega) (by omega) dL_law_640 (pc' := 641) rfl ?_
  refine yy_aload_n C 4 dL_law_641 (pc' := 642) rfl rfl rfl ?_
  refine yc_i (yr_SW C (As := [.ref (ad 0), .int (xs (i + 1)), .int (xs (i + 2)), .int (xs (i + 3)), .int (xs (i + 4)), .ref (o1)]) (rest := []) lk_L_147 cd_L_addSpan st_L_addSpan (mL_addSpan l hl0 G B0 ad ((o2, .inl (G.2.2.2.2.2, 1, .inr (.inr (.inr (.inl fd))))) :: wM G bd M) S (xs (i + 1)) (xs (i + 2)) (xs (i + 3)) (xs (i + 4)) hR.1 o1 fo) ⟨by decide +kernel, by decide +kernel⟩ ⟨hcs, hss⟩ rfl rfl (Nat.le_of_ble_eq_true rfl) dL_law_642) (pc' := 645) rfl (fun r1 u1 hw1 => ?_)
  refine yy_istore C (L' := [(6, .int r1), (5, .int (nI i)), (0, .ref (b)), (1, .ref (ad 0)), (2, .ref (bd 0)), (3, .ref (o1)), (4, .ref (o2))]) dL_law_645 (pc' := 647) rfl (by decide) rfl ?_
  refine yy_aload_n C 4 dL_law_647 (pc' := 648) rfl rfl rfl ?_
  refine yy_aload_n C 2 dL_law_648 (pc' := 649) rfl rfl rfl ?_
  refine yy_iload C 1 dL_law_649 (pc' := 651) rfl rfl ?_
  refine yy_iconst C (v := (nI 1)) dL_law_651 (pc' := 652) rfl (by decide) ?_
  refine yy_iadd C (v := (nI (i + 1))) dL_law_652 (pc' := 653) rfl (nI_add i 1) ?_
  refine yy_sld C hX hbl hbB (i := i + 1) (by omega) (by omega) dL_law_653 (pc' := 654) rfl ?_
  refine yy_aload_n C 2 dL_law_654 (pc' := 655) rfl rfl rfl ?_
  refine yy_iload C 1 dL_law_655 (pc' := 657) rfl rfl ?_
  refine yy_iconst C (v := (nI 2)) dL_law_657 (pc' := 658) rfl (by decide) ?_
  refine yy_iadd C (v := (nI (i + 2))) dL_law_658 (pc' := 659) rfl (nI_add i 2) ?_
  refine yy_sld C hX hbl hbB (i := i + 2) (by omega) (by omega) dL_law_659 (pc' := 660) rfl ?_
  refine yy_aload_n C 2 dL_law_660 (pc' := 661) rfl rfl rfl ?_
  refine yy_iload C 1 dL_law_661 (pc' := 663) rfl rfl ?_
  refine yy_iconst C (v := (nI 3)) dL_law_663 (pc' := 664) rfl (by decide) ?_
  refine yy_iadd C (v := (nI (i + 3))) dL_law_664 (pc' := 665) rfl (nI_add i 3) ?_
  refine yy_sld C hX hbl hbB (i := i + 3) (by omega) (by omega) dL_law_665 (pc' := 666) rfl ?_
  refine yy_aload_n C 2 dL_law_666 (pc' := 667) rfl rfl rfl ?_
  refine yy_iload C 1 dL_law_667 (pc' := 669) rfl rfl ?_
  refine yy_iconst C (v := (nI 4)) dL_law_669 (pc' := 670) rfl (by decide) ?_
  refine yy_iadd C (v := (nI (i + 4))) dL_law_670 (pc' := 671) rfl (nI_add i 4) ?_
  refine yy_sld C hX hbl hbB (i := i + 4) (by omega) (by omega) dL_law_671 (pc' := 672) rfl ?_
  refine yy_perm (w' := w2L G ad bd o1 o2 u1.1 M u1.2 fd) p12 ?_
  refine yc_i (yr_V C (As := [.int (xs (i + 1)), .int (xs (i + 2)), .int (xs (i + 3)), .int (xs (i + 4))]) (rest := []) lk_L_150 cd_X7_addSpan im_X7_addSpan se_X7_addSpan (mX7_addSpan l G B0 bd (wA G ad u1.1 ++ [(o1, .inl (G.2.2.1, 1, .inr (.inl u1.2))), (o2, .inl (G.2.2.2.2.2, 1, .inr (.inr (.inr (.inl fd)))))]) M (xs (i + 1)) (xs (i + 2)) (xs (i + 3)) (xs (i + 4)) hR.im) ⟨by decide +kernel, by decide +kernel⟩ ⟨hcs0, hss0⟩ 0 rfl rfl rfl rfl (Nat.le_of_ble_eq_true rfl) dL_law_672) (pc' := 675) rfl (fun z1 u2_1 hw_z1 => ?_)
  refine yy_istore C (L' := [(7, .int z1), (6, .int r1), (5, .int (nI i)), (0, .ref (b)), (1, .ref (ad 0)), (2, .ref (bd 0)), (3, .ref (o1)), (4, .ref (o2))]) dL_law_675 (pc' := 677) rfl (by decide) rfl ?_
  refine yy_aload_n C 5 dL_law_677 (pc' := 678) rfl rfl rfl ?_
  refine yc_i (yr_V C (As := []) (rest := []) lk_L_123 cd_X7_thrown im_X7_thrown se_X7_thrown (mX7_thrown l G B0 bd (wA G ad u1.1 ++ [(o1, .inl (G.2.2.1, 1, .inr (.inl u1.2))), (o2, .inl (G.2.2.2.2.2, 1, .inr (.inr (.inr (.inl fd)))))]) u2_1) ⟨by decide +kernel, by decide +kernel⟩ ⟨hcs0, hss0⟩ 0 rfl rfl rfl rfl (Nat.le_of_ble_eq_true rfl) dL_law_678) (pc' := 681) rfl (fun z2 _ hw_z2 => ?_)
  subst hw_z2
  have hop := op_addSpan hR hw1 hw_z1
  refine yy_iload C 1 dL_law_681 (pc' := 683) rfl rfl ?_
  rw [← hop.1]
  refine yy_icmp_eq C dL_law_683 (pc' := 686) rfl (tgt := 688) (by decide) (fun _ => ?_) (fun h_ => absurd rfl h_)
  refine yy_iload C 1 dL_law_688 (pc' := 690) rfl rfl ?_
  refine yy_if_ne C dL_law_690 (pc' := 693) rfl (tgt := 705) (by decide) (fun _ => ?_) (fun c_k => ?_)
  · skip
    refine yy_goto C (tgt := 2020) dL_law_705 (by decide) ?_
    refine yy_perm (w' := w1L G ad bd o1 o2 u1.1 u2_1 u1.2 fd) p21 ?_
    refine yy_loc [2, 3, 4, 5, 6, 7] rfl ?_
    exact K u1.1 u2_1 u1.2 fd hop.2.2
  · skip
    refine yy_aload_n C 6 dL_law_693 (pc' := 694) rfl rfl rfl ?_
    refine yy_iconst C (v := (nI 0)) dL_law_694 (pc' := 695) rfl (by decide) ?_
    refine yy_lald C 50 dL_law_695 (pc' := 696) rfl rfl (by decide) (by decide) ?_
    refine yy_iload C 0 dL_law_696 (pc' := 698) rfl rfl ?_
    refine yy_i2l C (v := z1.toInt64) dL_law_698 (pc' := 699) rfl rfl ?_
    refine yy_lcmp C dL_law_699 (pc' := 700) rfl ?_
    refine yy_eqi (show _ = nI 0 by rw [hop.2.1 c_k]; exact lg_self _) ?_
    refine yy_if_eq C dL_law_700 (pc' := 703) rfl (tgt := 705) (by decide) (fun _ => ?_) (fun h_ => absurd rfl h_)
    refine yy_goto C (tgt := 2020) dL_law_705 (by decide) ?_
    refine yy_perm (w' := w1L G ad bd o1 o2 u1.1 u2_1 u1.2 fd) p21 ?_
    refine yy_loc [2, 3, 4, 5, 6, 7] rfl ?_
    exact K u1.1 u2_1 u1.2 fd hop.2.2
