set_option maxHeartbeats 4000000 in
set_option maxRecDepth 100000 in
theorem law_20 (op_request : Op_request) {p : Program} {l : Launch} (hl0 : l.stackTraces = false) {e : Env} {s : State} {m : MethodId} {args : Array Value} {below : List Frame} {meth : Method} {c : Code} {G : gG} {B0 : Nat} {Q : State → Prop} (C : CX p s m args meth c cL_law RL 8 G B0) {b L0 : Nat} {xs : Nat → Int32} (hX : va_X b L0 xs s s.heap) (hbl : b < s.heap.size) (hbB : b < B0) (hL : L0 ≤ 2560) {i : Nat} (hi : i + 5 ≤ L0) {ad bd : Nat → Nat} {o1 o2 cs ss : Nat} {S : SA} {M : SM} {fo : Nat → Int64} {fd : Nat → UInt64} (hR : Rel S M) (hcs : cs + 1 ≤ room_1.cells) (hss : ss + 6 ≤ room_1.slots) (K : ∀ (S' : SA) (M' : SM) (fo' : Nat → Int64) (fd' : Nat → UInt64), Rel S' M' → YY p l e room_1 s m args below meth c G B0 8 Q 2020 [(5, .int (nI i)), (0, .ref (b)), (1, .ref (ad 0)), (2, .ref (bd 0)), (3, .ref (o1)), (4, .ref (o2))] [] (w1L G ad bd o1 o2 S' M' fo' fd') (cs + 1) (ss + 6)) : YY p l e room_1 s m args below meth c G B0 8 Q 1442 [(5, .int (nI i)), (0, .ref (b)), (1, .ref (ad 0)), (2, .ref (bd 0)), (3, .ref (o1)), (4, .ref (o2))] [] (w1L G ad bd o1 o2 S M fo fd) cs ss := by
  have hi31 : L0 < 2 ^ 31 := by omega
  have hcs0 : cs + 1 + 0 ≤ room_1.cells := by omega
  have hss0 : ss + 6 + 0 ≤ room_1.slots := by omega
  refine yy_aload_n C 2 dL_law_1442 (pc' := 1443) rfl rfl rfl ?_
  refine yy_aload_n C 1 dL_law_1443 (pc' := 1444) rfl rfl rfl ?_
  refine yy_iload C 0 dL_law_1444 (pc' := 1446) rfl rfl ?_
  refine yy_iconst C (v := (nI 1)) dL_law_1446 (pc' := 1447) rfl (by decide) ?_
  refine yy_iadd C (v := (nI (i + 1))) dL_law_1447 (pc' := 1448) rfl (nI_add i 1) ?_
  refine yy_sld C hX hbl hbB (i := i + 1) (by omega) (by omega) dL_law_1448 (pc' := 1449) rfl ?_
  refine yy_aload_n C 1 dL_law_1449 (pc' := 1450) rfl rfl rfl ?_
  refine yy_iload C 0 dL_law_1450 (pc' := 1452) rfl rfl ?_
  refine yy_iconst C (v := (nI 2)) dL_law_1452 (pc' := 1453) rfl (by decide) ?_
  refine yy_iadd C (v := (nI (i + 2))) dL_law_1453 (pc' := 1454) rfl (nI_add i 2) ?_
  refine yy_sld C hX hbl hbB (i := i + 2) (by omega) (by omega) dL_law_1454 (pc' := 1455) rfl ?_
  refine yy_aload_n C 4 dL_law_1455 (pc' := 1456) rfl rfl rfl ?_
  refine yc_i (yr_SW C (As := [.ref (ad 0), .int (xs (i + 1)), .int (xs (i + 2)), .ref (o1)]) (rest := []) lk_L_188 cd_L_request st_L_request (mL_request l hl0 G B0 ad ((o2, .inl (G.2.2.2.2.2, 1, .inr (.inr (.inr (.inl fd))))) :: wM G bd M) S (xs (i + 1)) (xs (i + 2)) hR.1 o1 fo) ⟨by decide +kernel, by decide +kernel⟩ ⟨hcs, hss⟩ rfl rfl (Nat.le_of_ble_eq_true rfl) dL_law_1456) (pc' := 1459) rfl (fun r1 u1 hw1 => ?_)
  refine yy_istore C (L' := [(6, .int r1), (5, .int (nI i)), (0, .ref (b)), (1, .ref (ad 0)), (2, .ref (bd 0)), (3, .ref (o1)), (4, .ref (o2))]) dL_law_1459 (pc' := 1461) rfl (by decide) rfl ?_
  refine yy_aload_n C 4 dL_law_1461 (pc' := 1462) rfl rfl rfl ?_
  refine yy_aload_n C 2 dL_law_1462 (pc' := 1463) rfl rfl rfl ?_
  refine yy_iload C 1 dL_law_1463 (pc' := 1465) rfl rfl ?_
  refine yy_iconst C (v := (nI 1)) dL_law_1465 (pc' := 1466) rfl (by decide) ?_
  refine yy_iadd C (v := (nI (i + 1))) dL_law_1466 (pc' := 1467) rfl (nI_add i 1) ?_
  refine yy_sld C hX hbl hbB (i := i + 1) (by omega) (by omega) dL_law_1467 (pc' := 1468) rfl ?_
  refine yy_aload_n C 2 dL_law_1468 (pc' := 1469) rfl rfl rfl ?_
  refine yy_iload C 1 dL_law_1469 (pc' := 1471) rfl rfl ?_
  refine yy_iconst C (v := (nI 2)) dL_law_1471 (pc' := 1472) rfl (by decide) ?_
  refine yy_iadd C (v := (nI (i + 2))) dL_law_1472 (pc' := 1473) rfl (nI_add i 2) ?_
  refine yy_sld C hX hbl hbB (i := i + 2) (by omega) (by omega) dL_law_1473 (pc' := 1474) rfl ?_
  refine yy_perm (w' := w2L G ad bd o1 o2 u1.1 M u1.2 fd) p12 ?_
  refine yc_i (yr_V C (As := [.int (xs (i + 1)), .int (xs (i + 2))]) (rest := []) lk_L_190 cd_X7_request im_X7_request se_X7_request (mX7_request l G B0 bd (wA G ad u1.1 ++ [(o1, .inl (G.2.2.1, 1, .inr (.inl u1.2))), (o2, .inl (G.2.2.2.2.2, 1, .inr (.inr (.inr (.inl fd)))))]) M (xs (i + 1)) (xs (i + 2)) hR.im) ⟨by decide +kernel, by decide +kernel⟩ ⟨hcs0, hss0⟩ 0 rfl rfl rfl rfl (Nat.le_of_ble_eq_true rfl) dL_law_1474) (pc' := 1477) rfl (fun z1 u2_1 hw_z1 => ?_)
  refine yy_istore C (L' := [(7, .int z1), (6, .int r1), (5, .int (nI i)), (0, .ref (b)), (1, .ref (ad 0)), (2, .ref (bd 0)), (3, .ref (o1)), (4, .ref (o2))]) dL_law_1477 (pc' := 1479) rfl (by decide) rfl ?_
  refine yy_aload_n C 5 dL_law_1479 (pc' := 1480) rfl rfl rfl ?_
  refine yc_i (yr_V C (As := []) (rest := []) lk_L_123 cd_X7_thrown im_X7_thrown se_X7_thrown (mX7_thrown l G B0 bd (wA G ad u1.1 ++ [(o1, .inl (G.2.2.1, 1, .inr (.inl u1.2))), (o2, .inl (G.2.2.2.2.2, 1, .inr (.inr (.inr (.inl fd)))))]) u2_1) ⟨by decide +kernel, by decide +kernel⟩ ⟨hcs0, hss0⟩ 0 rfl rfl rfl rfl (Nat.le_of_ble_eq_true rfl) dL_law_1480) (pc' := 1483) rfl (fun z2 _ hw_z2 => ?_)
  subst hw_z2
  have hop := op_request hR hw1 hw_z1
  refine yy_iload C 1 dL_law_1483 (pc' := 1485) rfl rfl ?_
  rw [← hop.1]
  refine yy_icmp_eq C dL_law_1485 (pc' := 1488) rfl (tgt := 1490) (by decide) (fun _ => ?_) (fun h_ => absurd rfl h_)
  refine yy_iload C 1 dL_law_1490 (pc' := 1492) rfl rfl ?_
  refine yy_if_ne C dL_law_1492 (pc' := 1495) rfl (tgt := 1507) (by decide) (fun _ => ?_) (fun c_k => ?_)
  · skip
    refine yy_goto C (tgt := 2020) dL_law_1507 (by decide) ?_
    refine yy_perm (w' := w1L G ad bd o1 o2 u1.1 u2_1 u1.2 fd) p21 ?_
    refine yy_loc [2, 3, 4, 5, 6, 7] rfl ?_
    exact K u1.1 u2_1 u1.2 fd hop.2.2
  · skip
    refine yy_aload_n C 6 dL_law_1495 (pc' := 1496) rfl rfl rfl ?_
    refine yy_iconst C (v := (nI 0)) dL_law_1496 (pc' := 1497) rfl (by decide) ?_
    refine yy_lald C 50 dL_law_1497 (pc' := 1498) rfl rfl (by decide) (by decide) ?_
    refine yy_iload C 0 dL_law_1498 (pc' := 1500) rfl rfl ?_
    refine yy_i2l C (v := z1.toInt64) dL_law_1500 (pc' := 1501) rfl rfl ?_
    refine yy_lcmp C dL_law_1501 (pc' := 1502) rfl ?_
    refine yy_eqi (show _ = nI 0 by rw [hop.2.1 c_k]; exact lg_self _) ?_
    refine yy_if_eq C dL_law_1502 (pc' := 1505) rfl (tgt := 1507) (by decide) (fun _ => ?_) (fun h_ => absurd rfl h_)
    refine yy_goto C (tgt := 2020) dL_law_1507 (by decide) ?_
    refine yy_perm (w' := w1L G ad bd o1 o2 u1.1 u2_1 u1.2 fd) p21 ?_
    refine yy_loc [2, 3, 4, 5, 6, 7] rfl ?_
    exact K u1.1 u2_1 u1.2 fd hop.2.2

set_option maxHeartbeats 4000000 in
set_option maxRecDepth 100000 in
theorem law_21 (op_state : Op_state) {p : Program} {l : Launch} (hl0 : l.stackTraces = false) {e : Env} {s : State} {m : MethodId} {args : Array Value} {below : List Frame} {meth : Method} {c : Code} {G : gG} {B0 : Nat} {Q : State → Prop} (C : CX p s m args meth c cL_law RL 8 G B0) {b L0 : Nat} {xs : Nat → Int32} (hX : va_X b L0 xs s s.heap) (hbl : b < s.heap.size) (hbB : b < B0) (hL : L0 ≤ 2560) {i : Nat} (hi : i + 5 ≤ L0) {ad bd : Nat → Nat} {o1 o2 cs ss : Nat} {S : SA} {M : SM} {fo : Nat → Int64} {fd : Nat → UInt64} (hR : Rel S M) (hcs : cs + 1 ≤ room_1.cells) (hss : ss + 6 ≤ room_1.slots) (K : ∀ (S' : SA) (M' : SM) (fo' : Nat → Int64) (fd' : Nat → UInt64), Rel S' M' → YY p l e room_1 s m args below meth c G B0 8 Q 2020 [(5, .int (nI i)), (0, .ref (b)), (1, .ref (ad 0)), (2, .ref (bd 0)), (3, .ref (o1)), (4, .ref (o2))] [] (w1L G ad bd o1 o2 S' M' fo' fd') (cs + 1) (ss + 6)) : YY p l e room_1 s m args below meth c G B0 8 Q 1510 [(5, .int (nI i)), (0, .ref (b)), (1, .ref (ad 0)), (2, .ref (bd 0)), (3, .ref (o1)), (4, .ref (o2))] [] (w1L G ad bd o1 o2 S M fo fd) cs ss := by
  have hi31 : L0 < 2 ^ 31 := by omega
  have hcs0 : cs + 1 + 0 ≤ room_1.cells := by omega
  have hss0 : ss + 6 + 0 ≤ room_1.slots := by omega
  refine yy_aload_n C 2 dL_law_1510 (pc' := 1511) rfl rfl rfl ?_
  refine yy_aload_n C 1 dL_law_1511 (pc' := 1512) rfl rfl rfl ?_
  refine yy_iload C 0 dL_law_1512 (pc' := 1514) rfl rfl ?_
  refine yy_iconst C (v := (nI 1)) dL_law_1514 (pc' := 1515) rfl (by decide) ?_
  refine yy_iadd C (v := (nI (i + 1))) dL_law_1515 (pc' := 1516) rfl (nI_add i 1) ?_
  refine yy_sld C hX hbl hbB (i := i + 1) (by omega) (by omega) dL_law_1516 (pc' := 1517) rfl ?_
  refine yy_aload_n C 4 dL_law_1517 (pc' := 1518) rfl rfl rfl ?_
  refine yc_i (yr_SW C (As := [.ref (ad 0), .int (xs (i + 1)), .ref (o1)]) (rest := []) lk_L_191 cd_L_state st_L_state (mL_state l hl0 G B0 ad ((o2, .inl (G.2.2.2.2.2, 1, .inr (.inr (.inr (.inl fd))))) :: wM G bd M) S (xs (i + 1)) hR.1 hR.nar o1 fo) ⟨by decide +kernel, by decide +kernel⟩ ⟨hcs, hss⟩ rfl rfl (Nat.le_of_ble_eq_true rfl) dL_law_1518) (pc' := 1521) rfl (fun r1 u1 hw1 => ?_)
  refine yy_istore C (L' := [(6, .int r1), (5, .int (nI i)), (0, .ref (b)), (1, .ref (ad 0)), (2, .ref (bd 0)), (3, .ref (o1)), (4, .ref (o2))]) dL_law_1521 (pc' := 1523) rfl (by decide) rfl ?_
  refine yy_aload_n C 4 dL_law_1523 (pc' := 1524) rfl rfl rfl ?_
  refine yy_aload_n C 2 dL_law_1524 (pc' := 1525) rfl rfl rfl ?_
  refine yy_iload C 1 dL_law_1525 (pc' := 1527) rfl rfl ?_
  refine yy_iconst C (v := (nI 1)) dL_law_1527 (pc' := 1528) rfl (by decide) ?_
  refine yy_iadd C (v := (nI (i + 1))) dL_law_1528 (pc' := 1529) rfl (nI_add i 1) ?_
  refine yy_sld C hX hbl hbB (i := i + 1) (by omega) (by omega) dL_law_1529 (pc' := 1530) rfl ?_
  refine yy_perm (w' := w2L G ad bd o1 o2 u1.1 M u1.2 fd) p12 ?_
  refine yc_i (yr_V C (As := [.int (xs (i + 1))]) (rest := []) lk_L_193 cd_X7_state im_X7_state se_X7_state (mX7_state l G B0 bd (wA G ad u1.1 ++ [(o1, .inl (G.2.2.1, 1, .inr (.inl u1.2))), (o2, .inl (G.2.2.2.2.2, 1, .inr (.inr (.inr (.inl fd)))))]) M hR.narM (xs (i + 1)) hR.im) ⟨by decide +kernel, by decide +kernel⟩ ⟨hcs0, hss0⟩ 0 rfl rfl rfl rfl (Nat.le_of_ble_eq_true rfl) dL_law_1530) (pc' := 1533) rfl (fun z1 u2_1 hw_z1 => ?_)
  refine yy_istore C (L' := [(7, .int z1), (6, .int r1), (5, .int (nI i)), (0, .ref (b)), (1, .ref (ad 0)), (2, .ref (bd 0)), (3, .ref (o1)), (4, .ref (o2))]) dL_law_1533 (pc' := 1535) rfl (by decide) rfl ?_
  refine yy_aload_n C 5 dL_law_1535 (pc' := 1536) rfl rfl rfl ?_
  refine yc_i (yr_V C (As := []) (rest := []) lk_L_123 cd_X7_thrown im_X7_thrown se_X7_thrown (mX7_thrown l G B0 bd (wA G ad u1.1 ++ [(o1, .inl (G.2.2.1, 1, .inr (.inl u1.2))), (o2, .inl (G.2.2.2.2.2, 1, .inr (.inr (.inr (.inl fd)))))]) u2_1) ⟨by decide +kernel, by decide +kernel⟩ ⟨hcs0, hss0⟩ 0 rfl rfl rfl rfl (Nat.le_of_ble_eq_true rfl) dL_law_1536) (pc' := 1539) rfl (fun z2 _ hw_z2 => ?_)
  subst hw_z2
  have hop := op_state hR hw1 hw_z1
  refine yy_iload C 1 dL_law_1539 (pc' := 1541) rfl rfl ?_
  rw [← hop.1]
  refine yy_icmp_eq C dL_law_1541 (pc' := 1544) rfl (tgt := 1546) (by decide) (fun _ => ?_) (fun h_ => absurd rfl h_)
  refine yy_iload C 1 dL_law_1546 (pc' := 1548) rfl rfl ?_
  refine yy_if_ne C dL_law_1548 (pc' := 1551) rfl (tgt := 1563) (by decide) (fun _ => ?_) (fun c_k => ?_)
  · skip
    refine yy_goto C (tgt := 2020) dL_law_1563 (by decide) ?_
    refine yy_perm (w' := w1L G ad bd o1 o2 u1.1 u2_1 u1.2 fd) p21 ?_
    refine yy_loc [2, 3, 4, 5, 6, 7] rfl ?_
    exact K u1.1 u2_1 u1.2 fd hop.2.2
  · skip
    refine yy_aload_n C 6 dL_law_1551 (pc' := 1552) rfl rfl rfl ?_
    refine yy_iconst C (v := (nI 0)) dL_law_1552 (pc' := 1553) rfl (by decide) ?_
    refine yy_lald C 50 dL_law_1553 (pc' := 1554) rfl rfl (by decide) (by decide) ?_
    refine yy_iload C 0 dL_law_1554 (pc' := 1556) rfl rfl ?_
    refine yy_i2l C (v := z1.toInt64) dL_law_1556 (pc' := 1557) rfl rfl ?_
    refine yy_lcmp C dL_law_1557 (pc' := 1558) rfl ?_
    refine yy_eqi (show _ = nI 0 by rw [hop.2.1 c_k]; exact lg_self _) ?_
    refine yy_if_eq C dL_law_1558 (pc' := 1561) rfl (tgt := 1563) (by decide) (fun _ => ?_) (fun h_ => absurd rfl h_)
    refine yy_goto C (tgt := 2020) dL_law_1563 (by decide) ?_
    refine yy_perm (w' := w1L G ad bd o1 o2 u1.1 u2_1 u1.2 fd) p21 ?_
    refine yy_loc [2, 3, 4, 5, 6, 7] rfl ?_
    exact K u1.1 u2_1 u1.2 fd hop.2.2

set_option maxHeartbeats 4000000 in
set_option maxRecDepth 100000 in
theorem law_22 (op_answer : Op_answer) {p : Program} {l : Launch} (hl0 : l.stackTraces = false) {e : Env} {s : State} {m : MethodId} {args : Array Value} {below : List Frame} {meth : Method} {c : Code} {G : gG} {B0 : Nat} {Q : State → Prop} (C : CX p s m args meth c cL_law RL 8 G B0) {b L0 : Nat} {xs : Nat → Int32} (hX : va_X b L0 xs s s.heap) (hbl : b < s.heap.size) (hbB : b < B0) (hL : L0 ≤ 2560) {i : Nat} (hi : i + 5 ≤ L0) {ad bd : Nat → Nat} {o1 o2 cs ss : Nat} {S : SA} {M : SM} {fo : Nat → Int64} {fd : Nat → UInt64} (hR : Rel S M) (hcs : cs + 1 ≤ room_1.cells) (hss : ss + 6 ≤ room_1.slots) (K : ∀ (S' : SA) (M' : SM) (fo' : Nat → Int64) (fd' : Nat → UInt64), Rel S' M' → YY p l e room_1 s m args below meth c G B0 8 Q 2020 [(5, .int (nI i)), (0, .ref (b)), (1, .ref (ad 0)), (2, .ref (bd 0)), (3, .ref (o1)), (4, .ref (o2))] [] (w1L G ad bd o1 o2 S' M' fo' fd') (cs + 1) (ss + 6)) : YY p l e room_1 s m args below meth c G B0 8 Q 1566 [(5, .int (nI i)), (0, .ref (b)), (1, .ref (ad 0)), (2, .ref (bd 0)), (3, .ref (o1)), (4, .ref (o2))] [] (w1L G ad bd o1 o2 S M fo fd) cs ss := by
  have hi31 : L0 < 2 ^ 31 := by omega
  have hcs0 : cs + 1 + 0 ≤ room_1.cells := by omega
  have hss0 : ss + 6 + 0 ≤ room_1.slots := by omega
  refine yy_aload_n C 2 dL_law_1566 (pc' := 1567) rfl rfl rfl ?_
  refine yy_aload_n C 1 dL_law_1567 (pc' := 1568) rfl rfl rfl ?_
  refine yy_iload C 0 dL_law_1568 (pc' := 1570) rfl rfl ?_
  refine yy_iconst C (v := (nI 1)) dL_law_1570 (pc' := 1571) rfl (by decide) ?_
  refine yy_iadd C (v := (nI (i + 1))) dL_law_1571 (pc' := 1572) rfl (nI_add i 1) ?_
  refine yy_sld C hX hbl hbB (i := i + 1) (by omega) (by omega) dL_law_1572 (pc' := 1573) rfl ?_
  refine yy_aload_n C 4 dL_law_1573 (pc' := 1574) rfl rfl rfl ?_
  refine yc_i (yr_SW C (As := [.ref (ad 0), .int (xs (i + 1)), .ref (o1)]) (rest := []) lk_L_194 cd_L_answer st_L_answer (mL_answer l hl0 G B0 ad ((o2, .inl (G.2.2.2.2.2, 1, .inr (.inr (.inr (.inl fd))))) :: wM G bd M) S (xs (i + 1)) hR.1 hR.2.1 o1 fo) ⟨by decide +kernel, by decide +kernel⟩ ⟨hcs, hss⟩ rfl rfl (Nat.le_of_ble_eq_true rfl) dL_law_1574) (pc' := 1577) rfl (fun r1 u1 hw1 => ?_)
  refine yy_istore C (L' := [(6, .int r1), (5, .int (nI i)), (0, .ref (b)), (1, .ref (ad 0)), (2, .ref (bd 0)), (3, .ref (o1)), (4, .ref (o2))]) dL_law_1577 (pc' := 1579) rfl (by decide) rfl ?_
  refine yy_aload_n C 4 dL_law_1579 (pc' := 1580) rfl rfl rfl ?_
  refine yy_aload_n C 2 dL_law_1580 (pc' := 1581) rfl rfl rfl ?_
  refine yy_iload C 1 dL_law_1581 (pc' := 1583) rfl rfl ?_
  refine yy_iconst C (v := (nI 1)) dL_law_1583 (pc' := 1584) rfl (by decide) ?_
  refine yy_iadd C (v := (nI (i + 1))) dL_law_1584 (pc' := 1585) rfl (nI_add i 1) ?_
  refine yy_sld C hX hbl hbB (i := i + 1) (by omega) (by omega) dL_law_1585 (pc' := 1586) rfl ?_
  refine yy_perm (w' := w2L G ad bd o1 o2 u1.1 M u1.2 fd) p12 ?_
  refine yc_i (yr_V C (As := [.int (xs (i + 1))]) (rest := []) lk_L_196 cd_X7_answer im_X7_answer se_X7_answer (mX7_answer l G B0 bd (wA G ad u1.1 ++ [(o1, .inl (G.2.2.1, 1, .inr (.inl u1.2))), (o2, .inl (G.2.2.2.2.2, 1, .inr (.inr (.inr (.inl fd)))))]) M (xs (i + 1)) (fun a => mk (S.2.2 0 a)) hR.rows hR.im) ⟨by decide +kernel, by decide +kernel⟩ ⟨hcs0, hss0⟩ 0 rfl rfl rfl rfl (Nat.le_of_ble_eq_true rfl) dL_law_1586) (pc' := 1589) rfl (fun z1 u2_1 hw_z1 => ?_)
  refine yy_istore C (L' := [(7, .int z1), (6, .int r1), (5, .int (nI i)), (0, .ref (b)), (1, .ref (ad 0)), (2, .ref (bd 0)), (3, .ref (o1)), (4, .ref (o2))]) dL_law_1589 (pc' := 1591) rfl (by decide) rfl ?_
  refine yy_aload_n C 5 dL_law_1591 (pc' := 1592) rfl rfl rfl ?_
  refine yc_i (yr_V C (As := []) (rest := []) lk_L_123 cd_X7_thrown im_X7_thrown se_X7_thrown (mX7_thrown l G B0 bd (wA G ad u1.1 ++ [(o1, .inl (G.2.2.1, 1, .inr (.inl u1.2))), (o2, .inl (G.2.2.2.2.2, 1, .inr (.inr (.inr (.inl fd)))))]) u2_1) ⟨by decide +kernel, by decide +kernel⟩ ⟨hcs0, hss0⟩ 0 rfl rfl rfl rfl (Nat.le_of_ble_eq_true rfl) dL_law_1592) (pc' := 1595) rfl (fun z2 _ hw_z2 => ?_)
  subst hw_z2
  have hop := op_answer hR hw1 hw_z1
  refine yy_iload C 1 dL_law_1595 (pc' := 1597) rfl rfl ?_
  rw [← hop.1]
  refine yy_icmp_eq C dL_law_1597 (pc' := 1600) rfl (tgt := 1602) (by decide) (fun _ => ?_) (fun h_ => absurd rfl h_)
  refine yy_iload C 1 dL_law_1602 (pc' := 1604) rfl rfl ?_
  refine yy_if_ne C dL_law_1604 (pc' := 1607) rfl (tgt := 1619) (by decide) (fun _ => ?_) (fun c_k => ?_)
  · skip
    refine yy_goto C (tgt := 2020) dL_law_1619 (by decide) ?_
    refine yy_perm (w' := w1L G ad bd o1 o2 u1.1 u2_1 u1.2 fd) p21 ?_
    refine yy_loc [2, 3, 4, 5, 6, 7] rfl ?_
    exact K u1.1 u2_1 u1.2 fd hop.2.2
  · skip
    refine yy_aload_n C 6 dL_law_1607 (pc' := 1608) rfl rfl rfl ?_
    refine yy_iconst C (v := (nI 0)) dL_law_1608 (pc' := 1609) rfl (by decide) ?_
    refine yy_lald C 50 dL_law_1609 (pc' := 1610) rfl rfl (by decide) (by decide) ?_
    refine yy_iload C 0 dL_law_1610 (pc' := 1612) rfl rfl ?_
    refine yy_i2l C (v := z1.toInt64) dL_law_1612 (pc' := 1613) rfl rfl ?_
    refine yy_lcmp C dL_law_1613 (pc' := 1614) rfl ?_
    refine yy_eqi (show _ = nI 0 by rw [hop.2.1 c_k]; exact lg_self _) ?_
    refine yy_if_eq C dL_law_1614 (pc' := 1617) rfl (tgt := 1619) (by decide) (fun _ => ?_) (fun h_ => absurd rfl h_)
    refine yy_goto C (tgt := 2020) dL_law_1619 (by decide) ?_
    refine yy_perm (w' := w1L G ad bd o1 o2 u1.1 u2_1 u1.2 fd) p21 ?_
    refine yy_loc [2, 3, 4, 5, 6, 7] rfl ?_
    exact K u1.1 u2_1 u1.2 fd hop.2.2

set_option maxHeartbeats 4000000 in
set_option maxRecDepth 100000 in
theorem law_23 (op_withdraw : Op_withdraw) {p : Program} {l : Launch} (hl0 : l.stackTraces = false) {e : Env} {s : State} {m : MethodId} {args : Array Value} {below : List Frame} {meth : Method} {c : Code} {G : gG} {B0 : Nat} {Q : State → Prop} (C : CX p s m args meth c cL_law RL 8 G B0) {b L0 : Nat} {xs : Nat → Int32} (hX : va_X b L0 xs s s.heap) (hbl : b < s.heap.size) (hbB : b < B0) (hL : L0 ≤ 2560) {i : Nat} (hi : i + 5 ≤ L0) {ad bd : Nat → Nat} {o1 o2 cs ss : Nat} {S : SA} {M : SM} {fo : Nat → Int64} {fd : Nat → UInt64} (hR : Rel S M) (hcs : cs + 1 ≤ room_1.cells) (hss : ss + 6 ≤ room_1.slots) (K : ∀ (S' : SA) (M' : SM) (fo' : Nat → Int64) (fd' : Nat → UInt64), Rel S' M' → YY p l e room_1 s m args below meth c G B0 8 Q 2020 [(5, .int (nI i)), (0, .ref (b)), (1, .ref (ad 0)), (2, .ref (bd 0)), (3, .ref (o1)), (4, .ref (o2))] [] (w1L G ad bd o1 o2 S' M' fo' fd') (cs + 1) (ss + 6)) : YY p l e room_1 s m args below meth c G B0 8 Q 1622 [(5, .int (nI i)), (0, .ref (b)), (1, .ref (ad 0)), (2, .ref (bd 0)), (3, .ref (o1)), (4, .ref (o2))] [] (w1L G ad bd o1 o2 S M fo fd) cs ss := by
  have hi31 : L0 < 2 ^ 31 := by omega
  have hcs0 : cs + 1 + 0 ≤ room_1.cells := by omega
  have hss0 : ss + 6 + 0 ≤ room_1.slots := by omega
  refine yy_aload_n C 2 dL_law_1622 (pc' := 1623) rfl rfl rfl ?_
  refine yy_aload_n C 1 dL_law_1623 (pc' := 1624) rfl rfl rfl ?_
  refine yy_iload C 0 dL_law_1624 (pc' := 1626) rfl rfl ?_
  refine yy_iconst C (v := (nI 1)) dL_law_1626 (pc' := 1627) rfl (by decide) ?_
  refine yy_iadd C (v := (nI (i + 1))) dL_law_1627 (pc' := 1628) rfl (nI_add i 1) ?_
  refine yy_sld C hX hbl hbB (i := i + 1) (by omega) (by omega) dL_law_1628 (pc' := 1629) rfl ?_
  refine yy_aload_n C 4 dL_law_1629 (pc' := 1630) rfl rfl rfl ?_
  refine yc_i (yr_SW C (As := [.ref (ad 0), .int (xs (i + 1)), .ref (o1)]) (rest := []) lk_L_197 cd_L_withdraw st_L_withdraw (mL_withdraw l hl0 G B0 ad ((o2, .inl (G.2.2.2.2.2, 1, .inr (.inr (.inr (.inl fd))))) :: wM G bd M) S (xs (i + 1)) hR.1 o1 fo) ⟨by decide +kernel, by decide +kernel⟩ ⟨hcs, hss⟩ rfl rfl (Nat.le_of_ble_eq_true rfl) dL_law_1630) (pc' := 1633) rfl (fun r1 u1 hw1 => ?_)
  refine yy_istore C (L' := [(6, .int r1), (5, .int (nI i)), (0, .ref (b)), (1, .ref (ad 0)), (2, .ref (bd 0)), (3, .ref (o1)), (4, .ref (o2))]) dL_law_1633 (pc' := 1635) rfl (by decide) rfl ?_
  refine yy_aload_n C 4 dL_law_1635 (pc' := 1636) rfl rfl rfl ?_
  refine yy_aload_n C 2 dL_law_1636 (pc' := 1637) rfl rfl rfl ?_
  refine yy_iload C 1 dL_law_1637 (pc' := 1639) rfl rfl ?_
  refine yy_iconst C (v := (nI 1)) dL_law_1639 (pc' := 1640) rfl (by decide) ?_
  refine yy_iadd C (v := (nI (i + 1))) dL_law_1640 (pc' := 1641) rfl (nI_add i 1) ?_
  refine yy_sld C hX hbl hbB (i := i + 1) (by omega) (by omega) dL_law_1641 (pc' := 1642) rfl ?_
  refine yy_perm (w' := w2L G ad bd o1 o2 u1.1 M u1.2 fd) p12 ?_
  refine yc_i (yr_V C (As := [.int (xs (i + 1))]) (rest := []) lk_L_199 cd_X7_withdraw im_X7_withdraw se_X7_withdraw (mX7_withdraw l G B0 bd (wA G ad u1.1 ++ [(o1, .inl (G.2.2.1, 1, .inr (.inl u1.2))), (o2, .inl (G.2.2.2.2.2, 1, .inr (.inr (.inr (.inl fd)))))]) M (xs (i + 1)) hR.im) ⟨by decide +kernel, by decide +kernel⟩ ⟨hcs0, hss0⟩ 0 rfl rfl rfl rfl (Nat.le_of_ble_eq_true rfl) dL_law_1642) (pc' := 1645) rfl (fun z1 u2_1 hw_z1 => ?_)
  refine yy_istore C (L' := [(7, .int z1), (6, .int r1), (5, .int (nI i)), (0, .ref (b)), (1, .ref (ad 0)), (2, .ref (bd 0)), (3, .ref (o1)), (4, .ref (o2))]) dL_law_1645 (pc' := 1647) rfl (by decide) rfl ?_
  refine yy_aload_n C 5 dL_law_1647 (pc' := 1648) rfl rfl rfl ?_
  refine yc_i (yr_V C (As := []) (rest := []) lk_L_123 cd_X7_thrown im_X7_thrown se_X7_thrown (mX7_thrown l G B0 bd (wA G ad u1.1 ++ [(o1, .inl (G.2.2.1, 1, .inr (.inl u1.2))), (o2, .inl (G.2.2.2.2.2, 1, .inr (.inr (.inr (.inl fd)))))]) u2_1) ⟨by decide +kernel, by decide +kernel⟩ ⟨hcs0, hss0⟩ 0 rfl rfl rfl rfl (Nat.le_of_ble_eq_true rfl) dL_law_1648) (pc' := 1651) rfl (fun z2 _ hw_z2 => ?_)
  subst hw_z2
  have hop := op_withdraw hR hw1 hw_z1
  refine yy_iload C 1 dL_law_1651 (pc' := 1653) rfl rfl ?_
  rw [← hop.1]
  refine yy_icmp_eq C dL_law_1653 (pc' := 1656) rfl (tgt := 1658) (by decide) (fun _ => ?_) (fun h_ => absurd rfl h_)
  refine yy_iload C 1 dL_law_1658 (pc' := 1660) rfl rfl ?_
  refine yy_if_ne C dL_law_1660 (pc' := 1663) rfl (tgt := 1675) (by decide) (fun _ => ?_) (fun c_k => ?_)
  · skip
    refine yy_goto C (tgt := 2020) dL_law_1675 (by decide) ?_
    refine yy_perm (w' := w1L G ad bd o1 o2 u1.1 u2_1 u1.2 fd) p21 ?_
    refine yy_loc [2, 3, 4, 5, 6, 7] rfl ?_
    exact K u1.1 u2_1 u1.2 fd hop.2.2
  · skip
    refine yy_aload_n C 6 dL_law_1663 (pc' := 1664) rfl rfl rfl ?_
    refine yy_iconst C (v := (nI 0)) dL_law_1664 (pc' := 1665) rfl (by decide) ?_
    refine yy_lald C 50 dL_law_1665 (pc' := 1666) rfl rfl (by decide) (by decide) ?_
    refine yy_iload C 0 dL_law_1666 (pc' := 1668) rfl rfl ?_
    refine yy_i2l C (v := z1.toInt64) dL_law_1668 (pc' := 1669) rfl rfl ?_
    refine yy_lcmp C dL_law_1669 (pc' := 1670) rfl ?_
    refine yy_eqi (show _ = nI 0 by rw [hop.2.1 c_k]; exact lg_self _) ?_
    refine yy_if_eq C dL_law_1670 (pc' := 1673) rfl (tgt := 1675) (by decide) (fun _ => ?_) (fun h_ => absurd rfl h_)
    refine yy_goto C (tgt := 2020) dL_law_1675 (by decide) ?_
    refine yy_perm (w' := w1L G ad bd o1 o2 u1.1 u2_1 u1.2 fd) p21 ?_
    refine yy_loc [2, 3, 4, 5, 6, 7] rfl ?_
    exact K u1.1 u2_1 u1.2 fd hop.2.2
