def td3 (q c_ : Int32) : Int32 × Int32 :=
  if c_ = (nI 8388608) then (let r1 := fl34 q
  let r2 := fl2 (-r1)
  let r3 := tbG (gIx r1)
  let r4 := ropF (r3 + 1) (((c_ <<< ((nI 2) &&& 31)).toInt64) <<< (((q + r2) + (nI 33)).toInt64 &&& 63))
  let r5 := ropF (r3 + 1) ((((c_ <<< ((nI 2) &&& 31)).toInt64) - 1) <<< (((q + r2) + (nI 33)).toInt64 &&& 63))
  let r6 := ropF (r3 + 1) ((((c_ <<< ((nI 2) &&& 31)).toInt64) + (2)) <<< (((q + r2) + (nI 33)).toInt64 &&& 63))
  if (r4 >>> ((nI 2) &&& 31)) < (nI 100) then (if ((r4 >>> ((nI 2) &&& 31)) <<< ((nI 2) &&& 31)) < (r5 + (c_ &&& (nI 1))) then (if r6 < ((((r4 >>> ((nI 2) &&& 31)) + (nI 1)) <<< ((nI 2) &&& 31)) + (c_ &&& (nI 1))) then (if (r4 - (((r4 >>> ((nI 2) &&& 31)) + ((r4 >>> ((nI 2) &&& 31)) + (nI 1))) <<< ((nI 1) &&& 31))) < 0 then (((r4 >>> ((nI 2) &&& 31)), (r1 + (nI 0)))) else (if (r4 - (((r4 >>> ((nI 2) &&& 31)) + ((r4 >>> ((nI 2) &&& 31)) + (nI 1))) <<< ((nI 1) &&& 31))) = 0 then (if ((r4 >>> ((nI 2) &&& 31)) &&& (nI 1)) = 0 then (((r4 >>> ((nI 2) &&& 31)), (r1 + (nI 0)))) else ((((r4 >>> ((nI 2) &&& 31)) + (nI 1)), (r1 + (nI 0))))) else ((((r4 >>> ((nI 2) &&& 31)) + (nI 1)), (r1 + (nI 0)))))) else ((((r4 >>> ((nI 2) &&& 31)) + (nI 1)), (r1 + (nI 0))))) else (if r6 < ((((r4 >>> ((nI 2) &&& 31)) + (nI 1)) <<< ((nI 2) &&& 31)) + (c_ &&& (nI 1))) then (((r4 >>> ((nI 2) &&& 31)), (r1 + (nI 0)))) else (if (r4 - (((r4 >>> ((nI 2) &&& 31)) + ((r4 >>> ((nI 2) &&& 31)) + (nI 1))) <<< ((nI 1) &&& 31))) < 0 then (((r4 >>> ((nI 2) &&& 31)), (r1 + (nI 0)))) else (if (r4 - (((r4 >>> ((nI 2) &&& 31)) + ((r4 >>> ((nI 2) &&& 31)) + (nI 1))) <<< ((nI 1) &&& 31))) = 0 then (if ((r4 >>> ((nI 2) &&& 31)) &&& (nI 1)) = 0 then (((r4 >>> ((nI 2) &&& 31)), (r1 + (nI 0)))) else ((((r4 >>> ((nI 2) &&& 31)) + (nI 1)), (r1 + (nI 0))))) else ((((r4 >>> ((nI 2) &&& 31)) + (nI 1)), (r1 + (nI 0)))))))) else (if (((nI 10) * ((ush (((r4 >>> ((nI 2) &&& 31)).toInt64) * (1717986919)) (nI 34)).toInt32)) <<< ((nI 2) &&& 31)) < (r5 + (c_ &&& (nI 1))) then (if r6 < (((((nI 10) * ((ush (((r4 >>> ((nI 2) &&& 31)).toInt64) * (1717986919)) (nI 34)).toInt32)) + (nI 10)) <<< ((nI 2) &&& 31)) + (c_ &&& (nI 1))) then (if ((r4 >>> ((nI 2) &&& 31)) <<< ((nI 2) &&& 31)) < (r5 + (c_ &&& (nI 1))) then (if r6 < ((((r4 >>> ((nI 2) &&& 31)) + (nI 1)) <<< ((nI 2) &&& 31)) + (c_ &&& (nI 1))) then (if (r4 - (((r4 >>> ((nI 2) &&& 31)) + ((r4 >>> ((nI 2) &&& 31)) + (nI 1))) <<< ((nI 1) &&& 31))) < 0 then (((r4 >>> ((nI 2) &&& 31)), (r1 + (nI 0)))) else (if (r4 - (((r4 >>> ((nI 2) &&& 31)) + ((r4 >>> ((nI 2) &&& 31)) + (nI 1))) <<< ((nI 1) &&& 31))) = 0 then (if ((r4 >>> ((nI 2) &&& 31)) &&& (nI 1)) = 0 then (((r4 >>> ((nI 2) &&& 31)), (r1 + (nI 0)))) else ((((r4 >>> ((nI 2) &&& 31)) + (nI 1)), (r1 + (nI 0))))) else ((((r4 >>> ((nI 2) &&& 31)) + (nI 1)), (r1 + (nI 0)))))) else ((((r4 >>> ((nI 2) &&& 31)) + (nI 1)), (r1 + (nI 0))))) else (if r6 < ((((r4 >>> ((nI 2) &&& 31)) + (nI 1)) <<< ((nI 2) &&& 31)) + (c_ &&& (nI 1))) then (((r4 >>> ((nI 2) &&& 31)), (r1 + (nI 0)))) else (if (r4 - (((r4 >>> ((nI 2) &&& 31)) + ((r4 >>> ((nI 2) &&& 31)) + (nI 1))) <<< ((nI 1) &&& 31))) < 0 then (((r4 >>> ((nI 2) &&& 31)), (r1 + (nI 0)))) else (if (r4 - (((r4 >>> ((nI 2) &&& 31)) + ((r4 >>> ((nI 2) &&& 31)) + (nI 1))) <<< ((nI 1) &&& 31))) = 0 then (if ((r4 >>> ((nI 2) &&& 31)) &&& (nI 1)) = 0 then (((r4 >>> ((nI 2) &&& 31)), (r1 + (nI 0)))) else ((((r4 >>> ((nI 2) &&& 31)) + (nI 1)), (r1 + (nI 0))))) else ((((r4 >>> ((nI 2) &&& 31)) + (nI 1)), (r1 + (nI 0)))))))) else (((((nI 10) * ((ush (((r4 >>> ((nI 2) &&& 31)).toInt64) * (1717986919)) (nI 34)).toInt32)) + (nI 10)), r1))) else (if r6 < (((((nI 10) * ((ush (((r4 >>> ((nI 2) &&& 31)).toInt64) * (1717986919)) (nI 34)).toInt32)) + (nI 10)) <<< ((nI 2) &&& 31)) + (c_ &&& (nI 1))) then ((((nI 10) * ((ush (((r4 >>> ((nI 2) &&& 31)).toInt64) * (1717986919)) (nI 34)).toInt32)), r1)) else (if ((r4 >>> ((nI 2) &&& 31)) <<< ((nI 2) &&& 31)) < (r5 + (c_ &&& (nI 1))) then (if r6 < ((((r4 >>> ((nI 2) &&& 31)) + (nI 1)) <<< ((nI 2) &&& 31)) + (c_ &&& (nI 1))) then (if (r4 - (((r4 >>> ((nI 2) &&& 31)) + ((r4 >>> ((nI 2) &&& 31)) + (nI 1))) <<< ((nI 1) &&& 31))) < 0 then (((r4 >>> ((nI 2) &&& 31)), (r1 + (nI 0)))) else (if (r4 - (((r4 >>> ((nI 2) &&& 31)) + ((r4 >>> ((nI 2) &&& 31)) + (nI 1))) <<< ((nI 1) &&& 31))) = 0 then (if ((r4 >>> ((nI 2) &&& 31)) &&& (nI 1)) = 0 then (((r4 >>> ((nI 2) &&& 31)), (r1 + (nI 0)))) else ((((r4 >>> ((nI 2) &&& 31)) + (nI 1)), (r1 + (nI 0))))) else ((((r4 >>> ((nI 2) &&& 31)) + (nI 1)), (r1 + (nI 0)))))) else ((((r4 >>> ((nI 2) &&& 31)) + (nI 1)), (r1 + (nI 0))))) else (if r6 < ((((r4 >>> ((nI 2) &&& 31)) + (nI 1)) <<< ((nI 2) &&& 31)) + (c_ &&& (nI 1))) then (((r4 >>> ((nI 2) &&& 31)), (r1 + (nI 0)))) else (if (r4 - (((r4 >>> ((nI 2) &&& 31)) + ((r4 >>> ((nI 2) &&& 31)) + (nI 1))) <<< ((nI 1) &&& 31))) < 0 then (((r4 >>> ((nI 2) &&& 31)), (r1 + (nI 0)))) else (if (r4 - (((r4 >>> ((nI 2) &&& 31)) + ((r4 >>> ((nI 2) &&& 31)) + (nI 1))) <<< ((nI 1) &&& 31))) = 0 then (if ((r4 >>> ((nI 2) &&& 31)) &&& (nI 1)) = 0 then (((r4 >>> ((nI 2) &&& 31)), (r1 + (nI 0)))) else ((((r4 >>> ((nI 2) &&& 31)) + (nI 1)), (r1 + (nI 0))))) else ((((r4 >>> ((nI 2) &&& 31)) + (nI 1)), (r1 + (nI 0))))))))))) else (let r1 := fl10 q
  let r2 := fl2 (-r1)
  let r3 := tbG (gIx r1)
  let r4 := ropF (r3 + 1) (((c_ <<< ((nI 2) &&& 31)).toInt64) <<< (((q + r2) + (nI 33)).toInt64 &&& 63))
  let r5 := ropF (r3 + 1) ((((c_ <<< ((nI 2) &&& 31)).toInt64) - (2)) <<< (((q + r2) + (nI 33)).toInt64 &&& 63))
  let r6 := ropF (r3 + 1) ((((c_ <<< ((nI 2) &&& 31)).toInt64) + (2)) <<< (((q + r2) + (nI 33)).toInt64 &&& 63))
  if (r4 >>> ((nI 2) &&& 31)) < (nI 100) then (if ((r4 >>> ((nI 2) &&& 31)) <<< ((nI 2) &&& 31)) < (r5 + (c_ &&& (nI 1))) then (if r6 < ((((r4 >>> ((nI 2) &&& 31)) + (nI 1)) <<< ((nI 2) &&& 31)) + (c_ &&& (nI 1))) then (if (r4 - (((r4 >>> ((nI 2) &&& 31)) + ((r4 >>> ((nI 2) &&& 31)) + (nI 1))) <<< ((nI 1) &&& 31))) < 0 then (((r4 >>> ((nI 2) &&& 31)), (r1 + (nI 0)))) else (if (r4 - (((r4 >>> ((nI 2) &&& 31)) + ((r4 >>> ((nI 2) &&& 31)) + (nI 1))) <<< ((nI 1) &&& 31))) = 0 then (if ((r4 >>> ((nI 2) &&& 31)) &&& (nI 1)) = 0 then (((r4 >>> ((nI 2) &&& 31)), (r1 + (nI 0)))) else ((((r4 >>> ((nI 2) &&& 31)) + (nI 1)), (r1 + (nI 0))))) else ((((r4 >>> ((nI 2) &&& 31)) + (nI 1)), (r1 + (nI 0)))))) else ((((r4 >>> ((nI 2) &&& 31)) + (nI 1)), (r1 + (nI 0))))) else (if r6 < ((((r4 >>> ((nI 2) &&& 31)) + (nI 1)) <<< ((nI 2) &&& 31)) + (c_ &&& (nI 1))) then (((r4 >>> ((nI 2) &&& 31)), (r1 + (nI 0)))) else (if (r4 - (((r4 >>> ((nI 2) &&& 31)) + ((r4 >>> ((nI 2) &&& 31)) + (nI 1))) <<< ((nI 1) &&& 31))) < 0 then (((r4 >>> ((nI 2) &&& 31)), (r1 + (nI 0)))) else (if (r4 - (((r4 >>> ((nI 2) &&& 31)) + ((r4 >>> ((nI 2) &&& 31)) + (nI 1))) <<< ((nI 1) &&& 31))) = 0 then (if ((r4 >>> ((nI 2) &&& 31)) &&& (nI 1)) = 0 then (((r4 >>> ((nI 2) &&& 31)), (r1 + (nI 0)))) else ((((r4 >>> ((nI 2) &&& 31)) + (nI 1)), (r1 + (nI 0))))) else ((((r4 >>> ((nI 2) &&& 31)) + (nI 1)), (r1 + (nI 0)))))))) else (if (((nI 10) * ((ush (((r4 >>> ((nI 2) &&& 31)).toInt64) * (1717986919)) (nI 34)).toInt32)) <<< ((nI 2) &&& 31)) < (r5 + (c_ &&& (nI 1))) then (if r6 < (((((nI 10) * ((ush (((r4 >>> ((nI 2) &&& 31)).toInt64) * (1717986919)) (nI 34)).toInt32)) + (nI 10)) <<< ((nI 2) &&& 31)) + (c_ &&& (nI 1))) then (if ((r4 >>> ((nI 2) &&& 31)) <<< ((nI 2) &&& 31)) < (r5 + (c_ &&& (nI 1))) then (if r6 < ((((r4 >>> ((nI 2) &&& 31)) + (nI 1)) <<< ((nI 2) &&& 31)) + (c_ &&& (nI 1))) then (if (r4 - (((r4 >>> ((nI 2) &&& 31)) + ((r4 >>> ((nI 2) &&& 31)) + (nI 1))) <<< ((nI 1) &&& 31))) < 0 then (((r4 >>> ((nI 2) &&& 31)), (r1 + (nI 0)))) else (if (r4 - (((r4 >>> ((nI 2) &&& 31)) + ((r4 >>> ((nI 2) &&& 31)) + (nI 1))) <<< ((nI 1) &&& 31))) = 0 then (if ((r4 >>> ((nI 2) &&& 31)) &&& (nI 1)) = 0 then (((r4 >>> ((nI 2) &&& 31)), (r1 + (nI 0)))) else ((((r4 >>> ((nI 2) &&& 31)) + (nI 1)), (r1 + (nI 0))))) else ((((r4 >>> ((nI 2) &&& 31)) + (nI 1)), (r1 + (nI 0)))))) else ((((r4 >>> ((nI 2) &&& 31)) + (nI 1)), (r1 + (nI 0))))) else (if r6 < ((((r4 >>> ((nI 2) &&& 31)) + (nI 1)) <<< ((nI 2) &&& 31)) + (c_ &&& (nI 1))) then (((r4 >>> ((nI 2) &&& 31)), (r1 + (nI 0)))) else (if (r4 - (((r4 >>> ((nI 2) &&& 31)) + ((r4 >>> ((nI 2) &&& 31)) + (nI 1))) <<< ((nI 1) &&& 31))) < 0 then (((r4 >>> ((nI 2) &&& 31)), (r1 + (nI 0)))) else (if (r4 - (((r4 >>> ((nI 2) &&& 31)) + ((r4 >>> ((nI 2) &&& 31)) + (nI 1))) <<< ((nI 1) &&& 31))) = 0 then (if ((r4 >>> ((nI 2) &&& 31)) &&& (nI 1)) = 0 then (((r4 >>> ((nI 2) &&& 31)), (r1 + (nI 0)))) else ((((r4 >>> ((nI 2) &&& 31)) + (nI 1)), (r1 + (nI 0))))) else ((((r4 >>> ((nI 2) &&& 31)) + (nI 1)), (r1 + (nI 0)))))))) else (((((nI 10) * ((ush (((r4 >>> ((nI 2) &&& 31)).toInt64) * (1717986919)) (nI 34)).toInt32)) + (nI 10)), r1))) else (if r6 < (((((nI 10) * ((ush (((r4 >>> ((nI 2) &&& 31)).toInt64) * (1717986919)) (nI 34)).toInt32)) + (nI 10)) <<< ((nI 2) &&& 31)) + (c_ &&& (nI 1))) then ((((nI 10) * ((ush (((r4 >>> ((nI 2) &&& 31)).toInt64) * (1717986919)) (nI 34)).toInt32)), r1)) else (if ((r4 >>> ((nI 2) &&& 31)) <<< ((nI 2) &&& 31)) < (r5 + (c_ &&& (nI 1))) then (if r6 < ((((r4 >>> ((nI 2) &&& 31)) + (nI 1)) <<< ((nI 2) &&& 31)) + (c_ &&& (nI 1))) then (if (r4 - (((r4 >>> ((nI 2) &&& 31)) + ((r4 >>> ((nI 2) &&& 31)) + (nI 1))) <<< ((nI 1) &&& 31))) < 0 then (((r4 >>> ((nI 2) &&& 31)), (r1 + (nI 0)))) else (if (r4 - (((r4 >>> ((nI 2) &&& 31)) + ((r4 >>> ((nI 2) &&& 31)) + (nI 1))) <<< ((nI 1) &&& 31))) = 0 then (if ((r4 >>> ((nI 2) &&& 31)) &&& (nI 1)) = 0 then (((r4 >>> ((nI 2) &&& 31)), (r1 + (nI 0)))) else ((((r4 >>> ((nI 2) &&& 31)) + (nI 1)), (r1 + (nI 0))))) else ((((r4 >>> ((nI 2) &&& 31)) + (nI 1)), (r1 + (nI 0)))))) else ((((r4 >>> ((nI 2) &&& 31)) + (nI 1)), (r1 + (nI 0))))) else (if r6 < ((((r4 >>> ((nI 2) &&& 31)) + (nI 1)) <<< ((nI 2) &&& 31)) + (c_ &&& (nI 1))) then (((r4 >>> ((nI 2) &&& 31)), (r1 + (nI 0)))) else (if (r4 - (((r4 >>> ((nI 2) &&& 31)) + ((r4 >>> ((nI 2) &&& 31)) + (nI 1))) <<< ((nI 1) &&& 31))) < 0 then (((r4 >>> ((nI 2) &&& 31)), (r1 + (nI 0)))) else (if (r4 - (((r4 >>> ((nI 2) &&& 31)) + ((r4 >>> ((nI 2) &&& 31)) + (nI 1))) <<< ((nI 1) &&& 31))) = 0 then (if ((r4 >>> ((nI 2) &&& 31)) &&& (nI 1)) = 0 then (((r4 >>> ((nI 2) &&& 31)), (r1 + (nI 0)))) else ((((r4 >>> ((nI 2) &&& 31)) + (nI 1)), (r1 + (nI 0))))) else ((((r4 >>> ((nI 2) &&& 31)) + (nI 1)), (r1 + (nI 0)))))))))))
abbrev rJx40b00_toDecimal_cabcc : Room := { frames := 5, cells := 0, slots := 0, locals := 132 }
set_option maxHeartbeats 4000000 in
set_option maxRecDepth 100000 in
theorem mJx40b00_toDecimal_cabcc (l : Launch) (G : gG) (B0 : Nat) (fd fb : Nat) (a : Nat → Int32) (F : va_W) (q c_ : Int32) (hq : ¬ q = -149) (hg1 : gIx (fl10 q) < 1234) (hg2 : gIx (fl34 q) < 1234) (hok : okTC (td3 q c_).1 (td3 q c_).2) : Met l yJx40b00_toDecimal_cabcc (Cond.code yJx40b00_toDecimal_cabcc cJx40b00_toDecimal_cabcc 23 (some .int) :: WG) rJx40b00_toDecimal_cabcc (va_Pc [.ref (fd), .int q, .int c_, .int (nI 0)] (PR G B0 (((fd, .inr (2, [.ref (fb), .int (-1)])) :: (fb, .inl (G.2.2.2.1, 15, .inl a)) :: F)))) (va_Qi (fun (r : Int32) (_ : Unit) => r = nI 0) (fun (_ : Unit) (t_ : State) => va_P G.1 vwCl (((fd, .inr (2, [.ref (fb), .int (nI (tcR a (td3 q c_).1 (td3 q c_).2))])) :: (fb, .inl (G.2.2.2.1, 15, .inl (tcA a (td3 q c_).1 (td3 q c_).2))) :: F)) t_.heap ∧ va_D (fun q => B0 ≤ q) (((fd, .inr (2, [.ref (fb), .int (nI (tcR a (td3 q c_).1 (td3 q c_).2))])) :: (fb, .inl (G.2.2.2.1, 15, .inl (tcA a (td3 q c_).1 (td3 q c_).2))) :: F))) (fun q => B0 ≤ q)) rJx40b00_toDecimal_cabcc.cells rJx40b00_toDecimal_cabcc.slots (fun q => B0 ≤ q) := by
  refine met_of RJx40b00 [(0, .ref (fd)), (1, .int q), (2, .int c_), (3, .int (nI 0))] rfl (by decide) (Nat.le_of_ble_eq_true rfl) rfl ?_
  intro p e s m args below meth c C hr hnm
  refine yq ?_
  intro QQ hQ
  refine yy_iload_n C 2 dJx40b00_toDecimal_cabcc_0 (pc' := 1) rfl rfl rfl ?_
  refine yy_iconst C (v := (nI 1)) dJx40b00_toDecimal_cabcc_1 (pc' := 2) rfl (by decide) ?_
  refine yy_iand C (v := (c_ &&& (nI 1))) dJx40b00_toDecimal_cabcc_2 (pc' := 3) rfl rfl ?_
  refine yy_istore C (L' := [(4, .int (c_ &&& (nI 1))), (0, .ref (fd)), (1, .int q), (2, .int c_), (3, .int (nI 0))]) dJx40b00_toDecimal_cabcc_3 (pc' := 5) rfl (by decide) rfl ?_
  refine yy_iload_n C 3 dJx40b00_toDecimal_cabcc_5 (pc' := 6) rfl rfl rfl ?_
  refine yy_iconst C (v := (nI 2)) dJx40b00_toDecimal_cabcc_6 (pc' := 7) rfl (by decide) ?_
  refine yy_ishl C (v := (c_ <<< ((nI 2) &&& 31))) dJx40b00_toDecimal_cabcc_7 (pc' := 8) rfl rfl ?_
  refine yy_i2l C (v := ((c_ <<< ((nI 2) &&& 31)).toInt64)) dJx40b00_toDecimal_cabcc_8 (pc' := 9) rfl rfl ?_
  refine yy_lstore C (L' := [(5, .long ((c_ <<< ((nI 2) &&& 31)).toInt64)), (4, .int (c_ &&& (nI 1))), (0, .ref (fd)), (1, .int q), (2, .int c_), (3, .int (nI 0))]) dJx40b00_toDecimal_cabcc_9 (pc' := 11) rfl (by decide) rfl ?_
  refine yy_lload C 0 dJx40b00_toDecimal_cabcc_11 (pc' := 13) rfl rfl ?_
  refine yy_ldc2 C dJx40b00_toDecimal_cabcc_13 (pc' := 16) rfl lg_Jx40b00_80 ?_
  refine yy_ladd C (v := (((c_ <<< ((nI 2) &&& 31)).toInt64) + (2))) dJx40b00_toDecimal_cabcc_16 (pc' := 17) rfl rfl ?_
  refine yy_lstore C (L' := [(7, .long (((c_ <<< ((nI 2) &&& 31)).toInt64) + (2))), (5, .long ((c_ <<< ((nI 2) &&& 31)).toInt64)), (4, .int (c_ &&& (nI 1))), (0, .ref (fd)), (1, .int q), (2, .int c_), (3, .int (nI 0))]) dJx40b00_toDecimal_cabcc_17 (pc' := 19) rfl (by decide) rfl ?_
  refine yy_iload_n C 5 dJx40b00_toDecimal_cabcc_19 (pc' := 20) rfl rfl rfl ?_
  refine yy_ldci C (v := (nI 8388608)) dJx40b00_toDecimal_cabcc_20 (pc' := 22) rfl li_Jx40b00_72 ?_
  refine yy_icmp_eq C dJx40b00_toDecimal_cabcc_22 (pc' := 25) rfl (tgt := 29) (by decide) (fun c_22 => ?_) (fun c_22 => ?_)
  · skip
    refine yy_iconst C (v := (nI 0)) dJx40b00_toDecimal_cabcc_29 (pc' := 30) rfl (by decide) ?_
    refine yy_iload_n C 4 dJx40b00_toDecimal_cabcc_30 (pc' := 31) rfl rfl rfl ?_
    refine yy_sipush C (v := (-149)) dJx40b00_toDecimal_cabcc_31 (pc' := 34) rfl (by decide) ?_
    refine yy_icmp_ne C dJx40b00_toDecimal_cabcc_34 (pc' := 37) rfl (tgt := 41) (by decide) (fun c_34 => ?_) (fun c_34 => ?_)
    · skip
      refine yy_iconst C (v := (nI 0)) dJx40b00_toDecimal_cabcc_41 (pc' := 42) rfl (by decide) ?_
      refine yy_ior C (v := (nI 0)) dJx40b00_toDecimal_cabcc_42 (pc' := 43) rfl (by decide) ?_
      refine yy_if_eq C dJx40b00_toDecimal_cabcc_43 (pc' := 46) rfl (tgt := 63) (by decide) (fun c_43 => ?_) (fun c_43 => ?_)
      · skip
        refine yy_lload C 1 dJx40b00_toDecimal_cabcc_63 (pc' := 65) rfl rfl ?_
        refine yy_lconst C (v := 1) dJx40b00_toDecimal_cabcc_65 (pc' := 66) rfl (by decide) ?_
        refine yy_lsub C (v := (((c_ <<< ((nI 2) &&& 31)).toInt64) - 1)) dJx40b00_toDecimal_cabcc_66 (pc' := 67) rfl rfl ?_
        refine yy_lstore C (L' := [(9, .long (((c_ <<< ((nI 2) &&& 31)).toInt64) - 1)), (7, .long (((c_ <<< ((nI 2) &&& 31)).toInt64) + (2))), (5, .long ((c_ <<< ((nI 2) &&& 31)).toInt64)), (4, .int (c_ &&& (nI 1))), (0, .ref (fd)), (1, .int q), (2, .int c_), (3, .int (nI 0))]) dJx40b00_toDecimal_cabcc_67 (pc' := 69) rfl (by decide) rfl ?_
        refine yy_iload_n C 5 dJx40b00_toDecimal_cabcc_69 (pc' := 70) rfl rfl rfl ?_
        refine yc_i (yr_S C (n := 1) (As := [.int q]) (rest := []) lk_Jx40b00_88 cd_Jx25f51_flog10threeQuartersPow2_0f7a4 st_Jx25f51_flog10threeQuartersPow2_0f7a4 (mJx25f51_flog10threeQuartersPow2_0f7a4 l G B0 ((fd, .inr (2, [.ref (fb), .int (-1)])) :: (fb, .inl (G.2.2.2.1, 15, .inl a)) :: F) q) ⟨by decide, by decide⟩ ⟨by decide, by decide⟩ rfl rfl (Nat.le_of_ble_eq_true rfl) dJx40b00_toDecimal_cabcc_70) (pc' := 73) rfl (fun r1 _ hw1 => ?_)
        refine yy_istore C (L' := [(11, .int r1), (9, .long (((c_ <<< ((nI 2) &&& 31)).toInt64) - 1)), (7, .long (((c_ <<< ((nI 2) &&& 31)).toInt64) + (2))), (5, .long ((c_ <<< ((nI 2) &&& 31)).toInt64)), (4, .int (c_ &&& (nI 1))), (0, .ref (fd)), (1, .int q), (2, .int c_), (3, .int (nI 0))]) dJx40b00_toDecimal_cabcc_73 (pc' := 75) rfl (by decide) rfl ?_
        refine yy_iload_n C 6 dJx40b00_toDecimal_cabcc_75 (pc' := 76) rfl rfl rfl ?_
        refine yy_iload C 0 dJx40b00_toDecimal_cabcc_76 (pc' := 78) rfl rfl ?_
        refine yy_ineg C (v := (-r1)) dJx40b00_toDecimal_cabcc_78 (pc' := 79) rfl rfl ?_
        refine yc_i (yr_S C (n := 1) (As := [.int (-r1)]) (rest := [.int q]) lk_Jx40b00_91 cd_Jx25f51_flog2pow10_0f7a4 st_Jx25f51_flog2pow10_0f7a4 (mJx25f51_flog2pow10_0f7a4 l G B0 ((fd, .inr (2, [.ref (fb), .int (-1)])) :: (fb, .inl (G.2.2.2.1, 15, .inl a)) :: F) (-r1)) ⟨by decide, by decide⟩ ⟨by decide, by decide⟩ rfl rfl (Nat.le_of_ble_eq_true rfl) dJx40b00_toDecimal_cabcc_79) (pc' := 82) rfl (fun r2 _ hw2 => ?_)
        refine yy_iadd C (v := (q + r2)) dJx40b00_toDecimal_cabcc_82 (pc' := 83) rfl rfl ?_
        refine yy_bipush C (v := (nI 33)) dJx40b00_toDecimal_cabcc_83 (pc' := 85) rfl (by decide) ?_
        refine yy_iadd C (v := ((q + r2) + (nI 33))) dJx40b00_toDecimal_cabcc_85 (pc' := 86) rfl rfl ?_
        refine yy_istore C (L' := [(12, .int ((q + r2) + (nI 33))), (11, .int r1), (9, .long (((c_ <<< ((nI 2) &&& 31)).toInt64) - 1)), (7, .long (((c_ <<< ((nI 2) &&& 31)).toInt64) + (2))), (5, .long ((c_ <<< ((nI 2) &&& 31)).toInt64)), (4, .int (c_ &&& (nI 1))), (0, .ref (fd)), (1, .int q), (2, .int c_), (3, .int (nI 0))]) dJx40b00_toDecimal_cabcc_86 (pc' := 88) rfl (by decide) rfl ?_
        refine yy_iload C 1 dJx40b00_toDecimal_cabcc_88 (pc' := 90) rfl rfl ?_
        refine yc_l (yr_S C (n := 1) (As := [.int r1]) (rest := []) lk_Jx40b00_94 cd_Jx25f51_g1_3e8ac st_Jx25f51_g1_3e8ac (mJx25f51_g1_3e8ac l G B0 ((fd, .inr (2, [.ref (fb), .int (-1)])) :: (fb, .inl (G.2.2.2.1, 15, .inl a)) :: F) r1 (by subst hw1; exact hg2)) ⟨by decide, by decide⟩ ⟨by decide, by decide⟩ rfl rfl (Nat.le_of_ble_eq_true rfl) dJx40b00_toDecimal_cabcc_90) (pc' := 93) rfl (fun r3 _ hw3 => ?_)
        refine yy_lconst C (v := 1) dJx40b00_toDecimal_cabcc_93 (pc' := 94) rfl (by decide) ?_
        refine yy_ladd C (v := (r3 + 1)) dJx40b00_toDecimal_cabcc_94 (pc' := 95) rfl rfl ?_
        refine yy_lstore C (L' := [(13, .long (r3 + 1)), (12, .int ((q + r2) + (nI 33))), (11, .int r1), (9, .long (((c_ <<< ((nI 2) &&& 31)).toInt64) - 1)), (7, .long (((c_ <<< ((nI 2) &&& 31)).toInt64) + (2))), (5, .long ((c_ <<< ((nI 2) &&& 31)).toInt64)), (4, .int (c_ &&& (nI 1))), (0, .ref (fd)), (1, .int q), (2, .int c_), (3, .int (nI 0))]) dJx40b00_toDecimal_cabcc_95 (pc' := 97) rfl (by decide) rfl ?_
        refine yy_lload C 0 dJx40b00_toDecimal_cabcc_97 (pc' := 99) rfl rfl ?_
        refine yy_lload C 5 dJx40b00_toDecimal_cabcc_99 (pc' := 101) rfl rfl ?_
        refine yy_iload C 1 dJx40b00_toDecimal_cabcc_101 (pc' := 103) rfl rfl ?_
        refine yy_lshl C (v := (((c_ <<< ((nI 2) &&& 31)).toInt64) <<< (((q + r2) + (nI 33)).toInt64 &&& 63))) dJx40b00_toDecimal_cabcc_103 (pc' := 104) rfl rfl ?_
        refine yc_i (yr_S C (n := 2) (As := [.long (r3 + 1), .long (((c_ <<< ((nI 2) &&& 31)).toInt64) <<< (((q + r2) + (nI 33)).toInt64 &&& 63))]) (rest := []) lk_Jx40b00_98 cd_Jx40b00_rop_74951 st_Jx40b00_rop_74951 (mJx40b00_rop_74951 l G B0 ((fd, .inr (2, [.ref (fb), .int (-1)])) :: (fb, .inl (G.2.2.2.1, 15, .inl a)) :: F) (r3 + 1) (((c_ <<< ((nI 2) &&& 31)).toInt64) <<< (((q + r2) + (nI 33)).toInt64 &&& 63))) ⟨by decide, by decide⟩ ⟨by decide, by decide⟩ rfl rfl (Nat.le_of_ble_eq_true rfl) dJx40b00_toDecimal_cabcc_104) (pc' := 107) rfl (fun r4 _ hw4 => ?_)
        refine yy_istore C (L' := [(15, .int r4), (13, .long (r3 + 1)), (12, .int ((q + r2) + (nI 33))), (11, .int r1), (9, .long (((c_ <<< ((nI 2) &&& 31)).toInt64) - 1)), (7, .long (((c_ <<< ((nI 2) &&& 31)).toInt64) + (2))), (5, .long ((c_ <<< ((nI 2) &&& 31)).toInt64)), (4, .int (c_ &&& (nI 1))), (0, .ref (fd)), (1, .int q), (2, .int c_), (3, .int (nI 0))]) dJx40b00_toDecimal_cabcc_107 (pc' := 109) rfl (by decide) rfl ?_
        refine yy_lload C 1 dJx40b00_toDecimal_cabcc_109 (pc' := 111) rfl rfl ?_
        refine yy_lload C 4 dJx40b00_toDecimal_cabcc_111 (pc' := 113) rfl rfl ?_
        refine yy_iload C 2 dJx40b00_toDecimal_cabcc_113 (pc' := 115) rfl rfl ?_
        refine yy_lshl C (v := ((((c_ <<< ((nI 2) &&& 31)).toInt64) - 1) <<< (((q + r2) + (nI 33)).toInt64 &&& 63))) dJx40b00_toDecimal_cabcc_115 (pc' := 116) rfl rfl ?_
        refine yc_i (yr_S C (n := 2) (As := [.long (r3 + 1), .long ((((c_ <<< ((nI 2) &&& 31)).toInt64) - 1) <<< (((q + r2) + (nI 33)).toInt64 &&& 63))]) (rest := []) lk_Jx40b00_98 cd_Jx40b00_rop_74951 st_Jx40b00_rop_74951 (mJx40b00_rop_74951 l G B0 ((fd, .inr (2, [.ref (fb), .int (-1)])) :: (fb, .inl (G.2.2.2.1, 15, .inl a)) :: F) (r3 + 1) ((((c_ <<< ((nI 2) &&& 31)).toInt64) - 1) <<< (((q + r2) + (nI 33)).toInt64 &&& 63))) ⟨by decide, by decide⟩ ⟨by decide, by decide⟩ rfl rfl (Nat.le_of_ble_eq_true rfl) dJx40b00_toDecimal_cabcc_116) (pc' := 119) rfl (fun r5 _ hw5 => ?_)
        refine yy_istore C (L' := [(16, .int r5), (15, .int r4), (13, .long (r3 + 1)), (12, .int ((q + r2) + (nI 33))), (11, .int r1), (9, .long (((c_ <<< ((nI 2) &&& 31)).toInt64) - 1)), (7, .long (((c_ <<< ((nI 2) &&& 31)).toInt64) + (2))), (5, .long ((c_ <<< ((nI 2) &&& 31)).toInt64)), (4, .int (c_ &&& (nI 1))), (0, .ref (fd)), (1, .int q), (2, .int c_), (3, .int (nI 0))]) dJx40b00_toDecimal_cabcc_119 (pc' := 121) rfl (by decide) rfl ?_
        refine yy_lload C 2 dJx40b00_toDecimal_cabcc_121 (pc' := 123) rfl rfl ?_
        refine yy_lload C 6 dJx40b00_toDecimal_cabcc_123 (pc' := 125) rfl rfl ?_
        refine yy_iload C 3 dJx40b00_toDecimal_cabcc_125 (pc' := 127) rfl rfl ?_
        refine yy_lshl C (v := ((((c_ <<< ((nI 2) &&& 31)).toInt64) + (2)) <<< (((q + r2) + (nI 33)).toInt64 &&& 63))) dJx40b00_toDecimal_cabcc_127 (pc' := 128) rfl rfl ?_
        refine yc_i (yr_S C (n := 2) (As := [.long (r3 + 1), .long ((((c_ <<< ((nI 2) &&& 31)).toInt64) + (2)) <<< (((q + r2) + (nI 33)).toInt64 &&& 63))]) (rest := []) lk_Jx40b00_98 cd_Jx40b00_rop_74951 st_Jx40b00_rop_74951 (mJx40b00_rop_74951 l G B0 ((fd, .inr (2, [.ref (fb), .int (-1)])) :: (fb, .inl (G.2.2.2.1, 15, .inl a)) :: F) (r3 + 1) ((((c_ <<< ((nI 2) &&& 31)).toInt64) + (2)) <<< (((q + r2) + (nI 33)).toInt64 &&& 63))) ⟨by decide, by decide⟩ ⟨by decide, by decide⟩ rfl rfl (Nat.le_of_ble_eq_true rfl) dJx40b00_toDecimal_cabcc_128) (pc' := 131) rfl (fun r6 _ hw6 => ?_)
        refine yy_istore C (L' := [(17, .int r6), (16, .int r5), (15, .int r4), (13, .long (r3 + 1)), (12, .int ((q + r2) + (nI 33))), (11, .int r1), (9, .long (((c_ <<< ((nI 2) &&& 31)).toInt64) - 1)), (7, .long (((c_ <<< ((nI 2) &&& 31)).toInt64) + (2))), (5, .long ((c_ <<< ((nI 2) &&& 31)).toInt64)), (4, .int (c_ &&& (nI 1))), (0, .ref (fd)), (1, .int q), (2, .int c_), (3, .int (nI 0))]) dJx40b00_toDecimal_cabcc_131 (pc' := 133) rfl (by decide) rfl ?_
        refine yy_iload C 2 dJx40b00_toDecimal_cabcc_133 (pc' := 135) rfl rfl ?_
        refine yy_iconst C (v := (nI 2)) dJx40b00_toDecimal_cabcc_135 (pc' := 136) rfl (by decide) ?_
        refine yy_ishr C (v := (r4 >>> ((nI 2) &&& 31))) dJx40b00_toDecimal_cabcc_136 (pc' := 137) rfl rfl ?_
        refine yy_istore C (L' := [(18, .int (r4 >>> ((nI 2) &&& 31))), (17, .int r6), (16, .int r5), (15, .int r4), (13, .long (r3 + 1)), (12, .int ((q + r2) + (nI 33))), (11, .int r1), (9, .long (((c_ <<< ((nI 2) &&& 31)).toInt64) - 1)), (7, .long (((c_ <<< ((nI 2) &&& 31)).toInt64) + (2))), (5, .long ((c_ <<< ((nI 2) &&& 31)).toInt64)), (4, .int (c_ &&& (nI 1))), (0, .ref (fd)), (1, .int q), (2, .int c_), (3, .int (nI 0))]) dJx40b00_toDecimal_cabcc_137 (pc' := 139) rfl (by decide) rfl ?_
        refine yy_iload C 0 dJx40b00_toDecimal_cabcc_139 (pc' := 141) rfl rfl ?_
        refine yy_bipush C (v := (nI 100)) dJx40b00_toDecimal_cabcc_141 (pc' := 143) rfl (by decide) ?_
        refine yy_icmp_lt C dJx40b00_toDecimal_cabcc_143 (pc' := 146) rfl (tgt := 233) (by decide) (fun c_143 => ?_) (fun c_143 => ?_)
        · skip
          refine yy_iload C 0 dJx40b00_toDecimal_cabcc_233 (pc' := 235) rfl rfl ?_
          refine yy_iconst C (v := (nI 1)) dJx40b00_toDecimal_cabcc_235 (pc' := 236) rfl (by decide) ?_
          refine yy_iadd C (v := ((r4 >>> ((nI 2) &&& 31)) + (nI 1))) dJx40b00_toDecimal_cabcc_236 (pc' := 237) rfl rfl ?_
          refine yy_istore C (L' := [(19, .int ((r4 >>> ((nI 2) &&& 31)) + (nI 1))), (18, .int (r4 >>> ((nI 2) &&& 31))), (17, .int r6), (16, .int r5), (15, .int r4), (13, .long (r3 + 1)), (12, .int ((q + r2) + (nI 33))), (11, .int r1), (9, .long (((c_ <<< ((nI 2) &&& 31)).toInt64) - 1)), (7, .long (((c_ <<< ((nI 2) &&& 31)).toInt64) + (2))), (5, .long ((c_ <<< ((nI 2) &&& 31)).toInt64)), (4, .int (c_ &&& (nI 1))), (0, .ref (fd)), (1, .int q), (2, .int c_), (3, .int (nI 0))]) dJx40b00_toDecimal_cabcc_237 (pc' := 239) rfl (by decide) rfl ?_
          refine yy_iload C 3 dJx40b00_toDecimal_cabcc_239 (pc' := 241) rfl rfl ?_
          refine yy_iload C 11 dJx40b00_toDecimal_cabcc_241 (pc' := 243) rfl rfl ?_
          refine yy_iadd C (v := (r5 + (c_ &&& (nI 1)))) dJx40b00_toDecimal_cabcc_243 (pc' := 244) rfl rfl ?_
          refine yy_iload C 1 dJx40b00_toDecimal_cabcc_244 (pc' := 246) rfl rfl ?_
          refine yy_iconst C (v := (nI 2)) dJx40b00_toDecimal_cabcc_246 (pc' := 247) rfl (by decide) ?_
          refine yy_ishl C (v := ((r4 >>> ((nI 2) &&& 31)) <<< ((nI 2) &&& 31))) dJx40b00_toDecimal_cabcc_247 (pc' := 248) rfl rfl ?_
          refine yy_icmp_gt C dJx40b00_toDecimal_cabcc_248 (pc' := 251) rfl (tgt := 255) (by decide) (fun c_248 => ?_) (fun c_248 => ?_)
          · skip
            refine yy_iconst C (v := (nI 0)) dJx40b00_toDecimal_cabcc_255 (pc' := 256) rfl (by decide) ?_
            refine yy_istore C (L' := [(20, .int (nI 0)), (19, .int ((r4 >>> ((nI 2) &&& 31)) + (nI 1))), (18, .int (r4 >>> ((nI 2) &&& 31))), (17, .int r6), (16, .int r5), (15, .int r4), (13, .long (r3 + 1)), (12, .int ((q + r2) + (nI 33))), (11, .int r1), (9, .long (((c_ <<< ((nI 2) &&& 31)).toInt64) - 1)), (7, .long (((c_ <<< ((nI 2) &&& 31)).toInt64) + (2))), (5, .long ((c_ <<< ((nI 2) &&& 31)).toInt64)), (4, .int (c_ &&& (nI 1))), (0, .ref (fd)), (1, .int q), (2, .int c_), (3, .int (nI 0))]) dJx40b00_toDecimal_cabcc_256 (pc' := 258) rfl (by decide) rfl ?_
            refine yy_iload C 1 dJx40b00_toDecimal_cabcc_258 (pc' := 260) rfl rfl ?_
            refine yy_iconst C (v := (nI 2)) dJx40b00_toDecimal_cabcc_260 (pc' := 261) rfl (by decide) ?_
            refine yy_ishl C (v := (((r4 >>> ((nI 2) &&& 31)) + (nI 1)) <<< ((nI 2) &&& 31))) dJx40b00_toDecimal_cabcc_261 (pc' := 262) rfl rfl ?_
            refine yy_iload C 12 dJx40b00_toDecimal_cabcc_262 (pc' := 264) rfl rfl ?_
            refine yy_iadd C (v := ((((r4 >>> ((nI 2) &&& 31)) + (nI 1)) <<< ((nI 2) &&& 31)) + (c_ &&& (nI 1)))) dJx40b00_toDecimal_cabcc_264 (pc' := 265) rfl rfl ?_
            refine yy_iload C 3 dJx40b00_toDecimal_cabcc_265 (pc' := 267) rfl rfl ?_
            refine yy_icmp_gt C dJx40b00_toDecimal_cabcc_267 (pc' := 270) rfl (tgt := 274) (by decide) (fun c_267 => ?_) (fun c_267 => ?_)
            · skip
              refine yy_iconst C (v := (nI 0)) dJx40b00_toDecimal_cabcc_274 (pc' := 275) rfl (by decide) ?_
              refine yy_istore C (L' := [(21, .int (nI 0)), (20, .int (nI 0)), (19, .int ((r4 >>> ((nI 2) &&& 31)) + (nI 1))), (18, .int (r4 >>> ((nI 2) &&& 31))), (17, .int r6), (16, .int r5), (15, .int r4), (13, .long (r3 + 1)), (12, .int ((q + r2) + (nI 33))), (11, .int r1), (9, .long (((c_ <<< ((nI 2) &&& 31)).toInt64) - 1)), (7, .long (((c_ <<< ((nI 2) &&& 31)).toInt64) + (2))), (5, .long ((c_ <<< ((nI 2) &&& 31)).toInt64)), (4, .int (c_ &&& (nI 1))), (0, .ref (fd)), (1, .int q), (2, .int c_), (3, .int (nI 0))]) dJx40b00_toDecimal_cabcc_275 (pc' := 277) rfl (by decide) rfl ?_
              refine yy_iload C 1 dJx40b00_toDecimal_cabcc_277 (pc' := 279) rfl rfl ?_
              refine yy_iload C 0 dJx40b00_toDecimal_cabcc_279 (pc' := 281) rfl rfl ?_
              refine yy_icmp_eq C dJx40b00_toDecimal_cabcc_281 (pc' := 284) rfl (tgt := 305) (by decide) (fun c_281 => ?_) (fun c_281 => ?_)
              · skip
                refine yy_iload C 6 dJx40b00_toDecimal_cabcc_305 (pc' := 307) rfl rfl ?_
                refine yy_iload C 3 dJx40b00_toDecimal_cabcc_307 (pc' := 309) rfl rfl ?_
                refine yy_iload C 2 dJx40b00_toDecimal_cabcc_309 (pc' := 311) rfl rfl ?_
                refine yy_iadd C (v := ((r4 >>> ((nI 2) &&& 31)) + ((r4 >>> ((nI 2) &&& 31)) + (nI 1)))) dJx40b00_toDecimal_cabcc_311 (pc' := 312) rfl rfl ?_
                refine yy_iconst C (v := (nI 1)) dJx40b00_toDecimal_cabcc_312 (pc' := 313) rfl (by decide) ?_
                refine yy_ishl C (v := (((r4 >>> ((nI 2) &&& 31)) + ((r4 >>> ((nI 2) &&& 31)) + (nI 1))) <<< ((nI 1) &&& 31))) dJx40b00_toDecimal_cabcc_313 (pc' := 314) rfl rfl ?_
                refine yy_isub C (v := (r4 - (((r4 >>> ((nI 2) &&& 31)) + ((r4 >>> ((nI 2) &&& 31)) + (nI 1))) <<< ((nI 1) &&& 31)))) dJx40b00_toDecimal_cabcc_314 (pc' := 315) rfl rfl ?_
                refine yy_istore C (L' := [(22, .int (r4 - (((r4 >>> ((nI 2) &&& 31)) + ((r4 >>> ((nI 2) &&& 31)) + (nI 1))) <<< ((nI 1) &&& 31)))), (21, .int (nI 0)), (20, .int (nI 0)), (19, .int ((r4 >>> ((nI 2) &&& 31)) + (nI 1))), (18, .int (r4 >>> ((nI 2) &&& 31))), (17, .int r6), (16, .int r5), (15, .int r4), (13, .long (r3 + 1)), (12, .int ((q + r2) + (nI 33))), (11, .int r1), (9, .long (((c_ <<< ((nI 2) &&& 31)).toInt64) - 1)), (7, .long (((c_ <<< ((nI 2) &&& 31)).toInt64) + (2))), (5, .long ((c_ <<< ((nI 2) &&& 31)).toInt64)), (4, .int (c_ &&& (nI 1))), (0, .ref (fd)), (1, .int q), (2, .int c_), (3, .int (nI 0))]) dJx40b00_toDecimal_cabcc_315 (pc' := 317) rfl (by decide) rfl ?_
                refine yy_aload_n C 15 dJx40b00_toDecimal_cabcc_317 (pc' := 318) rfl rfl rfl ?_
                refine yy_iload C 0 dJx40b00_toDecimal_cabcc_318 (pc' := 320) rfl rfl ?_
                refine yy_if_lt C dJx40b00_toDecimal_cabcc_320 (pc' := 323) rfl (tgt := 335) (by decide) (fun c_320 => ?_) (fun c_320 => ?_)
                · skip
                  refine yy_iload C 4 dJx40b00_toDecimal_cabcc_335 (pc' := 337) rfl rfl ?_
                  refine yy_goto C (tgt := 342) dJx40b00_toDecimal_cabcc_337 (by decide) ?_
                  refine yy_iload C 10 dJx40b00_toDecimal_cabcc_342 (pc' := 344) rfl rfl ?_
                  refine yy_iload_n C 18 dJx40b00_toDecimal_cabcc_344 (pc' := 345) rfl rfl rfl ?_
                  refine yy_iadd C (v := (r1 + (nI 0))) dJx40b00_toDecimal_cabcc_345 (pc' := 346) rfl rfl ?_
                  refine yc_i (yr_V C (n := 2) (As := [.int (r4 >>> ((nI 2) &&& 31)), .int (r1 + (nI 0))]) (rest := []) lk_Jx40b00_73 cd_Jx40b00_toChars_7cf53 im_Jx40b00_toChars_7cf53 se_Jx40b00_toChars_7cf53 (mJx40b00_toChars_7cf53 l G B0 fd fb a F (r4 >>> ((nI 2) &&& 31)) (r1 + (nI 0)) (by have hok' := hok; subst hw1 hw2 hw3 hw4 hw5 hw6; unfold td3 at hok'; dsimp only at hok'; rw [if_pos c_22, if_pos c_143, if_pos c_248, if_pos c_267, if_pos c_320] at hok'; exact hok')) ⟨by decide, by decide⟩ ⟨by decide, by decide⟩ 0 rfl rfl rfl rfl (Nat.le_of_ble_eq_true rfl) dJx40b00_toDecimal_cabcc_346) (pc' := 349) rfl (fun r7 _ hw7 => ?_)
                  subst hw7
                  subst hQ
                  exact ye_i C hr (vp_nar_int _) () dJx40b00_toDecimal_cabcc_349 (by subst hw1 hw2 hw3 hw4 hw5 hw6; unfold td3; dsimp only; rw [if_pos c_22, if_pos c_143, if_pos c_248, if_pos c_267, if_pos c_320]) (by decide) (by decide) rfl
                · skip
                  refine yy_iload C 0 dJx40b00_toDecimal_cabcc_323 (pc' := 325) rfl rfl ?_
                  refine yy_if_ne C dJx40b00_toDecimal_cabcc_325 (pc' := 328) rfl (tgt := 340) (by decide) (fun c_325 => ?_) (fun c_325 => ?_)
                  · skip
                    refine yy_iload C 3 dJx40b00_toDecimal_cabcc_340 (pc' := 342) rfl rfl ?_
                    refine yy_iload C 10 dJx40b00_toDecimal_cabcc_342 (pc' := 344) rfl rfl ?_
                    refine yy_iload_n C 18 dJx40b00_toDecimal_cabcc_344 (pc' := 345) rfl rfl rfl ?_
                    refine yy_iadd C (v := (r1 + (nI 0))) dJx40b00_toDecimal_cabcc_345 (pc' := 346) rfl rfl ?_
                    refine yc_i (yr_V C (n := 2) (As := [.int ((r4 >>> ((nI 2) &&& 31)) + (nI 1)), .int (r1 + (nI 0))]) (rest := []) lk_Jx40b00_73 cd_Jx40b00_toChars_7cf53 im_Jx40b00_toChars_7cf53 se_Jx40b00_toChars_7cf53 (mJx40b00_toChars_7cf53 l G B0 fd fb a F ((r4 >>> ((nI 2) &&& 31)) + (nI 1)) (r1 + (nI 0)) (by have hok' := hok; subst hw1 hw2 hw3 hw4 hw5 hw6; unfold td3 at hok'; dsimp only at hok'; rw [if_pos c_22, if_pos c_143, if_pos c_248, if_pos c_267, if_neg c_320, if_neg c_325] at hok'; exact hok')) ⟨by decide, by decide⟩ ⟨by decide, by decide⟩ 0 rfl rfl rfl rfl (Nat.le_of_ble_eq_true rfl) dJx40b00_toDecimal_cabcc_346) (pc' := 349) rfl (fun r7 _ hw7 => ?_)
                    subst hw7
                    subst hQ
                    exact ye_i C hr (vp_nar_int _) () dJx40b00_toDecimal_cabcc_349 (by subst hw1 hw2 hw3 hw4 hw5 hw6; unfold td3; dsimp only; rw [if_pos c_22, if_pos c_143, if_pos c_248, if_pos c_267, if_neg c_320, if_neg c_325]) (by decide) (by decide) rfl
                  · skip
                    refine yy_iload C 4 dJx40b00_toDecimal_cabcc_328 (pc' := 330) rfl rfl ?_
                    refine yy_iconst C (v := (nI 1)) dJx40b00_toDecimal_cabcc_330 (pc' := 331) rfl (by decide) ?_
                    refine yy_iand C (v := ((r4 >>> ((nI 2) &&& 31)) &&& (nI 1))) dJx40b00_toDecimal_cabcc_331 (pc' := 332) rfl rfl ?_
                    refine yy_if_ne C dJx40b00_toDecimal_cabcc_332 (pc' := 335) rfl (tgt := 340) (by decide) (fun c_332 => ?_) (fun c_332 => ?_)
                    · skip
                      refine yy_iload C 3 dJx40b00_toDecimal_cabcc_340 (pc' := 342) rfl rfl ?_
                      refine yy_iload C 10 dJx40b00_toDecimal_cabcc_342 (pc' := 344) rfl rfl ?_
                      refine yy_iload_n C 18 dJx40b00_toDecimal_cabcc_344 (pc' := 345) rfl rfl rfl ?_
                      refine yy_iadd C (v := (r1 + (nI 0))) dJx40b00_toDecimal_cabcc_345 (pc' := 346) rfl rfl ?_
                      refine yc_i (yr_V C (n := 2) (As := [.int ((r4 >>> ((nI 2) &&& 31)) + (nI 1)), .int (r1 + (nI 0))]) (rest := []) lk_Jx40b00_73 cd_Jx40b00_toChars_7cf53 im_Jx40b00_toChars_7cf53 se_Jx40b00_toChars_7cf53 (mJx40b00_toChars_7cf53 l G B0 fd fb a F ((r4 >>> ((nI 2) &&& 31)) + (nI 1)) (r1 + (nI 0)) (by have hok' := hok; subst hw1 hw2 hw3 hw4 hw5 hw6; unfold td3 at hok'; dsimp only at hok'; rw [if_pos c_22, if_pos c_143, if_pos c_248, if_pos c_267, if_neg c_320, if_pos c_325, if_neg c_332] at hok'; exact hok')) ⟨by decide, by decide⟩ ⟨by decide, by decide⟩ 0 rfl rfl rfl rfl (Nat.le_of_ble_eq_true rfl) dJx40b00_toDecimal_cabcc_346) (pc' := 349) rfl (fun r7 _ hw7 => ?_)
                      subst hw7
                      subst hQ
                      exact ye_i C hr (vp_nar_int _) () dJx40b00_toDecimal_cabcc_349 (by subst hw1 hw2 hw3 hw4 hw5 hw6; unfold td3; dsimp only; rw [if_pos c_22, if_pos c_143, if_pos c_248, if_pos c_267, if_neg c_320, if_pos c_325, if_neg c_332]) (by decide) (by decide) rfl
                    · skip
                      refine yy_iload C 4 dJx40b00_toDecimal_cabcc_335 (pc' := 337) rfl rfl ?_
                      refine yy_goto C (tgt := 342) dJx40b00_toDecimal_cabcc_337 (by decide) ?_
                      refine yy_iload C 10 dJx40b00_toDecimal_cabcc_342 (pc' := 344) rfl rfl ?_
                      refine yy_iload_n C 18 dJx40b00_toDecimal_cabcc_344 (pc' := 345) rfl rfl rfl ?_
                      refine yy_iadd C (v := (r1 + (nI 0))) dJx40b00_toDecimal_cabcc_345 (pc' := 346) rfl rfl ?_
                      refine yc_i (yr_V C (n := 2) (As := [.int (r4 >>> ((nI 2) &&& 31)), .int (r1 + (nI 0))]) (rest := []) lk_Jx40b00_73 cd_Jx40b00_toChars_7cf53 im_Jx40b00_toChars_7cf53 se_Jx40b00_toChars_7cf53 (mJx40b00_toChars_7cf53 l G B0 fd fb a F (r4 >>> ((nI 2) &&& 31)) (r1 + (nI 0)) (by have hok' := hok; subst hw1 hw2 hw3 hw4 hw5 hw6; unfold td3 at hok'; dsimp only at hok'; rw [if_pos c_22, if_pos c_143, if_pos c_248, if_pos c_267, if_neg c_320, if_pos c_325, if_pos c_332] at hok'; exact hok')) ⟨by decide, by decide⟩ ⟨by decide, by decide⟩ 0 rfl rfl rfl rfl (Nat.le_of_ble_eq_true rfl) dJx40b00_toDecimal_cabcc_346) (pc' := 349) rfl (fun r7 _ hw7 => ?_)
                      subst hw7
                      subst hQ
                      exact ye_i C hr (vp_nar_int _) () dJx40b00_toDecimal_cabcc_349 (by subst hw1 hw2 hw3 hw4 hw5 hw6; unfold td3; dsimp only; rw [if_pos c_22, if_pos c_143, if_pos c_248, if_pos c_267, if_neg c_320, if_pos c_325, if_pos c_332]) (by decide) (by decide) rfl
              · skip
                exact absurd c_281 (by decide)
            · skip
              refine yy_iconst C (v := (nI 1)) dJx40b00_toDecimal_cabcc_270 (pc' := 271) rfl (by decide) ?_
              refine yy_goto C (tgt := 275) dJx40b00_toDecimal_cabcc_271 (by decide) ?_
              refine yy_istore C (L' := [(21, .int (nI 1)), (20, .int (nI 0)), (19, .int ((r4 >>> ((nI 2) &&& 31)) + (nI 1))), (18, .int (r4 >>> ((nI 2) &&& 31))), (17, .int r6), (16, .int r5), (15, .int r4), (13, .long (r3 + 1)), (12, .int ((q + r2) + (nI 33))), (11, .int r1), (9, .long (((c_ <<< ((nI 2) &&& 31)).toInt64) - 1)), (7, .long (((c_ <<< ((nI 2) &&& 31)).toInt64) + (2))), (5, .long ((c_ <<< ((nI 2) &&& 31)).toInt64)), (4, .int (c_ &&& (nI 1))), (0, .ref (fd)), (1, .int q), (2, .int c_), (3, .int (nI 0))]) dJx40b00_toDecimal_cabcc_275 (pc' := 277) rfl (by decide) rfl ?_
              refine yy_iload C 1 dJx40b00_toDecimal_cabcc_277 (pc' := 279) rfl rfl ?_
              refine yy_iload C 0 dJx40b00_toDecimal_cabcc_279 (pc' := 281) rfl rfl ?_
              refine yy_icmp_eq C dJx40b00_toDecimal_cabcc_281 (pc' := 284) rfl (tgt := 305) (by decide) (fun c_281 => ?_) (fun c_281 => ?_)
              · skip
                exact absurd c_281 (by decide)
              · skip
                refine yy_aload_n C 14 dJx40b00_toDecimal_cabcc_284 (pc' := 285) rfl rfl rfl ?_
                refine yy_iload C 1 dJx40b00_toDecimal_cabcc_285 (pc' := 287) rfl rfl ?_
                refine yy_if_eq C dJx40b00_toDecimal_cabcc_287 (pc' := 290) rfl (tgt := 295) (by decide) (fun c_287 => ?_) (fun c_287 => ?_)
                · skip
                  refine yy_iload C 2 dJx40b00_toDecimal_cabcc_295 (pc' := 297) rfl rfl ?_
                  refine yy_iload C 9 dJx40b00_toDecimal_cabcc_297 (pc' := 299) rfl rfl ?_
                  refine yy_iload_n C 17 dJx40b00_toDecimal_cabcc_299 (pc' := 300) rfl rfl rfl ?_
                  refine yy_iadd C (v := (r1 + (nI 0))) dJx40b00_toDecimal_cabcc_300 (pc' := 301) rfl rfl ?_
                  refine yc_i (yr_V C (n := 2) (As := [.int ((r4 >>> ((nI 2) &&& 31)) + (nI 1)), .int (r1 + (nI 0))]) (rest := []) lk_Jx40b00_73 cd_Jx40b00_toChars_7cf53 im_Jx40b00_toChars_7cf53 se_Jx40b00_toChars_7cf53 (mJx40b00_toChars_7cf53 l G B0 fd fb a F ((r4 >>> ((nI 2) &&& 31)) + (nI 1)) (r1 + (nI 0)) (by have hok' := hok; subst hw1 hw2 hw3 hw4 hw5 hw6; unfold td3 at hok'; dsimp only at hok'; rw [if_pos c_22, if_pos c_143, if_pos c_248, if_neg c_267] at hok'; exact hok')) ⟨by decide, by decide⟩ ⟨by decide, by decide⟩ 0 rfl rfl rfl rfl (Nat.le_of_ble_eq_true rfl) dJx40b00_toDecimal_cabcc_301) (pc' := 304) rfl (fun r7 _ hw7 => ?_)
                  subst hw7
                  subst hQ
                  exact ye_i C hr (vp_nar_int _) () dJx40b00_toDecimal_cabcc_304 (by subst hw1 hw2 hw3 hw4 hw5 hw6; unfold td3; dsimp only; rw [if_pos c_22, if_pos c_143, if_pos c_248, if_neg c_267]) (by decide) (by decide) rfl
                · skip
                  exact absurd c_287 (by decide)
          · skip
            refine yy_iconst C (v := (nI 1)) dJx40b00_toDecimal_cabcc_251 (pc' := 252) rfl (by decide) ?_
            refine yy_goto C (tgt := 256) dJx40b00_toDecimal_cabcc_252 (by decide) ?_
            refine yy_istore C (L' := [(20, .int (nI 1)), (19, .int ((r4 >>> ((nI 2) &&& 31)) + (nI 1))), (18, .int (r4 >>> ((nI 2) &&& 31))), (17, .int r6), (16, .int r5), (15, .int r4), (13, .long (r3 + 1)), (12, .int ((q + r2) + (nI 33))), (11, .int r1), (9, .long (((c_ <<< ((nI 2) &&& 31)).toInt64) - 1)), (7, .long (((c_ <<< ((nI 2) &&& 31)).toInt64) + (2))), (5, .long ((c_ <<< ((nI 2) &&& 31)).toInt64)), (4, .int (c_ &&& (nI 1))), (0, .ref (fd)), (1, .int q), (2, .int c_), (3, .int (nI 0))]) dJx40b00_toDecimal_cabcc_256 (pc' := 258) rfl (by decide) rfl ?_
            refine yy_iload C 1 dJx40b00_toDecimal_cabcc_258 (pc' := 260) rfl rfl ?_
            refine yy_iconst C (v := (nI 2)) dJx40b00_toDecimal_cabcc_260 (pc' := 261) rfl (by decide) ?_
            refine yy_ishl C (v := (((r4 >>> ((nI 2) &&& 31)) + (nI 1)) <<< ((nI 2) &&& 31))) dJx40b00_toDecimal_cabcc_261 (pc' := 262) rfl rfl ?_
            refine yy_iload C 12 dJx40b00_toDecimal_cabcc_262 (pc' := 264) rfl rfl ?_
            refine yy_iadd C (v := ((((r4 >>> ((nI 2) &&& 31)) + (nI 1)) <<< ((nI 2) &&& 31)) + (c_ &&& (nI 1)))) dJx40b00_toDecimal_cabcc_264 (pc' := 265) rfl rfl ?_
            refine yy_iload C 3 dJx40b00_toDecimal_cabcc_265 (pc' := 267) rfl rfl ?_
            refine yy_icmp_gt C dJx40b00_toDecimal_cabcc_267 (pc' := 270) rfl (tgt := 274) (by decide) (fun c_267 => ?_) (fun c_267 => ?_)
            · skip
              refine yy_iconst C (v := (nI 0)) dJx40b00_toDecimal_cabcc_274 (pc' := 275) rfl (by decide) ?_
              refine yy_istore C (L' := [(21, .int (nI 0)), (20, .int (nI 1)), (19, .int ((r4 >>> ((nI 2) &&& 31)) + (nI 1))), (18, .int (r4 >>> ((nI 2) &&& 31))), (17, .int r6), (16, .int r5), (15, .int r4), (13, .long (r3 + 1)), (12, .int ((q + r2) + (nI 33))), (11, .int r1), (9, .long (((c_ <<< ((nI 2) &&& 31)).toInt64) - 1)), (7, .long (((c_ <<< ((nI 2) &&& 31)).toInt64) + (2))), (5, .long ((c_ <<< ((nI 2) &&& 31)).toInt64)), (4, .int (c_ &&& (nI 1))), (0, .ref (fd)), (1, .int q), (2, .int c_), (3, .int (nI 0))]) dJx40b00_toDecimal_cabcc_275 (pc' := 277) rfl (by decide) rfl ?_
              refine yy_iload C 1 dJx40b00_toDecimal_cabcc_277 (pc' := 279) rfl rfl ?_
              refine yy_iload C 0 dJx40b00_toDecimal_cabcc_279 (pc' := 281) rfl rfl ?_
              refine yy_icmp_eq C dJx40b00_toDecimal_cabcc_281 (pc' := 284) rfl (tgt := 305) (by decide) (fun c_281 => ?_) (fun c_281 => ?_)
              · skip
                exact absurd c_281 (by decide)
              · skip
                refine yy_aload_n C 14 dJx40b00_toDecimal_cabcc_284 (pc' := 285) rfl rfl rfl ?_
                refine yy_iload C 1 dJx40b00_toDecimal_cabcc_285 (pc' := 287) rfl rfl ?_
                refine yy_if_eq C dJx40b00_toDecimal_cabcc_287 (pc' := 290) rfl (tgt := 295) (by decide) (fun c_287 => ?_) (fun c_287 => ?_)
                · skip
                  exact absurd c_287 (by decide)
                · skip
                  refine yy_iload C 3 dJx40b00_toDecimal_cabcc_290 (pc' := 292) rfl rfl ?_
                  refine yy_goto C (tgt := 297) dJx40b00_toDecimal_cabcc_292 (by decide) ?_
                  refine yy_iload C 9 dJx40b00_toDecimal_cabcc_297 (pc' := 299) rfl rfl ?_
                  refine yy_iload_n C 17 dJx40b00_toDecimal_cabcc_299 (pc' := 300) rfl rfl rfl ?_
                  refine yy_iadd C (v := (r1 + (nI 0))) dJx40b00_toDecimal_cabcc_300 (pc' := 301) rfl rfl ?_
                  refine yc_i (yr_V C (n := 2) (As := [.int (r4 >>> ((nI 2) &&& 31)), .int (r1 + (nI 0))]) (rest := []) lk_Jx40b00_73 cd_Jx40b00_toChars_7cf53 im_Jx40b00_toChars_7cf53 se_Jx40b00_toChars_7cf53 (mJx40b00_toChars_7cf53 l G B0 fd fb a F (r4 >>> ((nI 2) &&& 31)) (r1 + (nI 0)) (by have hok' := hok; subst hw1 hw2 hw3 hw4 hw5 hw6; unfold td3 at hok'; dsimp only at hok'; rw [if_pos c_22, if_pos c_143, if_neg c_248, if_pos c_267] at hok'; exact hok')) ⟨by decide, by decide⟩ ⟨by decide, by decide⟩ 0 rfl rfl rfl rfl (Nat.le_of_ble_eq_true rfl) dJx40b00_toDecimal_cabcc_301) (pc' := 304) rfl (fun r7 _ hw7 => ?_)
                  subst hw7
                  subst hQ
                  exact ye_i C hr (vp_nar_int _) () dJx40b00_toDecimal_cabcc_304 (by subst hw1 hw2 hw3 hw4 hw5 hw6; unfold td3; dsimp only; rw [if_pos c_22, if_pos c_143, if_neg c_248, if_pos c_267]) (by decide) (by decide) rfl
            · skip
              refine yy_iconst C (v := (nI 1)) dJx40b00_toDecimal_cabcc_270 (pc' := 271) rfl (by decide) ?_
              refine yy_goto C (tgt := 275) dJx40b00_toDecimal_cabcc_271 (by decide) ?_
              refine yy_istore C (L' := [(21, .int (nI 1)), (20, .int (nI 1)), (19, .int ((r4 >>> ((nI 2) &&& 31)) + (nI 1))), (18, .int (r4 >>> ((nI 2) &&& 31))), (17, .int r6), (16, .int r5), (15, .int r4), (13, .long (r3 + 1)), (12, .int ((q + r2) + (nI 33))), (11, .int r1), (9, .long (((c_ <<< ((nI 2) &&& 31)).toInt64) - 1)), (7, .long (((c_ <<< ((nI 2) &&& 31)).toInt64) + (2))), (5, .long ((c_ <<< ((nI 2) &&& 31)).toInt64)), (4, .int (c_ &&& (nI 1))), (0, .ref (fd)), (1, .int q), (2, .int c_), (3, .int (nI 0))]) dJx40b00_toDecimal_cabcc_275 (pc' := 277) rfl (by decide) rfl ?_
              refine yy_iload C 1 dJx40b00_toDecimal_cabcc_277 (pc' := 279) rfl rfl ?_
              refine yy_iload C 0 dJx40b00_toDecimal_cabcc_279 (pc' := 281) rfl rfl ?_
              refine yy_icmp_eq C dJx40b00_toDecimal_cabcc_281 (pc' := 284) rfl (tgt := 305) (by decide) (fun c_281 => ?_) (fun c_281 => ?_)
              · skip
                refine yy_iload C 6 dJx40b00_toDecimal_cabcc_305 (pc' := 307) rfl rfl ?_
                refine yy_iload C 3 dJx40b00_toDecimal_cabcc_307 (pc' := 309) rfl rfl ?_
                refine yy_iload C 2 dJx40b00_toDecimal_cabcc_309 (pc' := 311) rfl rfl ?_
                refine yy_iadd C (v := ((r4 >>> ((nI 2) &&& 31)) + ((r4 >>> ((nI 2) &&& 31)) + (nI 1)))) dJx40b00_toDecimal_cabcc_311 (pc' := 312) rfl rfl ?_
                refine yy_iconst C (v := (nI 1)) dJx40b00_toDecimal_cabcc_312 (pc' := 313) rfl (by decide) ?_
                refine yy_ishl C (v := (((r4 >>> ((nI 2) &&& 31)) + ((r4 >>> ((nI 2) &&& 31)) + (nI 1))) <<< ((nI 1) &&& 31))) dJx40b00_toDecimal_cabcc_313 (pc' := 314) rfl rfl ?_
                refine yy_isub C (v := (r4 - (((r4 >>> ((nI 2) &&& 31)) + ((r4 >>> ((nI 2) &&& 31)) + (nI 1))) <<< ((nI 1) &&& 31)))) dJx40b00_toDecimal_cabcc_314 (pc' := 315) rfl rfl ?_
                refine yy_istore C (L' := [(22, .int (r4 - (((r4 >>> ((nI 2) &&& 31)) + ((r4 >>> ((nI 2) &&& 31)) + (nI 1))) <<< ((nI 1) &&& 31)))), (21, .int (nI 1)), (20, .int (nI 1)), (19, .int ((r4 >>> ((nI 2) &&& 31)) + (nI 1))), (18, .int (r4 >>> ((nI 2) &&& 31))), (17, .int r6), (16, .int r5), (15, .int r4), (13, .long (r3 + 1)), (12, .int ((q + r2) + (nI 33))), (11, .int r1), (9, .long (((c_ <<< ((nI 2) &&& 31)).toInt64) - 1)), (7, .long (((c_ <<< ((nI 2) &&& 31)).toInt64) + (2))), (5, .long ((c_ <<< ((nI 2) &&& 31)).toInt64)), (4, .int (c_ &&& (nI 1))), (0, .ref (fd)), (1, .int q), (2, .int c_), (3, .int (nI 0))]) dJx40b00_toDecimal_cabcc_315 (pc' := 317) rfl (by decide) rfl ?_
                refine yy_aload_n C 15 dJx40b00_toDecimal_cabcc_317 (pc' := 318) rfl rfl rfl ?_
                refine yy_iload C 0 dJx40b00_toDecimal_cabcc_318 (pc' := 320) rfl rfl ?_
                refine yy_if_lt C dJx40b00_toDecimal_cabcc_320 (pc' := 323) rfl (tgt := 335) (by decide) (fun c_320 => ?_) (fun c_320 => ?_)
                · skip
                  refine yy_iload C 4 dJx40b00_toDecimal_cabcc_335 (pc' := 337) rfl rfl ?_
                  refine yy_goto C (tgt := 342) dJx40b00_toDecimal_cabcc_337 (by decide) ?_
                  refine yy_iload C 10 dJx40b00_toDecimal_cabcc_342 (pc' := 344) rfl rfl ?_
                  refine yy_iload_n C 18 dJx40b00_toDecimal_cabcc_344 (pc' := 345) rfl rfl rfl ?_
                  refine yy_iadd C (v := (r1 + (nI 0))) dJx40b00_toDecimal_cabcc_345 (pc' := 346) rfl rfl ?_
                  refine yc_i (yr_V C (n := 2) (As := [.int (r4 >>> ((nI 2) &&& 31)), .int (r1 + (nI 0))]) (rest := []) lk_Jx40b00_73 cd_Jx40b00_toChars_7cf53 im_Jx40b00_toChars_7cf53 se_Jx40b00_toChars_7cf53 (mJx40b00_toChars_7cf53 l G B0 fd fb a F (r4 >>> ((nI 2) &&& 31)) (r1 + (nI 0)) (by have hok' := hok; subst hw1 hw2 hw3 hw4 hw5 hw6; unfold td3 at hok'; dsimp only at hok'; rw [if_pos c_22, if_pos c_143, if_neg c_248, if_neg c_267, if_pos c_320] at hok'; exact hok')) ⟨by decide, by decide⟩ ⟨by decide, by decide⟩ 0 rfl rfl rfl rfl (Nat.le_of_ble_eq_true rfl) dJx40b00_toDecimal_cabcc_346) (pc' := 349) rfl (fun r7 _ hw7 => ?_)
                  subst hw7
                  subst hQ
                  exact ye_i C hr (vp_nar_int _) () dJx40b00_toDecimal_cabcc_349 (by subst hw1 hw2 hw3 hw4 hw5 hw6; unfold td3; dsimp only; rw [if_pos c_22, if_pos c_143, if_neg c_248, if_neg c_267, if_pos c_320]) (by decide) (by decide) rfl
                · skip
                  refine yy_iload C 0 dJx40b00_toDecimal_cabcc_323 (pc' := 325) rfl rfl ?_
                  refine yy_if_ne C dJx40b00_toDecimal_cabcc_325 (pc' := 328) rfl (tgt := 340) (by decide) (fun c_325 => ?_) (fun c_325 => ?_)
                  · skip
                    refine yy_iload C 3 dJx40b00_toDecimal_cabcc_340 (pc' := 342) rfl rfl ?_
                    refine yy_iload C 10 dJx40b00_toDecimal_cabcc_342 (pc' := 344) rfl rfl ?_
                    refine yy_iload_n C 18 dJx40b00_toDecimal_cabcc_344 (pc' := 345) rfl rfl rfl ?_
                    refine yy_iadd C (v := (r1 + (nI 0))) dJx40b00_toDecimal_cabcc_345 (pc' := 346) rfl rfl ?_
                    refine yc_i (yr_V C (n := 2) (As := [.int ((r4 >>> ((nI 2) &&& 31)) + (nI 1)), .int (r1 + (nI 0))]) (rest := []) lk_Jx40b00_73 cd_Jx40b00_toChars_7cf53 im_Jx40b00_toChars_7cf53 se_Jx40b00_toChars_7cf53 (mJx40b00_toChars_7cf53 l G B0 fd fb a F ((r4 >>> ((nI 2) &&& 31)) + (nI 1)) (r1 + (nI 0)) (by have hok' := hok; subst hw1 hw2 hw3 hw4 hw5 hw6; unfold td3 at hok'; dsimp only at hok'; rw [if_pos c_22, if_pos c_143, if_neg c_248, if_neg c_267, if_neg c_320, if_neg c_325] at hok'; exact hok')) ⟨by decide, by decide⟩ ⟨by decide, by decide⟩ 0 rfl rfl rfl rfl (Nat.le_of_ble_eq_true rfl) dJx40b00_toDecimal_cabcc_346) (pc' := 349) rfl (fun r7 _ hw7 => ?_)
                    subst hw7
                    subst hQ
                    exact ye_i C hr (vp_nar_int _) () dJx40b00_toDecimal_cabcc_349 (by subst hw1 hw2 hw3 hw4 hw5 hw6; unfold td3; dsimp only; rw [if_pos c_22, if_pos c_143, if_neg c_248, if_neg c_267, if_neg c_320, if_neg c_325]) (by decide) (by decide) rfl
                  · skip
                    refine yy_iload C 4 dJx40b00_toDecimal_cabcc_328 (pc' := 330) rfl rfl ?_
                    refine yy_iconst C (v := (nI 1)) dJx40b00_toDecimal_cabcc_330 (pc' := 331) rfl (by decide) ?_
                    refine yy_iand C (v := ((r4 >>> ((nI 2) &&& 31)) &&& (nI 1))) dJx40b00_toDecimal_cabcc_331 (pc' := 332) rfl rfl ?_
                    refine yy_if_ne C dJx40b00_toDecimal_cabcc_332 (pc' := 335) rfl (tgt := 340) (by decide) (fun c_332 => ?_) (fun c_332 => ?_)
                    · skip
                      refine yy_iload C 3 dJx40b00_toDecimal_cabcc_340 (pc' := 342) rfl rfl ?_
                      refine yy_iload C 10 dJx40b00_toDecimal_cabcc_342 (pc' := 344) rfl rfl ?_
                      refine yy_iload_n C 18 dJx40b00_toDecimal_cabcc_344 (pc' := 345) rfl rfl rfl ?_
                      refine yy_iadd C (v := (r1 + (nI 0))) dJx40b00_toDecimal_cabcc_345 (pc' := 346) rfl rfl ?_
                      refine yc_i (yr_V C (n := 2) (As := [.int ((r4 >>> ((nI 2) &&& 31)) + (nI 1)), .int (r1 + (nI 0))]) (rest := []) lk_Jx40b00_73 cd_Jx40b00_toChars_7cf53 im_Jx40b00_toChars_7cf53 se_Jx40b00_toChars_7cf53 (mJx40b00_toChars_7cf53 l G B0 fd fb a F ((r4 >>> ((nI 2) &&& 31)) + (nI 1)) (r1 + (nI 0)) (by have hok' := hok; subst hw1 hw2 hw3 hw4 hw5 hw6; unfold td3 at hok'; dsimp only at hok'; rw [if_pos c_22, if_pos c_143, if_neg c_248, if_neg c_267, if_neg c_320, if_pos c_325, if_neg c_332] at hok'; exact hok')) ⟨by decide, by decide⟩ ⟨by decide, by decide⟩ 0 rfl rfl rfl rfl (Nat.le_of_ble_eq_true rfl) dJx40b00_toDecimal_cabcc_346) (pc' := 349) rfl (fun r7 _ hw7 => ?_)
                      subst hw7
                      subst hQ
                      exact ye_i C hr (vp_nar_int _) () dJx40b00_toDecimal_cabcc_349 (by subst hw1 hw2 hw3 hw4 hw5 hw6; unfold td3; dsimp only; rw [if_pos c_22, if_pos c_143, if_neg c_248, if_neg c_267, if_neg c_320, if_pos c_325, if_neg c_332]) (by decide) (by decide) rfl
                    · skip
                      refine yy_iload C 4 dJx40b00_toDecimal_cabcc_335 (pc' := 337) rfl rfl ?_
                      refine yy_goto C (tgt := 342) dJx40b00_toDecimal_cabcc_337 (by decide) ?_
                      refine yy_iload C 10 dJx40b00_toDecimal_cabcc_342 (pc' := 344) rfl rfl ?_
                      refine yy_iload_n C 18 dJx40b00_toDecimal_cabcc_344 (pc' := 345) rfl rfl rfl ?_
                      refine yy_iadd C (v := (r1 + (nI 0))) dJx40b00_toDecimal_cabcc_345 (pc' := 346) rfl rfl ?_
                      refine yc_i (yr_V C (n := 2) (As := [.int (r4 >>> ((nI 2) &&& 31)), .int (r1 + (nI 0))]) (rest := []) lk_Jx40b00_73 cd_Jx40b00_toChars_7cf53 im_Jx40b00_toChars_7cf53 se_Jx40b00_toChars_7cf53 (mJx40b00_toChars_7cf53 l G B0 fd fb a F (r4 >>> ((nI 2) &&& 31)) (r1 + (nI 0)) (by have hok' := hok; subst hw1 hw2 hw3 hw4 hw5 hw6; unfold td3 at hok'; dsimp only at hok'; rw [if_pos c_22, if_pos c_143, if_neg c_248, if_neg c_267, if_neg c_320, if_pos c_325, if_pos c_332] at hok'; exact hok')) ⟨by decide, by decide⟩ ⟨by decide, by decide⟩ 0 rfl rfl rfl rfl (Nat.le_of_ble_eq_true rfl) dJx40b00_toDecimal_cabcc_346) (pc' := 349) rfl (fun r7 _ hw7 => ?_)
                      subst hw7
                      subst hQ
                      exact ye_i C hr (vp_nar_int _) () dJx40b00_toDecimal_cabcc_349 (by subst hw1 hw2 hw3 hw4 hw5 hw6; unfold td3; dsimp only; rw [if_pos c_22, if_pos c_143, if_neg c_248, if_neg c_267, if_neg c_320, if_pos c_325, if_pos c_332]) (by decide) (by decide) rfl
              · skip
                exact absurd c_281 (by decide)
        · skip
          refine yy_bipush C (v := (nI 10)) dJx40b00_toDecimal_cabcc_146 (pc' := 148) rfl (by decide) ?_
          refine yy_iload C 0 dJx40b00_toDecimal_cabcc_148 (pc' := 150) rfl rfl ?_
          refine yy_i2l C (v := ((r4 >>> ((nI 2) &&& 31)).toInt64)) dJx40b00_toDecimal_cabcc_150 (pc' := 151) rfl rfl ?_
          refine yy_ldc2 C dJx40b00_toDecimal_cabcc_151 (pc' := 154) rfl lg_Jx40b00_102 ?_
          refine yy_lmul C (v := (((r4 >>> ((nI 2) &&& 31)).toInt64) * (1717986919))) dJx40b00_toDecimal_cabcc_154 (pc' := 155) rfl rfl ?_
          refine yy_bipush C (v := (nI 34)) dJx40b00_toDecimal_cabcc_155 (pc' := 157) rfl (by decide) ?_
          refine yy_lushr C (v := (ush (((r4 >>> ((nI 2) &&& 31)).toInt64) * (1717986919)) (nI 34))) dJx40b00_toDecimal_cabcc_157 (pc' := 158) rfl rfl ?_
          refine yy_l2i C (v := ((ush (((r4 >>> ((nI 2) &&& 31)).toInt64) * (1717986919)) (nI 34)).toInt32)) dJx40b00_toDecimal_cabcc_158 (pc' := 159) rfl rfl ?_
          refine yy_imul C (v := ((nI 10) * ((ush (((r4 >>> ((nI 2) &&& 31)).toInt64) * (1717986919)) (nI 34)).toInt32))) dJx40b00_toDecimal_cabcc_159 (pc' := 160) rfl rfl ?_
          refine yy_istore C (L' := [(19, .int ((nI 10) * ((ush (((r4 >>> ((nI 2) &&& 31)).toInt64) * (1717986919)) (nI 34)).toInt32))), (18, .int (r4 >>> ((nI 2) &&& 31))), (17, .int r6), (16, .int r5), (15, .int r4), (13, .long (r3 + 1)), (12, .int ((q + r2) + (nI 33))), (11, .int r1), (9, .long (((c_ <<< ((nI 2) &&& 31)).toInt64) - 1)), (7, .long (((c_ <<< ((nI 2) &&& 31)).toInt64) + (2))), (5, .long ((c_ <<< ((nI 2) &&& 31)).toInt64)), (4, .int (c_ &&& (nI 1))), (0, .ref (fd)), (1, .int q), (2, .int c_), (3, .int (nI 0))]) dJx40b00_toDecimal_cabcc_160 (pc' := 162) rfl (by decide) rfl ?_
          refine yy_iload C 0 dJx40b00_toDecimal_cabcc_162 (pc' := 164) rfl rfl ?_
          refine yy_bipush C (v := (nI 10)) dJx40b00_toDecimal_cabcc_164 (pc' := 166) rfl (by decide) ?_
          refine yy_iadd C (v := (((nI 10) * ((ush (((r4 >>> ((nI 2) &&& 31)).toInt64) * (1717986919)) (nI 34)).toInt32)) + (nI 10))) dJx40b00_toDecimal_cabcc_166 (pc' := 167) rfl rfl ?_
          refine yy_istore C (L' := [(20, .int (((nI 10) * ((ush (((r4 >>> ((nI 2) &&& 31)).toInt64) * (1717986919)) (nI 34)).toInt32)) + (nI 10))), (19, .int ((nI 10) * ((ush (((r4 >>> ((nI 2) &&& 31)).toInt64) * (1717986919)) (nI 34)).toInt32))), (18, .int (r4 >>> ((nI 2) &&& 31))), (17, .int r6), (16, .int r5), (15, .int r4), (13, .long (r3 + 1)), (12, .int ((q + r2) + (nI 33))), (11, .int r1), (9, .long (((c_ <<< ((nI 2) &&& 31)).toInt64) - 1)), (7, .long (((c_ <<< ((nI 2) &&& 31)).toInt64) + (2))), (5, .long ((c_ <<< ((nI 2) &&& 31)).toInt64)), (4, .int (c_ &&& (nI 1))), (0, .ref (fd)), (1, .int q), (2, .int c_), (3, .int (nI 0))]) dJx40b00_toDecimal_cabcc_167 (pc' := 169) rfl (by decide) rfl ?_
          refine yy_iload C 4 dJx40b00_toDecimal_cabcc_169 (pc' := 171) rfl rfl ?_
          refine yy_iload C 12 dJx40b00_toDecimal_cabcc_171 (pc' := 173) rfl rfl ?_
          refine yy_iadd C (v := (r5 + (c_ &&& (nI 1)))) dJx40b00_toDecimal_cabcc_173 (pc' := 174) rfl rfl ?_
          refine yy_iload C 1 dJx40b00_toDecimal_cabcc_174 (pc' := 176) rfl rfl ?_
          refine yy_iconst C (v := (nI 2)) dJx40b00_toDecimal_cabcc_176 (pc' := 177) rfl (by decide) ?_
          refine yy_ishl C (v := (((nI 10) * ((ush (((r4 >>> ((nI 2) &&& 31)).toInt64) * (1717986919)) (nI 34)).toInt32)) <<< ((nI 2) &&& 31))) dJx40b00_toDecimal_cabcc_177 (pc' := 178) rfl rfl ?_
          refine yy_icmp_gt C dJx40b00_toDecimal_cabcc_178 (pc' := 181) rfl (tgt := 185) (by decide) (fun c_178 => ?_) (fun c_178 => ?_)
          · skip
            refine yy_iconst C (v := (nI 0)) dJx40b00_toDecimal_cabcc_185 (pc' := 186) rfl (by decide) ?_
            refine yy_istore C (L' := [(21, .int (nI 0)), (20, .int (((nI 10) * ((ush (((r4 >>> ((nI 2) &&& 31)).toInt64) * (1717986919)) (nI 34)).toInt32)) + (nI 10))), (19, .int ((nI 10) * ((ush (((r4 >>> ((nI 2) &&& 31)).toInt64) * (1717986919)) (nI 34)).toInt32))), (18, .int (r4 >>> ((nI 2) &&& 31))), (17, .int r6), (16, .int r5), (15, .int r4), (13, .long (r3 + 1)), (12, .int ((q + r2) + (nI 33))), (11, .int r1), (9, .long (((c_ <<< ((nI 2) &&& 31)).toInt64) - 1)), (7, .long (((c_ <<< ((nI 2) &&& 31)).toInt64) + (2))), (5, .long ((c_ <<< ((nI 2) &&& 31)).toInt64)), (4, .int (c_ &&& (nI 1))), (0, .ref (fd)), (1, .int q), (2, .int c_), (3, .int (nI 0))]) dJx40b00_toDecimal_cabcc_186 (pc' := 188) rfl (by decide) rfl ?_
            refine yy_iload C 1 dJx40b00_toDecimal_cabcc_188 (pc' := 190) rfl rfl ?_
            refine yy_iconst C (v := (nI 2)) dJx40b00_toDecimal_cabcc_190 (pc' := 191) rfl (by decide) ?_
            refine yy_ishl C (v := ((((nI 10) * ((ush (((r4 >>> ((nI 2) &&& 31)).toInt64) * (1717986919)) (nI 34)).toInt32)) + (nI 10)) <<< ((nI 2) &&& 31))) dJx40b00_toDecimal_cabcc_191 (pc' := 192) rfl rfl ?_
            refine yy_iload C 13 dJx40b00_toDecimal_cabcc_192 (pc' := 194) rfl rfl ?_
            refine yy_iadd C (v := (((((nI 10) * ((ush (((r4 >>> ((nI 2) &&& 31)).toInt64) * (1717986919)) (nI 34)).toInt32)) + (nI 10)) <<< ((nI 2) &&& 31)) + (c_ &&& (nI 1)))) dJx40b00_toDecimal_cabcc_194 (pc' := 195) rfl rfl ?_
            refine yy_iload C 4 dJx40b00_toDecimal_cabcc_195 (pc' := 197) rfl rfl ?_
            refine yy_icmp_gt C dJx40b00_toDecimal_cabcc_197 (pc' := 200) rfl (tgt := 204) (by decide) (fun c_197 => ?_) (fun c_197 => ?_)
            · skip
              refine yy_iconst C (v := (nI 0)) dJx40b00_toDecimal_cabcc_204 (pc' := 205) rfl (by decide) ?_
              refine yy_istore C (L' := [(22, .int (nI 0)), (21, .int (nI 0)), (20, .int (((nI 10) * ((ush (((r4 >>> ((nI 2) &&& 31)).toInt64) * (1717986919)) (nI 34)).toInt32)) + (nI 10))), (19, .int ((nI 10) * ((ush (((r4 >>> ((nI 2) &&& 31)).toInt64) * (1717986919)) (nI 34)).toInt32))), (18, .int (r4 >>> ((nI 2) &&& 31))), (17, .int r6), (16, .int r5), (15, .int r4), (13, .long (r3 + 1)), (12, .int ((q + r2) + (nI 33))), (11, .int r1), (9, .long (((c_ <<< ((nI 2) &&& 31)).toInt64) - 1)), (7, .long (((c_ <<< ((nI 2) &&& 31)).toInt64) + (2))), (5, .long ((c_ <<< ((nI 2) &&& 31)).toInt64)), (4, .int (c_ &&& (nI 1))), (0, .ref (fd)), (1, .int q), (2, .int c_), (3, .int (nI 0))]) dJx40b00_toDecimal_cabcc_205 (pc' := 207) rfl (by decide) rfl ?_
              refine yy_iload C 1 dJx40b00_toDecimal_cabcc_207 (pc' := 209) rfl rfl ?_
              refine yy_iload C 0 dJx40b00_toDecimal_cabcc_209 (pc' := 211) rfl rfl ?_
              refine yy_icmp_eq C dJx40b00_toDecimal_cabcc_211 (pc' := 214) rfl (tgt := 233) (by decide) (fun c_211 => ?_) (fun c_211 => ?_)
              · skip
                refine yy_iload C 4 dJx40b00_toDecimal_cabcc_233 (pc' := 235) rfl rfl ?_
                refine yy_iconst C (v := (nI 1)) dJx40b00_toDecimal_cabcc_235 (pc' := 236) rfl (by decide) ?_
                refine yy_iadd C (v := ((r4 >>> ((nI 2) &&& 31)) + (nI 1))) dJx40b00_toDecimal_cabcc_236 (pc' := 237) rfl rfl ?_
                refine yy_istore C (L' := [(19, .int ((r4 >>> ((nI 2) &&& 31)) + (nI 1))), (22, .int (nI 0)), (21, .int (nI 0)), (20, .int (((nI 10) * ((ush (((r4 >>> ((nI 2) &&& 31)).toInt64) * (1717986919)) (nI 34)).toInt32)) + (nI 10))), (18, .int (r4 >>> ((nI 2) &&& 31))), (17, .int r6), (16, .int r5), (15, .int r4), (13, .long (r3 + 1)), (12, .int ((q + r2) + (nI 33))), (11, .int r1), (9, .long (((c_ <<< ((nI 2) &&& 31)).toInt64) - 1)), (7, .long (((c_ <<< ((nI 2) &&& 31)).toInt64) + (2))), (5, .long ((c_ <<< ((nI 2) &&& 31)).toInt64)), (4, .int (c_ &&& (nI 1))), (0, .ref (fd)), (1, .int q), (2, .int c_), (3, .int (nI 0))]) dJx40b00_toDecimal_cabcc_237 (pc' := 239) rfl (by decide) rfl ?_
                refine yy_iload C 6 dJx40b00_toDecimal_cabcc_239 (pc' := 241) rfl rfl ?_
                refine yy_iload C 14 dJx40b00_toDecimal_cabcc_241 (pc' := 243) rfl rfl ?_
                refine yy_iadd C (v := (r5 + (c_ &&& (nI 1)))) dJx40b00_toDecimal_cabcc_243 (pc' := 244) rfl rfl ?_
                refine yy_iload C 4 dJx40b00_toDecimal_cabcc_244 (pc' := 246) rfl rfl ?_
                refine yy_iconst C (v := (nI 2)) dJx40b00_toDecimal_cabcc_246 (pc' := 247) rfl (by decide) ?_
                refine yy_ishl C (v := ((r4 >>> ((nI 2) &&& 31)) <<< ((nI 2) &&& 31))) dJx40b00_toDecimal_cabcc_247 (pc' := 248) rfl rfl ?_
                refine yy_icmp_gt C dJx40b00_toDecimal_cabcc_248 (pc' := 251) rfl (tgt := 255) (by decide) (fun c_248 => ?_) (fun c_248 => ?_)
                · skip
                  refine yy_iconst C (v := (nI 0)) dJx40b00_toDecimal_cabcc_255 (pc' := 256) rfl (by decide) ?_
                  refine yy_istore C (L' := [(20, .int (nI 0)), (19, .int ((r4 >>> ((nI 2) &&& 31)) + (nI 1))), (22, .int (nI 0)), (21, .int (nI 0)), (18, .int (r4 >>> ((nI 2) &&& 31))), (17, .int r6), (16, .int r5), (15, .int r4), (13, .long (r3 + 1)), (12, .int ((q + r2) + (nI 33))), (11, .int r1), (9, .long (((c_ <<< ((nI 2) &&& 31)).toInt64) - 1)), (7, .long (((c_ <<< ((nI 2) &&& 31)).toInt64) + (2))), (5, .long ((c_ <<< ((nI 2) &&& 31)).toInt64)), (4, .int (c_ &&& (nI 1))), (0, .ref (fd)), (1, .int q), (2, .int c_), (3, .int (nI 0))]) dJx40b00_toDecimal_cabcc_256 (pc' := 258) rfl (by decide) rfl ?_
                  refine yy_iload C 1 dJx40b00_toDecimal_cabcc_258 (pc' := 260) rfl rfl ?_
                  refine yy_iconst C (v := (nI 2)) dJx40b00_toDecimal_cabcc_260 (pc' := 261) rfl (by decide) ?_
                  refine yy_ishl C (v := (((r4 >>> ((nI 2) &&& 31)) + (nI 1)) <<< ((nI 2) &&& 31))) dJx40b00_toDecimal_cabcc_261 (pc' := 262) rfl rfl ?_
                  refine yy_iload C 14 dJx40b00_toDecimal_cabcc_262 (pc' := 264) rfl rfl ?_
                  refine yy_iadd C (v := ((((r4 >>> ((nI 2) &&& 31)) + (nI 1)) <<< ((nI 2) &&& 31)) + (c_ &&& (nI 1)))) dJx40b00_toDecimal_cabcc_264 (pc' := 265) rfl rfl ?_
                  refine yy_iload C 5 dJx40b00_toDecimal_cabcc_265 (pc' := 267) rfl rfl ?_
                  refine yy_icmp_gt C dJx40b00_toDecimal_cabcc_267 (pc' := 270) rfl (tgt := 274) (by decide) (fun c_267 => ?_) (fun c_267 => ?_)
                  · skip
                    refine yy_iconst C (v := (nI 0)) dJx40b00_toDecimal_cabcc_274 (pc' := 275) rfl (by decide) ?_
                    refine yy_istore C (L' := [(21, .int (nI 0)), (20, .int (nI 0)), (19, .int ((r4 >>> ((nI 2) &&& 31)) + (nI 1))), (22, .int (nI 0)), (18, .int (r4 >>> ((nI 2) &&& 31))), (17, .int r6), (16, .int r5), (15, .int r4), (13, .long (r3 + 1)), (12, .int ((q + r2) + (nI 33))), (11, .int r1), (9, .long (((c_ <<< ((nI 2) &&& 31)).toInt64) - 1)), (7, .long (((c_ <<< ((nI 2) &&& 31)).toInt64) + (2))), (5, .long ((c_ <<< ((nI 2) &&& 31)).toInt64)), (4, .int (c_ &&& (nI 1))), (0, .ref (fd)), (1, .int q), (2, .int c_), (3, .int (nI 0))]) dJx40b00_toDecimal_cabcc_275 (pc' := 277) rfl (by decide) rfl ?_
                    refine yy_iload C 1 dJx40b00_toDecimal_cabcc_277 (pc' := 279) rfl rfl ?_
                    refine yy_iload C 0 dJx40b00_toDecimal_cabcc_279 (pc' := 281) rfl rfl ?_
                    refine yy_icmp_eq C dJx40b00_toDecimal_cabcc_281 (pc' := 284) rfl (tgt := 305) (by decide) (fun c_281 => ?_) (fun c_281 => ?_)
                    · skip
                      refine yy_iload C 7 dJx40b00_toDecimal_cabcc_305 (pc' := 307) rfl rfl ?_
                      refine yy_iload C 4 dJx40b00_toDecimal_cabcc_307 (pc' := 309) rfl rfl ?_
                      refine yy_iload C 2 dJx40b00_toDecimal_cabcc_309 (pc' := 311) rfl rfl ?_
                      refine yy_iadd C (v := ((r4 >>> ((nI 2) &&& 31)) + ((r4 >>> ((nI 2) &&& 31)) + (nI 1)))) dJx40b00_toDecimal_cabcc_311 (pc' := 312) rfl rfl ?_
                      refine yy_iconst C (v := (nI 1)) dJx40b00_toDecimal_cabcc_312 (pc' := 313) rfl (by decide) ?_
                      refine yy_ishl C (v := (((r4 >>> ((nI 2) &&& 31)) + ((r4 >>> ((nI 2) &&& 31)) + (nI 1))) <<< ((nI 1) &&& 31))) dJx40b00_toDecimal_cabcc_313 (pc' := 314) rfl rfl ?_
                      refine yy_isub C (v := (r4 - (((r4 >>> ((nI 2) &&& 31)) + ((r4 >>> ((nI 2) &&& 31)) + (nI 1))) <<< ((nI 1) &&& 31)))) dJx40b00_toDecimal_cabcc_314 (pc' := 315) rfl rfl ?_
                      refine yy_istore C (L' := [(22, .int (r4 - (((r4 >>> ((nI 2) &&& 31)) + ((r4 >>> ((nI 2) &&& 31)) + (nI 1))) <<< ((nI 1) &&& 31)))), (21, .int (nI 0)), (20, .int (nI 0)), (19, .int ((r4 >>> ((nI 2) &&& 31)) + (nI 1))), (18, .int (r4 >>> ((nI 2) &&& 31))), (17, .int r6), (16, .int r5), (15, .int r4), (13, .long (r3 + 1)), (12, .int ((q + r2) + (nI 33))), (11, .int r1), (9, .long (((c_ <<< ((nI 2) &&& 31)).toInt64) - 1)), (7, .long (((c_ <<< ((nI 2) &&& 31)).toInt64) + (2))), (5, .long ((c_ <<< ((nI 2) &&& 31)).toInt64)), (4, .int (c_ &&& (nI 1))), (0, .ref (fd)), (1, .int q), (2, .int c_), (3, .int (nI 0))]) dJx40b00_toDecimal_cabcc_315 (pc' := 317) rfl (by decide) rfl ?_
                      refine yy_aload_n C 15 dJx40b00_toDecimal_cabcc_317 (pc' := 318) rfl rfl rfl ?_
                      refine yy_iload C 0 dJx40b00_toDecimal_cabcc_318 (pc' := 320) rfl rfl ?_
                      refine yy_if_lt C dJx40b00_toDecimal_cabcc_320 (pc' := 323) rfl (tgt := 335) (by decide) (fun c_320 => ?_) (fun c_320 => ?_)
                      · skip
                        refine yy_iload C 4 dJx40b00_toDecimal_cabcc_335 (pc' := 337) rfl rfl ?_
                        refine yy_goto C (tgt := 342) dJx40b00_toDecimal_cabcc_337 (by decide) ?_
                        refine yy_iload C 10 dJx40b00_toDecimal_cabcc_342 (pc' := 344) rfl rfl ?_
                        refine yy_iload_n C 18 dJx40b00_toDecimal_cabcc_344 (pc' := 345) rfl rfl rfl ?_
                        refine yy_iadd C (v := (r1 + (nI 0))) dJx40b00_toDecimal_cabcc_345 (pc' := 346) rfl rfl ?_
                        refine yc_i (yr_V C (n := 2) (As := [.int (r4 >>> ((nI 2) &&& 31)), .int (r1 + (nI 0))]) (rest := []) lk_Jx40b00_73 cd_Jx40b00_toChars_7cf53 im_Jx40b00_toChars_7cf53 se_Jx40b00_toChars_7cf53 (mJx40b00_toChars_7cf53 l G B0 fd fb a F (r4 >>> ((nI 2) &&& 31)) (r1 + (nI 0)) (by have hok' := hok; subst hw1 hw2 hw3 hw4 hw5 hw6; unfold td3 at hok'; dsimp only at hok'; rw [if_pos c_22, if_neg c_143, if_pos c_178, if_pos c_197, if_pos c_248, if_pos c_267, if_pos c_320] at hok'; exact hok')) ⟨by decide, by decide⟩ ⟨by decide, by decide⟩ 0 rfl rfl rfl rfl (Nat.le_of_ble_eq_true rfl) dJx40b00_toDecimal_cabcc_346) (pc' := 349) rfl (fun r7 _ hw7 => ?_)
                        subst hw7
                        subst hQ
                        exact ye_i C hr (vp_nar_int _) () dJx40b00_toDecimal_cabcc_349 (by subst hw1 hw2 hw3 hw4 hw5 hw6; unfold td3; dsimp only; rw [if_pos c_22, if_neg c_143, if_pos c_178, if_pos c_197, if_pos c_248, if_pos c_267, if_pos c_320]) (by decide) (by decide) rfl
                      · skip
                        refine yy_iload C 0 dJx40b00_toDecimal_cabcc_323 (pc' := 325) rfl rfl ?_
                        refine yy_if_ne C dJx40b00_toDecimal_cabcc_325 (pc' := 328) rfl (tgt := 340) (by decide) (fun c_325 => ?_) (fun c_325 => ?_)
                        · skip
                          refine yy_iload C 3 dJx40b00_toDecimal_cabcc_340 (pc' := 342) rfl rfl ?_
                          refine yy_iload C 10 dJx40b00_toDecimal_cabcc_342 (pc' := 344) rfl rfl ?_
                          refine yy_iload_n C 18 dJx40b00_toDecimal_cabcc_344 (pc' := 345) rfl rfl rfl ?_
                          refine yy_iadd C (v := (r1 + (nI 0))) dJx40b00_toDecimal_cabcc_345 (pc' := 346) rfl rfl ?_
                          refine yc_i (yr_V C (n := 2) (As := [.int ((r4 >>> ((nI 2) &&& 31)) + (nI 1)), .int (r1 + (nI 0))]) (rest := []) lk_Jx40b00_73 cd_Jx40b00_toChars_7cf53 im_Jx40b00_toChars_7cf53 se_Jx40b00_toChars_7cf53 (mJx40b00_toChars_7cf53 l G B0 fd fb a F ((r4 >>> ((nI 2) &&& 31)) + (nI 1)) (r1 + (nI 0)) (by have hok' := hok; subst hw1 hw2 hw3 hw4 hw5 hw6; unfold td3 at hok'; dsimp only at hok'; rw [if_pos c_22, if_neg c_143, if_pos c_178, if_pos c_197, if_pos c_248, if_pos c_267, if_neg c_320, if_neg c_325] at hok'; exact hok')) ⟨by decide, by decide⟩ ⟨by decide, by decide⟩ 0 rfl rfl rfl rfl (Nat.le_of_ble_eq_true rfl) dJx40b00_toDecimal_cabcc_346) (pc' := 349) rfl (fun r7 _ hw7 => ?_)
                          subst hw7
                          subst hQ
                          exact ye_i C hr (vp_nar_int _) () dJx40b00_toDecimal_cabcc_349 (by subst hw1 hw2 hw3 hw4 hw5 hw6; unfold td3; dsimp only; rw [if_pos c_22, if_neg c_143, if_pos c_178, if_pos c_197, if_pos c_248, if_pos c_267, if_neg c_320, if_neg c_325]) (by decide) (by decide) rfl
                        · skip
                          refine yy_iload C 4 dJx40b00_toDecimal_cabcc_328 (pc' := 330) rfl rfl ?_
                          refine yy_iconst C (v := (nI 1)) dJx40b00_toDecimal_cabcc_330 (pc' := 331) rfl (by decide) ?_
                          refine yy_iand C (v := ((r4 >>> ((nI 2) &&& 31)) &&& (nI 1))) dJx40b00_toDecimal_cabcc_331 (pc' := 332) rfl rfl ?_
                          refine yy_if_ne C dJx40b00_toDecimal_cabcc_332 (pc' := 335) rfl (tgt := 340) (by decide) (fun c_332 => ?_) (fun c_332 => ?_)
                          · skip
                            refine yy_iload C 3 dJx40b00_toDecimal_cabcc_340 (pc' := 342) rfl rfl ?_
                            refine yy_iload C 10 dJx40b00_toDecimal_cabcc_342 (pc' := 344) rfl rfl ?_
                            refine yy_iload_n C 18 dJx40b00_toDecimal_cabcc_344 (pc' := 345) rfl rfl rfl ?_
                            refine yy_iadd C (v := (r1 + (nI 0))) dJx40b00_toDecimal_cabcc_345 (pc' := 346) rfl rfl ?_
                            refine yc_i (yr_V C (n := 2) (As := [.int ((r4 >>> ((nI 2) &&& 31)) + (nI 1)), .int (r1 + (nI 0))]) (rest := []) lk_Jx40b00_73 cd_Jx40b00_toChars_7cf53 im_Jx40b00_toChars_7cf53 se_Jx40b00_toChars_7cf53 (mJx40b00_toChars_7cf53 l G B0 fd fb a F ((r4 >>> ((nI 2) &&& 31)) + (nI 1)) (r1 + (nI 0)) (by have hok' := hok; subst hw1 hw2 hw3 hw4 hw5 hw6; unfold td3 at hok'; dsimp only at hok'; rw [if_pos c_22, if_neg c_143, if_pos c_178, if_pos c_197, if_pos c_248, if_pos c_267, if_neg c_320, if_pos c_325, if_neg c_332] at hok'; exact hok')) ⟨by decide, by decide⟩ ⟨by decide, by decide⟩ 0 rfl rfl rfl rfl (Nat.le_of_ble_eq_true rfl) dJx40b00_toDecimal_cabcc_346) (pc' := 349) rfl (fun r7 _ hw7 => ?_)
                            subst hw7
                            subst hQ
                            exact ye_i C hr (vp_nar_int _) () dJx40b00_toDecimal_cabcc_349 (by subst hw1 hw2 hw3 hw4 hw5 hw6; unfold td3; dsimp only; rw [if_pos c_22, if_neg c_143, if_pos c_178, if_pos c_197, if_pos c_248, if_pos c_267, if_neg c_320, if_pos c_325, if_neg c_332]) (by decide) (by decide) rfl
                          · skip
                            refine yy_iload C 4 dJx40b00_toDecimal_cabcc_335 (pc' := 337) rfl rfl ?_
                            refine yy_goto C (tgt := 342) dJx40b00_toDecimal_cabcc_337 (by decide) ?_
                            refine yy_iload C 10 dJx40b00_toDecimal_cabcc_342 (pc' := 344) rfl rfl ?_
                            refine yy_iload_n C 18 dJx40b00_toDecimal_cabcc_344 (pc' := 345) rfl rfl rfl ?_
                            refine yy_iadd C (v := (r1 + (nI 0))) dJx40b00_toDecimal_cabcc_345 (pc' := 346) rfl rfl ?_
                            refine yc_i (yr_V C (n := 2) (As := [.int (r4 >>> ((nI 2) &&& 31)), .int (r1 + (nI 0))]) (rest := []) lk_Jx40b00_73 cd_Jx40b00_toChars_7cf53 im_Jx40b00_toChars_7cf53 se_Jx40b00_toChars_7cf53 (mJx40b00_toChars_7cf53 l G B0 fd fb a F (r4 >>> ((nI 2) &&& 31)) (r1 + (nI 0)) (by have hok' := hok; subst hw1 hw2 hw3 hw4 hw5 hw6; unfold td3 at hok'; dsimp only at hok'; rw [if_pos c_22, if_neg c_143, if_pos c_178, if_pos c_197, if_pos c_248, if_pos c_267, if_neg c_320, if_pos c_325, if_pos c_332] at hok'; exact hok')) ⟨by decide, by decide⟩ ⟨by decide, by decide⟩ 0 rfl rfl rfl rfl (Nat.le_of_ble_eq_true rfl) dJx40b00_toDecimal_cabcc_346) (pc' := 349) rfl (fun r7 _ hw7 => ?_)
                            subst hw7
                            subst hQ
                            exact ye_i C hr (vp_nar_int _) () dJx40b00_toDecimal_cabcc_349 (by subst hw1 hw2 hw3 hw4 hw5 hw6; unfold td3; dsimp only; rw [if_pos c_22, if_neg c_143, if_pos c_178, if_pos c_197, if_pos c_248, if_pos c_267, if_neg c_320, if_pos c_325, if_pos c_332]) (by decide) (by decide) rfl
                    · skip
                      exact absurd c_281 (by decide)
                  · skip
                    refine yy_iconst C (v := (nI 1)) dJx40b00_toDecimal_cabcc_270 (pc' := 271) rfl (by decide) ?_
                    refine yy_goto C (tgt := 275) dJx40b00_toDecimal_cabcc_271 (by decide) ?_
                    refine yy_istore C (L' := [(21, .int (nI 1)), (20, .int (nI 0)), (19, .int ((r4 >>> ((nI 2) &&& 31)) + (nI 1))), (22, .int (nI 0)), (18, .int (r4 >>> ((nI 2) &&& 31))), (17, .int r6), (16, .int r5), (15, .int r4), (13, .long (r3 + 1)), (12, .int ((q + r2) + (nI 33))), (11, .int r1), (9, .long (((c_ <<< ((nI 2) &&& 31)).toInt64) - 1)), (7, .long (((c_ <<< ((nI 2) &&& 31)).toInt64) + (2))), (5, .long ((c_ <<< ((nI 2) &&& 31)).toInt64)), (4, .int (c_ &&& (nI 1))), (0, .ref (fd)), (1, .int q), (2, .int c_), (3, .int (nI 0))]) dJx40b00_toDecimal_cabcc_275 (pc' := 277) rfl (by decide) rfl ?_
                    refine yy_iload C 1 dJx40b00_toDecimal_cabcc_277 (pc' := 279) rfl rfl ?_
                    refine yy_iload C 0 dJx40b00_toDecimal_cabcc_279 (pc' := 281) rfl rfl ?_
                    refine yy_icmp_eq C dJx40b00_toDecimal_cabcc_281 (pc' := 284) rfl (tgt := 305) (by decide) (fun c_281 => ?_) (fun c_281 => ?_)
                    · skip
                      exact absurd c_281 (by decide)
                    · skip
                      refine yy_aload_n C 15 dJx40b00_toDecimal_cabcc_284 (pc' := 285) rfl rfl rfl ?_
                      refine yy_iload C 1 dJx40b00_toDecimal_cabcc_285 (pc' := 287) rfl rfl ?_
                      refine yy_if_eq C dJx40b00_toDecimal_cabcc_287 (pc' := 290) rfl (tgt := 295) (by decide) (fun c_287 => ?_) (fun c_287 => ?_)
                      · skip
                        refine yy_iload C 2 dJx40b00_toDecimal_cabcc_295 (pc' := 297) rfl rfl ?_
                        refine yy_iload C 10 dJx40b00_toDecimal_cabcc_297 (pc' := 299) rfl rfl ?_
                        refine yy_iload_n C 18 dJx40b00_toDecimal_cabcc_299 (pc' := 300) rfl rfl rfl ?_
                        refine yy_iadd C (v := (r1 + (nI 0))) dJx40b00_toDecimal_cabcc_300 (pc' := 301) rfl rfl ?_
                        refine yc_i (yr_V C (n := 2) (As := [.int ((r4 >>> ((nI 2) &&& 31)) + (nI 1)), .int (r1 + (nI 0))]) (rest := []) lk_Jx40b00_73 cd_Jx40b00_toChars_7cf53 im_Jx40b00_toChars_7cf53 se_Jx40b00_toChars_7cf53 (mJx40b00_toChars_7cf53 l G B0 fd fb a F ((r4 >>> ((nI 2) &&& 31)) + (nI 1)) (r1 + (nI 0)) (by have hok' := hok; subst hw1 hw2 hw3 hw4 hw5 hw6; unfold td3 at hok'; dsimp only at hok'; rw [if_pos c_22, if_neg c_143, if_pos c_178, if_pos c_197, if_pos c_248, if_neg c_267] at hok'; exact hok')) ⟨by decide, by decide⟩ ⟨by decide, by decide⟩ 0 rfl rfl rfl rfl (Nat.le_of_ble_eq_true rfl) dJx40b00_toDecimal_cabcc_301) (pc' := 304) rfl (fun r7 _ hw7 => ?_)
                        subst hw7
                        subst hQ
                        exact ye_i C hr (vp_nar_int _) () dJx40b00_toDecimal_cabcc_304 (by subst hw1 hw2 hw3 hw4 hw5 hw6; unfold td3; dsimp only; rw [if_pos c_22, if_neg c_143, if_pos c_178, if_pos c_197, if_pos c_248, if_neg c_267]) (by decide) (by decide) rfl
                      · skip
                        exact absurd c_287 (by decide)
                · skip
                  refine yy_iconst C (v := (nI 1)) dJx40b00_toDecimal_cabcc_251 (pc' := 252) rfl (by decide) ?_
                  refine yy_goto C (tgt := 256) dJx40b00_toDecimal_cabcc_252 (by decide) ?_
                  refine yy_istore C (L' := [(20, .int (nI 1)), (19, .int ((r4 >>> ((nI 2) &&& 31)) + (nI 1))), (22, .int (nI 0)), (21, .int (nI 0)), (18, .int (r4 >>> ((nI 2) &&& 31))), (17, .int r6), (16, .int r5), (15, .int r4), (13, .long (r3 + 1)), (12, .int ((q + r2) + (nI 33))), (11, .int r1), (9, .long (((c_ <<< ((nI 2) &&& 31)).toInt64) - 1)), (7, .long (((c_ <<< ((nI 2) &&& 31)).toInt64) + (2))), (5, .long ((c_ <<< ((nI 2) &&& 31)).toInt64)), (4, .int (c_ &&& (nI 1))), (0, .ref (fd)), (1, .int q), (2, .int c_), (3, .int (nI 0))]) dJx40b00_toDecimal_cabcc_256 (pc' := 258) rfl (by decide) rfl ?_
                  refine yy_iload C 1 dJx40b00_toDecimal_cabcc_258 (pc' := 260) rfl rfl ?_
                  refine yy_iconst C (v := (nI 2)) dJx40b00_toDecimal_cabcc_260 (pc' := 261) rfl (by decide) ?_
                  refine yy_ishl C (v := (((r4 >>> ((nI 2) &&& 31)) + (nI 1)) <<< ((nI 2) &&& 31))) dJx40b00_toDecimal_cabcc_261 (pc' := 262) rfl rfl ?_
                  refine yy_iload C 14 dJx40b00_toDecimal_cabcc_262 (pc' := 264) rfl rfl ?_
                  refine yy_iadd C (v := ((((r4 >>> ((nI 2) &&& 31)) + (nI 1)) <<< ((nI 2) &&& 31)) + (c_ &&& (nI 1)))) dJx40b00_toDecimal_cabcc_264 (pc' := 265) rfl rfl ?_
                  refine yy_iload C 5 dJx40b00_toDecimal_cabcc_265 (pc' := 267) rfl rfl ?_
                  refine yy_icmp_gt C dJx40b00_toDecimal_cabcc_267 (pc' := 270) rfl (tgt := 274) (by decide) (fun c_267 => ?_) (fun c_267 => ?_)
                  · skip
                    refine yy_iconst C (v := (nI 0)) dJx40b00_toDecimal_cabcc_274 (pc' := 275) rfl (by decide) ?_
                    refine yy_istore C (L' := [(21, .int (nI 0)), (20, .int (nI 1)), (19, .int ((r4 >>> ((nI 2) &&& 31)) + (nI 1))), (22, .int (nI 0)), (18, .int (r4 >>> ((nI 2) &&& 31))), (17, .int r6), (16, .int r5), (15, .int r4), (13, .long (r3 + 1)), (12, .int ((q + r2) + (nI 33))), (11, .int r1), (9, .long (((c_ <<< ((nI 2) &&& 31)).toInt64) - 1)), (7, .long (((c_ <<< ((nI 2) &&& 31)).toInt64) + (2))), (5, .long ((c_ <<< ((nI 2) &&& 31)).toInt64)), (4, .int (c_ &&& (nI 1))), (0, .ref (fd)), (1, .int q), (2, .int c_), (3, .int (nI 0))]) dJx40b00_toDecimal_cabcc_275 (pc' := 277) rfl (by decide) rfl ?_
                    refine yy_iload C 1 dJx40b00_toDecimal_cabcc_277 (pc' := 279) rfl rfl ?_
                    refine yy_iload C 0 dJx40b00_toDecimal_cabcc_279 (pc' := 281) rfl rfl ?_
                    refine yy_icmp_eq C dJx40b00_toDecimal_cabcc_281 (pc' := 284) rfl (tgt := 305) (by decide) (fun c_281 => ?_) (fun c_281 => ?_)
                    · skip
                      exact absurd c_281 (by decide)
                    · skip
                      refine yy_aload_n C 15 dJx40b00_toDecimal_cabcc_284 (pc' := 285) rfl rfl rfl ?_
                      refine yy_iload C 1 dJx40b00_toDecimal_cabcc_285 (pc' := 287) rfl rfl ?_
                      refine yy_if_eq C dJx40b00_toDecimal_cabcc_287 (pc' := 290) rfl (tgt := 295) (by decide) (fun c_287 => ?_) (fun c_287 => ?_)
                      · skip
                        exact absurd c_287 (by decide)
                      · skip
                        refine yy_iload C 4 dJx40b00_toDecimal_cabcc_290 (pc' := 292) rfl rfl ?_
                        refine yy_goto C (tgt := 297) dJx40b00_toDecimal_cabcc_292 (by decide) ?_
                        refine yy_iload C 10 dJx40b00_toDecimal_cabcc_297 (pc' := 299) rfl rfl ?_
                        refine yy_iload_n C 18 dJx40b00_toDecimal_cabcc_299 (pc' := 300) rfl rfl rfl ?_
                        refine yy_iadd C (v := (r1 + (nI 0))) dJx40b00_toDecimal_cabcc_300 (pc' := 301) rfl rfl ?_
                        refine yc_i (yr_V C (n := 2) (As := [.int (r4 >>> ((nI 2) &&& 31)), .int (r1 + (nI 0))]) (rest := []) lk_Jx40b00_73 cd_Jx40b00_toChars_7cf53 im_Jx40b00_toChars_7cf53 se_Jx40b00_toChars_7cf53 (mJx40b00_toChars_7cf53 l G B0 fd fb a F (r4 >>> ((nI 2) &&& 31)) (r1 + (nI 0)) (by have hok' := hok; subst hw1 hw2 hw3 hw4 hw5 hw6; unfold td3 at hok'; dsimp only at hok'; rw [if_pos c_22, if_neg c_143, if_pos c_178, if_pos c_197, if_neg c_248, if_pos c_267] at hok'; exact hok')) ⟨by decide, by decide⟩ ⟨by decide, by decide⟩ 0 rfl rfl rfl rfl (Nat.le_of_ble_eq_true rfl) dJx40b00_toDecimal_cabcc_301) (pc' := 304) rfl (fun r7 _ hw7 => ?_)
                        subst hw7
                        subst hQ
                        exact ye_i C hr (vp_nar_int _) () dJx40b00_toDecimal_cabcc_304 (by subst hw1 hw2 hw3 hw4 hw5 hw6; unfold td3; dsimp only; rw [if_pos c_22, if_neg c_143, if_pos c_178, if_pos c_197, if_neg c_248, if_pos c_267]) (by decide) (by decide) rfl
                  · skip
                    refine yy_iconst C (v := (nI 1)) dJx40b00_toDecimal_cabcc_270 (pc' := 271) rfl (by decide) ?_
                    refine yy_goto C (tgt := 275) dJx40b00_toDecimal_cabcc_271 (by decide) ?_
                    refine yy_istore C (L' := [(21, .int (nI 1)), (20, .int (nI 1)), (19, .int ((r4 >>> ((nI 2) &&& 31)) + (nI 1))), (22, .int (nI 0)), (18, .int (r4 >>> ((nI 2) &&& 31))), (17, .int r6), (16, .int r5), (15, .int r4), (13, .long (r3 + 1)), (12, .int ((q + r2) + (nI 33))), (11, .int r1), (9, .long (((c_ <<< ((nI 2) &&& 31)).toInt64) - 1)), (7, .long (((c_ <<< ((nI 2) &&& 31)).toInt64) + (2))), (5, .long ((c_ <<< ((nI 2) &&& 31)).toInt64)), (4, .int (c_ &&& (nI 1))), (0, .ref (fd)), (1, .int q), (2, .int c_), (3, .int (nI 0))]) dJx40b00_toDecimal_cabcc_275 (pc' := 277) rfl (by decide) rfl ?_
                    refine yy_iload C 1 dJx40b00_toDecimal_cabcc_277 (pc' := 279) rfl rfl ?_
                    refine yy_iload C 0 dJx40b00_toDecimal_cabcc_279 (pc' := 281) rfl rfl ?_
                    refine yy_icmp_eq C dJx40b00_toDecimal_cabcc_281 (pc' := 284) rfl (tgt := 305) (by decide) (fun c_281 => ?_) (fun c_281 => ?_)
                    · skip
                      refine yy_iload C 7 dJx40b00_toDecimal_cabcc_305 (pc' := 307) rfl rfl ?_
                      refine yy_iload C 4 dJx40b00_toDecimal_cabcc_307 (pc' := 309) rfl rfl ?_
                      refine yy_iload C 2 dJx40b00_toDecimal_cabcc_309 (pc' := 311) rfl rfl ?_
                      refine yy_iadd C (v := ((r4 >>> ((nI 2) &&& 31)) + ((r4 >>> ((nI 2) &&& 31)) + (nI 1)))) dJx40b00_toDecimal_cabcc_311 (pc' := 312) rfl rfl ?_
                      refine yy_iconst C (v := (nI 1)) dJx40b00_toDecimal_cabcc_312 (pc' := 313) rfl (by decide) ?_
                      refine yy_ishl C (v := (((r4 >>> ((nI 2) &&& 31)) + ((r4 >>> ((nI 2) &&& 31)) + (nI 1))) <<< ((nI 1) &&& 31))) dJx40b00_toDecimal_cabcc_313 (pc' := 314) rfl rfl ?_
                      refine yy_isub C (v := (r4 - (((r4 >>> ((nI 2) &&& 31)) + ((r4 >>> ((nI 2) &&& 31)) + (nI 1))) <<< ((nI 1) &&& 31)))) dJx40b00_toDecimal_cabcc_314 (pc' := 315) rfl rfl ?_
                      refine yy_istore C (L' := [(22, .int (r4 - (((r4 >>> ((nI 2) &&& 31)) + ((r4 >>> ((nI 2) &&& 31)) + (nI 1))) <<< ((nI 1) &&& 31)))), (21, .int (nI 1)), (20, .int (nI 1)), (19, .int ((r4 >>> ((nI 2) &&& 31)) + (nI 1))), (18, .int (r4 >>> ((nI 2) &&& 31))), (17, .int r6), (16, .int r5), (15, .int r4), (13, .long (r3 + 1)), (12, .int ((q + r2) + (nI 33))), (11, .int r1), (9, .long (((c_ <<< ((nI 2) &&& 31)).toInt64) - 1)), (7, .long (((c_ <<< ((nI 2) &&& 31)).toInt64) + (2))), (5, .long ((c_ <<< ((nI 2) &&& 31)).toInt64)), (4, .int (c_ &&& (nI 1))), (0, .ref (fd)), (1, .int q), (2, .int c_), (3, .int (nI 0))]) dJx40b00_toDecimal_cabcc_315 (pc' := 317) rfl (by decide) rfl ?_
                      refine yy_aload_n C 15 dJx40b00_toDecimal_cabcc_317 (pc' := 318) rfl rfl rfl ?_
                      refine yy_iload C 0 dJx40b00_toDecimal_cabcc_318 (pc' := 320) rfl rfl ?_
                      refine yy_if_lt C dJx40b00_toDecimal_cabcc_320 (pc' := 323) rfl (tgt := 335) (by decide) (fun c_320 => ?_) (fun c_320 => ?_)
                      · skip
                        refine yy_iload C 4 dJx40b00_toDecimal_cabcc_335 (pc' := 337) rfl rfl ?_
                        refine yy_goto C (tgt := 342) dJx40b00_toDecimal_cabcc_337 (by decide) ?_
                        refine yy_iload C 10 dJx40b00_toDecimal_cabcc_342 (pc' := 344) rfl rfl ?_
                        refine yy_iload_n C 18 dJx40b00_toDecimal_cabcc_344 (pc' := 345) rfl rfl rfl ?_
                        refine yy_iadd C (v := (r1 + (nI 0))) dJx40b00_toDecimal_cabcc_345 (pc' := 346) rfl rfl ?_
                        refine yc_i (yr_V C (n := 2) (As := [.int (r4 >>> ((nI 2) &&& 31)), .int (r1 + (nI 0))]) (rest := []) lk_Jx40b00_73 cd_Jx40b00_toChars_7cf53 im_Jx40b00_toChars_7cf53 se_Jx40b00_toChars_7cf53 (mJx40b00_toChars_7cf53 l G B0 fd fb a F (r4 >>> ((nI 2) &&& 31)) (r1 + (nI 0)) (by have hok' := hok; subst hw1 hw2 hw3 hw4 hw5 hw6; unfold td3 at hok'; dsimp only at hok'; rw [if_pos c_22, if_neg c_143, if_pos c_178, if_pos c_197, if_neg c_248, if_neg c_267, if_pos c_320] at hok'; exact hok')) ⟨by decide, by decide⟩ ⟨by decide, by decide⟩ 0 rfl rfl rfl rfl (Nat.le_of_ble_eq_true rfl) dJx40b00_toDecimal_cabcc_346) (pc' := 349) rfl (fun r7 _ hw7 => ?_)
                        subst hw7
                        subst hQ
                        exact ye_i C hr (vp_nar_int _) () dJx40b00_toDecimal_cabcc_349 (by subst hw1 hw2 hw3 hw4 hw5 hw6; unfold td3; dsimp only; rw [if_pos c_22, if_neg c_143, if_pos c_178, if_pos c_197, if_neg c_248, if_neg c_267, if_pos c_320]) (by decide) (by decide) rfl
                      · skip
                        refine yy_iload C 0 dJx40b00_toDecimal_cabcc_323 (pc' := 325) rfl rfl ?_
                        refine yy_if_ne C dJx40b00_toDecimal_cabcc_325 (pc' := 328) rfl (tgt := 340) (by decide) (fun c_325 => ?_) (fun c_325 => ?_)
                        · skip
                          refine yy_iload C 3 dJx40b00_toDecimal_cabcc_340 (pc' := 342) rfl rfl ?_
                          refine yy_iload C 10 dJx40b00_toDecimal_cabcc_342 (pc' := 344) rfl rfl ?_
                          refine yy_iload_n C 18 dJx40b00_toDecimal_cabcc_344 (pc' := 345) rfl rfl rfl ?_
                          refine yy_iadd C (v := (r1 + (nI 0))) dJx40b00_toDecimal_cabcc_345 (pc' := 346) rfl rfl ?_
                          refine yc_i (yr_V C (n := 2) (As := [.int ((r4 >>> ((nI 2) &&& 31)) + (nI 1)), .int (r1 + (nI 0))]) (rest := []) lk_Jx40b00_73 cd_Jx40b00_toChars_7cf53 im_Jx40b00_toChars_7cf53 se_Jx40b00_toChars_7cf53 (mJx40b00_toChars_7cf53 l G B0 fd fb a F ((r4 >>> ((nI 2) &&& 31)) + (nI 1)) (r1 + (nI 0)) (by have hok' := hok; subst hw1 hw2 hw3 hw4 hw5 hw6; unfold td3 at hok'; dsimp only at hok'; rw [if_pos c_22, if_neg c_143, if_pos c_178, if_pos c_197, if_neg c_248, if_neg c_267, if_neg c_320, if_neg c_325] at hok'; exact hok')) ⟨by decide, by decide⟩ ⟨by decide, by decide⟩ 0 rfl rfl rfl rfl (Nat.le_of_ble_eq_true rfl) dJx40b00_toDecimal_cabcc_346) (pc' := 349) rfl (fun r7 _ hw7 => ?_)
                          subst hw7
                          subst hQ
                          exact ye_i C hr (vp_nar_int _) () dJx40b00_toDecimal_cabcc_349 (by subst hw1 hw2 hw3 hw4 hw5 hw6; unfold td3; dsimp only; rw [if_pos c_22, if_neg c_143, if_pos c_178, if_pos c_197, if_neg c_248, if_neg c_267, if_neg c_320, if_neg c_325]) (by decide) (by decide) rfl
                        · skip
                          refine yy_iload C 4 dJx40b00_toDecimal_cabcc_328 (pc' := 330) rfl rfl ?_
                          refine yy_iconst C (v := (nI 1)) dJx40b00_toDecimal_cabcc_330 (pc' := 331) rfl (by decide) ?_
                          refine yy_iand C (v := ((r4 >>> ((nI 2) &&& 31)) &&& (nI 1))) dJx40b00_toDecimal_cabcc_331 (pc' := 332) rfl rfl ?_
                          refine yy_if_ne C dJx40b00_toDecimal_cabcc_332 (pc' := 335) rfl (tgt := 340) (by decide) (fun c_332 => ?_) (fun c_332 => ?_)
                          · skip
                            refine yy_iload C 3 dJx40b00_toDecimal_cabcc_340 (pc' := 342) rfl rfl ?_
                            refine yy_iload C 10 dJx40b00_toDecimal_cabcc_342 (pc' := 344) rfl rfl ?_
                            refine yy_iload_n C 18 dJx40b00_toDecimal_cabcc_344 (pc' := 345) rfl rfl rfl ?_
                            refine yy_iadd C (v := (r1 + (nI 0))) dJx40b00_toDecimal_cabcc_345 (pc' := 346) rfl rfl ?_
                            refine yc_i (yr_V C (n := 2) (As := [.int ((r4 >>> ((nI 2) &&& 31)) + (nI 1)), .int (r1 + (nI 0))]) (rest := []) lk_Jx40b00_73 cd_Jx40b00_toChars_7cf53 im_Jx40b00_toChars_7cf53 se_Jx40b00_toChars_7cf53 (mJx40b00_toChars_7cf53 l G B0 fd fb a F ((r4 >>> ((nI 2) &&& 31)) + (nI 1)) (r1 + (nI 0)) (by have hok' := hok; subst hw1 hw2 hw3 hw4 hw5 hw6; unfold td3 at hok'; dsimp only at hok'; rw [if_pos c_22, if_neg c_143, if_pos c_178, if_pos c_197, if_neg c_248, if_neg c_267, if_neg c_320, if_pos c_325, if_neg c_332] at hok'; exact hok')) ⟨by decide, by decide⟩ ⟨by decide, by decide⟩ 0 rfl rfl rfl rfl (Nat.le_of_ble_eq_true rfl) dJx40b00_toDecimal_cabcc_346) (pc' := 349) rfl (fun r7 _ hw7 => ?_)
                            subst hw7
                            subst hQ
                            exact ye_i C hr (vp_nar_int _) () dJx40b00_toDecimal_cabcc_349 (by subst hw1 hw2 hw3 hw4 hw5 hw6; unfold td3; dsimp only; rw [if_pos c_22, if_neg c_143, if_pos c_178, if_pos c_197, if_neg c_248, if_neg c_267, if_neg c_320, if_pos c_325, if_neg c_332]) (by decide) (by decide) rfl
                          · skip
                            refine yy_iload C 4 dJx40b00_toDecimal_cabcc_335 (pc' := 337) rfl rfl ?_
                            refine yy_goto C (tgt := 342) dJx40b00_toDecimal_cabcc_337 (by decide) ?_
                            refine yy_iload C 10 dJx40b00_toDecimal_cabcc_342 (pc' := 344) rfl rfl ?_
                            refine yy_iload_n C 18 dJx40b00_toDecimal_cabcc_344 (pc' := 345) rfl rfl rfl ?_
                            refine yy_iadd C (v := (r1 + (nI 0))) dJx40b00_toDecimal_cabcc_345 (pc' := 346) rfl rfl ?_
                            refine yc_i (yr_V C (n := 2) (As := [.int (r4 >>> ((nI 2) &&& 31)), .int (r1 + (nI 0))]) (rest := []) lk_Jx40b00_73 cd_Jx40b00_toChars_7cf53 im_Jx40b00_toChars_7cf53 se_Jx40b00_toChars_7cf53 (mJx40b00_toChars_7cf53 l G B0 fd fb a F (r4 >>> ((nI 2) &&& 31)) (r1 + (nI 0)) (by have hok' := hok; subst hw1 hw2 hw3 hw4 hw5 hw6; unfold td3 at hok'; dsimp only at hok'; rw [if_pos c_22, if_neg c_143, if_pos c_178, if_pos c_197, if_neg c_248, if_neg c_267, if_neg c_320, if_pos c_325, if_pos c_332] at hok'; exact hok')) ⟨by decide, by decide⟩ ⟨by decide, by decide⟩ 0 rfl rfl rfl rfl (Nat.le_of_ble_eq_true rfl) dJx40b00_toDecimal_cabcc_346) (pc' := 349) rfl (fun r7 _ hw7 => ?_)
                            subst hw7
                            subst hQ
                            exact ye_i C hr (vp_nar_int _) () dJx40b00_toDecimal_cabcc_349 (by subst hw1 hw2 hw3 hw4 hw5 hw6; unfold td3; dsimp only; rw [if_pos c_22, if_neg c_143, if_pos c_178, if_pos c_197, if_neg c_248, if_neg c_267, if_neg c_320, if_pos c_325, if_pos c_332]) (by decide) (by decide) rfl
                    · skip
                      exact absurd c_281 (by decide)
              · skip
                exact absurd c_211 (by decide)
            · skip
              refine yy_iconst C (v := (nI 1)) dJx40b00_toDecimal_cabcc_200 (pc' := 201) rfl (by decide) ?_
              refine yy_goto C (tgt := 205) dJx40b00_toDecimal_cabcc_201 (by decide) ?_
              refine yy_istore C (L' := [(22, .int (nI 1)), (21, .int (nI 0)), (20, .int (((nI 10) * ((ush (((r4 >>> ((nI 2) &&& 31)).toInt64) * (1717986919)) (nI 34)).toInt32)) + (nI 10))), (19, .int ((nI 10) * ((ush (((r4 >>> ((nI 2) &&& 31)).toInt64) * (1717986919)) (nI 34)).toInt32))), (18, .int (r4 >>> ((nI 2) &&& 31))), (17, .int r6), (16, .int r5), (15, .int r4), (13, .long (r3 + 1)), (12, .int ((q + r2) + (nI 33))), (11, .int r1), (9, .long (((c_ <<< ((nI 2) &&& 31)).toInt64) - 1)), (7, .long (((c_ <<< ((nI 2) &&& 31)).toInt64) + (2))), (5, .long ((c_ <<< ((nI 2) &&& 31)).toInt64)), (4, .int (c_ &&& (nI 1))), (0, .ref (fd)), (1, .int q), (2, .int c_), (3, .int (nI 0))]) dJx40b00_toDecimal_cabcc_205 (pc' := 207) rfl (by decide) rfl ?_
              refine yy_iload C 1 dJx40b00_toDecimal_cabcc_207 (pc' := 209) rfl rfl ?_
              refine yy_iload C 0 dJx40b00_toDecimal_cabcc_209 (pc' := 211) rfl rfl ?_
              refine yy_icmp_eq C dJx40b00_toDecimal_cabcc_211 (pc' := 214) rfl (tgt := 233) (by decide) (fun c_211 => ?_) (fun c_211 => ?_)
              · skip
                exact absurd c_211 (by decide)
              · skip
                refine yy_aload_n C 15 dJx40b00_toDecimal_cabcc_214 (pc' := 215) rfl rfl rfl ?_
                refine yy_iload C 1 dJx40b00_toDecimal_cabcc_215 (pc' := 217) rfl rfl ?_
                refine yy_if_eq C dJx40b00_toDecimal_cabcc_217 (pc' := 220) rfl (tgt := 225) (by decide) (fun c_217 => ?_) (fun c_217 => ?_)
                · skip
                  refine yy_iload C 2 dJx40b00_toDecimal_cabcc_225 (pc' := 227) rfl rfl ?_
                  refine yy_iload C 10 dJx40b00_toDecimal_cabcc_227 (pc' := 229) rfl rfl ?_
                  refine yc_i (yr_V C (n := 2) (As := [.int (((nI 10) * ((ush (((r4 >>> ((nI 2) &&& 31)).toInt64) * (1717986919)) (nI 34)).toInt32)) + (nI 10)), .int r1]) (rest := []) lk_Jx40b00_73 cd_Jx40b00_toChars_7cf53 im_Jx40b00_toChars_7cf53 se_Jx40b00_toChars_7cf53 (mJx40b00_toChars_7cf53 l G B0 fd fb a F (((nI 10) * ((ush (((r4 >>> ((nI 2) &&& 31)).toInt64) * (1717986919)) (nI 34)).toInt32)) + (nI 10)) r1 (by have hok' := hok; subst hw1 hw2 hw3 hw4 hw5 hw6; unfold td3 at hok'; dsimp only at hok'; rw [if_pos c_22, if_neg c_143, if_pos c_178, if_neg c_197] at hok'; exact hok')) ⟨by decide, by decide⟩ ⟨by decide, by decide⟩ 0 rfl rfl rfl rfl (Nat.le_of_ble_eq_true rfl) dJx40b00_toDecimal_cabcc_229) (pc' := 232) rfl (fun r7 _ hw7 => ?_)
                  subst hw7
                  subst hQ
                  exact ye_i C hr (vp_nar_int _) () dJx40b00_toDecimal_cabcc_232 (by subst hw1 hw2 hw3 hw4 hw5 hw6; unfold td3; dsimp only; rw [if_pos c_22, if_neg c_143, if_pos c_178, if_neg c_197]) (by decide) (by decide) rfl
                · skip
                  exact absurd c_217 (by decide)
          · skip
            refine yy_iconst C (v := (nI 1)) dJx40b00_toDecimal_cabcc_181 (pc' := 182) rfl (by decide) ?_
            refine yy_goto C (tgt := 186) dJx40b00_toDecimal_cabcc_182 (by decide) ?_
            refine yy_istore C (L' := [(21, .int (nI 1)), (20, .int (((nI 10) * ((ush (((r4 >>> ((nI 2) &&& 31)).toInt64) * (1717986919)) (nI 34)).toInt32)) + (nI 10))), (19, .int ((nI 10) * ((ush (((r4 >>> ((nI 2) &&& 31)).toInt64) * (1717986919)) (nI 34)).toInt32))), (18, .int (r4 >>> ((nI 2) &&& 31))), (17, .int r6), (16, .int r5), (15, .int r4), (13, .long (r3 + 1)), (12, .int ((q + r2) + (nI 33))), (11, .int r1), (9, .long (((c_ <<< ((nI 2) &&& 31)).toInt64) - 1)), (7, .long (((c_ <<< ((nI 2) &&& 31)).toInt64) + (2))), (5, .long ((c_ <<< ((nI 2) &&& 31)).toInt64)), (4, .int (c_ &&& (nI 1))), (0, .ref (fd)), (1, .int q), (2, .int c_), (3, .int (nI 0))]) dJx40b00_toDecimal_cabcc_186 (pc' := 188) rfl (by decide) rfl ?_
            refine yy_iload C 1 dJx40b00_toDecimal_cabcc_188 (pc' := 190) rfl rfl ?_
            refine yy_iconst C (v := (nI 2)) dJx40b00_toDecimal_cabcc_190 (pc' := 191) rfl (by decide) ?_
            refine yy_ishl C (v := ((((nI 10) * ((ush (((r4 >>> ((nI 2) &&& 31)).toInt64) * (1717986919)) (nI 34)).toInt32)) + (nI 10)) <<< ((nI 2) &&& 31))) dJx40b00_toDecimal_cabcc_191 (pc' := 192) rfl rfl ?_
            refine yy_iload C 13 dJx40b00_toDecimal_cabcc_192 (pc' := 194) rfl rfl ?_
            refine yy_iadd C (v := (((((nI 10) * ((ush (((r4 >>> ((nI 2) &&& 31)).toInt64) * (1717986919)) (nI 34)).toInt32)) + (nI 10)) <<< ((nI 2) &&& 31)) + (c_ &&& (nI 1)))) dJx40b00_toDecimal_cabcc_194 (pc' := 195) rfl rfl ?_
            refine yy_iload C 4 dJx40b00_toDecimal_cabcc_195 (pc' := 197) rfl rfl ?_
            refine yy_icmp_gt C dJx40b00_toDecimal_cabcc_197 (pc' := 200) rfl (tgt := 204) (by decide) (fun c_197 => ?_) (fun c_197 => ?_)
            · skip
              refine yy_iconst C (v := (nI 0)) dJx40b00_toDecimal_cabcc_204 (pc' := 205) rfl (by decide) ?_
              refine yy_istore C (L' := [(22, .int (nI 0)), (21, .int (nI 1)), (20, .int (((nI 10) * ((ush (((r4 >>> ((nI 2) &&& 31)).toInt64) * (1717986919)) (nI 34)).toInt32)) + (nI 10))), (19, .int ((nI 10) * ((ush (((r4 >>> ((nI 2) &&& 31)).toInt64) * (1717986919)) (nI 34)).toInt32))), (18, .int (r4 >>> ((nI 2) &&& 31))), (17, .int r6), (16, .int r5), (15, .int r4), (13, .long (r3 + 1)), (12, .int ((q + r2) + (nI 33))), (11, .int r1), (9, .long (((c_ <<< ((nI 2) &&& 31)).toInt64) - 1)), (7, .long (((c_ <<< ((nI 2) &&& 31)).toInt64) + (2))), (5, .long ((c_ <<< ((nI 2) &&& 31)).toInt64)), (4, .int (c_ &&& (nI 1))), (0, .ref (fd)), (1, .int q), (2, .int c_), (3, .int (nI 0))]) dJx40b00_toDecimal_cabcc_205 (pc' := 207) rfl (by decide) rfl ?_
              refine yy_iload C 1 dJx40b00_toDecimal_cabcc_207 (pc' := 209) rfl rfl ?_
              refine yy_iload C 0 dJx40b00_toDecimal_cabcc_209 (pc' := 211) rfl rfl ?_
              refine yy_icmp_eq C dJx40b00_toDecimal_cabcc_211 (pc' := 214) rfl (tgt := 233) (by decide) (fun c_211 => ?_) (fun c_211 => ?_)
              · skip
                exact absurd c_211 (by decide)
              · skip
                refine yy_aload_n C 15 dJx40b00_toDecimal_cabcc_214 (pc' := 215) rfl rfl rfl ?_
                refine yy_iload C 1 dJx40b00_toDecimal_cabcc_215 (pc' := 217) rfl rfl ?_
                refine yy_if_eq C dJx40b00_toDecimal_cabcc_217 (pc' := 220) rfl (tgt := 225) (by decide) (fun c_217 => ?_) (fun c_217 => ?_)
                · skip
                  exact absurd c_217 (by decide)
                · skip
                  refine yy_iload C 3 dJx40b00_toDecimal_cabcc_220 (pc' := 222) rfl rfl ?_
                  refine yy_goto C (tgt := 227) dJx40b00_toDecimal_cabcc_222 (by decide) ?_
                  refine yy_iload C 10 dJx40b00_toDecimal_cabcc_227 (pc' := 229) rfl rfl ?_
                  refine yc_i (yr_V C (n := 2) (As := [.int ((nI 10) * ((ush (((r4 >>> ((nI 2) &&& 31)).toInt64) * (1717986919)) (nI 34)).toInt32)), .int r1]) (rest := []) lk_Jx40b00_73 cd_Jx40b00_toChars_7cf53 im_Jx40b00_toChars_7cf53 se_Jx40b00_toChars_7cf53 (mJx40b00_toChars_7cf53 l G B0 fd fb a F ((nI 10) * ((ush (((r4 >>> ((nI 2) &&& 31)).toInt64) * (1717986919)) (nI 34)).toInt32)) r1 (by have hok' := hok; subst hw1 hw2 hw3 hw4 hw5 hw6; unfold td3 at hok'; dsimp only at hok'; rw [if_pos c_22, if_neg c_143, if_neg c_178, if_pos c_197] at hok'; exact hok')) ⟨by decide, by decide⟩ ⟨by decide, by decide⟩ 0 rfl rfl rfl rfl (Nat.le_of_ble_eq_true rfl) dJx40b00_toDecimal_cabcc_229) (pc' := 232) rfl (fun r7 _ hw7 => ?_)
                  subst hw7
                  subst hQ
                  exact ye_i C hr (vp_nar_int _) () dJx40b00_toDecimal_cabcc_232 (by subst hw1 hw2 hw3 hw4 hw5 hw6; unfold td3; dsimp only; rw [if_pos c_22, if_neg c_143, if_neg c_178, if_pos c_197]) (by decide) (by decide) rfl
            · skip
              refine yy_iconst C (v := (nI 1)) dJx40b00_toDecimal_cabcc_200 (pc' := 201) rfl (by decide) ?_
              refine yy_goto C (tgt := 205) dJx40b00_toDecimal_cabcc_201 (by decide) ?_
              refine yy_istore C (L' := [(22, .int (nI 1)), (21, .int (nI 1)), (20, .int (((nI 10) * ((ush (((r4 >>> ((nI 2) &&& 31)).toInt64) * (1717986919)) (nI 34)).toInt32)) + (nI 10))), (19, .int ((nI 10) * ((ush (((r4 >>> ((nI 2) &&& 31)).toInt64) * (1717986919)) (nI 34)).toInt32))), (18, .int (r4 >>> ((nI 2) &&& 31))), (17, .int r6), (16, .int r5), (15, .int r4), (13, .long (r3 + 1)), (12, .int ((q + r2) + (nI 33))), (11, .int r1), (9, .long (((c_ <<< ((nI 2) &&& 31)).toInt64) - 1)), (7, .long (((c_ <<< ((nI 2) &&& 31)).toInt64) + (2))), (5, .long ((c_ <<< ((nI 2) &&& 31)).toInt64)), (4, .int (c_ &&& (nI 1))), (0, .ref (fd)), (1, .int q), (2, .int c_), (3, .int (nI 0))]) dJx40b00_toDecimal_cabcc_205 (pc' := 207) rfl (by decide) rfl ?_
              refine yy_iload C 1 dJx40b00_toDecimal_cabcc_207 (pc' := 209) rfl rfl ?_
              refine yy_iload C 0 dJx40b00_toDecimal_cabcc_209 (pc' := 211) rfl rfl ?_
              refine yy_icmp_eq C dJx40b00_toDecimal_cabcc_211 (pc' := 214) rfl (tgt := 233) (by decide) (fun c_211 => ?_) (fun c_211 => ?_)
              · skip
                refine yy_iload C 4 dJx40b00_toDecimal_cabcc_233 (pc' := 235) rfl rfl ?_
                refine yy_iconst C (v := (nI 1)) dJx40b00_toDecimal_cabcc_235 (pc' := 236) rfl (by decide) ?_
                refine yy_iadd C (v := ((r4 >>> ((nI 2) &&& 31)) + (nI 1))) dJx40b00_toDecimal_cabcc_236 (pc' := 237) rfl rfl ?_
                refine yy_istore C (L' := [(19, .int ((r4 >>> ((nI 2) &&& 31)) + (nI 1))), (22, .int (nI 1)), (21, .int (nI 1)), (20, .int (((nI 10) * ((ush (((r4 >>> ((nI 2) &&& 31)).toInt64) * (1717986919)) (nI 34)).toInt32)) + (nI 10))), (18, .int (r4 >>> ((nI 2) &&& 31))), (17, .int r6), (16, .int r5), (15, .int r4), (13, .long (r3 + 1)), (12, .int ((q + r2) + (nI 33))), (11, .int r1), (9, .long (((c_ <<< ((nI 2) &&& 31)).toInt64) - 1)), (7, .long (((c_ <<< ((nI 2) &&& 31)).toInt64) + (2))), (5, .long ((c_ <<< ((nI 2) &&& 31)).toInt64)), (4, .int (c_ &&& (nI 1))), (0, .ref (fd)), (1, .int q), (2, .int c_), (3, .int (nI 0))]) dJx40b00_toDecimal_cabcc_237 (pc' := 239) rfl (by decide) rfl ?_
                refine yy_iload C 6 dJx40b00_toDecimal_cabcc_239 (pc' := 241) rfl rfl ?_
                refine yy_iload C 14 dJx40b00_toDecimal_cabcc_241 (pc' := 243) rfl rfl ?_
                refine yy_iadd C (v := (r5 + (c_ &&& (nI 1)))) dJx40b00_toDecimal_cabcc_243 (pc' := 244) rfl rfl ?_
                refine yy_iload C 4 dJx40b00_toDecimal_cabcc_244 (pc' := 246) rfl rfl ?_
                refine yy_iconst C (v := (nI 2)) dJx40b00_toDecimal_cabcc_246 (pc' := 247) rfl (by decide) ?_
                refine yy_ishl C (v := ((r4 >>> ((nI 2) &&& 31)) <<< ((nI 2) &&& 31))) dJx40b00_toDecimal_cabcc_247 (pc' := 248) rfl rfl ?_
                refine yy_icmp_gt C dJx40b00_toDecimal_cabcc_248 (pc' := 251) rfl (tgt := 255) (by decide) (fun c_248 => ?_) (fun c_248 => ?_)
                · skip
                  refine yy_iconst C (v := (nI 0)) dJx40b00_toDecimal_cabcc_255 (pc' := 256) rfl (by decide) ?_
                  refine yy_istore C (L' := [(20, .int (nI 0)), (19, .int ((r4 >>> ((nI 2) &&& 31)) + (nI 1))), (22, .int (nI 1)), (21, .int (nI 1)), (18, .int (r4 >>> ((nI 2) &&& 31))), (17, .int r6), (16, .int r5), (15, .int r4), (13, .long (r3 + 1)), (12, .int ((q + r2) + (nI 33))), (11, .int r1), (9, .long (((c_ <<< ((nI 2) &&& 31)).toInt64) - 1)), (7, .long (((c_ <<< ((nI 2) &&& 31)).toInt64) + (2))), (5, .long ((c_ <<< ((nI 2) &&& 31)).toInt64)), (4, .int (c_ &&& (nI 1))), (0, .ref (fd)), (1, .int q), (2, .int c_), (3, .int (nI 0))]) dJx40b00_toDecimal_cabcc_256 (pc' := 258) rfl (by decide) rfl ?_
                  refine yy_iload C 1 dJx40b00_toDecimal_cabcc_258 (pc' := 260) rfl rfl ?_
                  refine yy_iconst C (v := (nI 2)) dJx40b00_toDecimal_cabcc_260 (pc' := 261) rfl (by decide) ?_
                  refine yy_ishl C (v := (((r4 >>> ((nI 2) &&& 31)) + (nI 1)) <<< ((nI 2) &&& 31))) dJx40b00_toDecimal_cabcc_261 (pc' := 262) rfl rfl ?_
                  refine yy_iload C 14 dJx40b00_toDecimal_cabcc_262 (pc' := 264) rfl rfl ?_
                  refine yy_iadd C (v := ((((r4 >>> ((nI 2) &&& 31)) + (nI 1)) <<< ((nI 2) &&& 31)) + (c_ &&& (nI 1)))) dJx40b00_toDecimal_cabcc_264 (pc' := 265) rfl rfl ?_
                  refine yy_iload C 5 dJx40b00_toDecimal_cabcc_265 (pc' := 267) rfl rfl ?_
                  refine yy_icmp_gt C dJx40b00_toDecimal_cabcc_267 (pc' := 270) rfl (tgt := 274) (by decide) (fun c_267 => ?_) (fun c_267 => ?_)
                  · skip
                    refine yy_iconst C (v := (nI 0)) dJx40b00_toDecimal_cabcc_274 (pc' := 275) rfl (by decide) ?_
                    refine yy_istore C (L' := [(21, .int (nI 0)), (20, .int (nI 0)), (19, .int ((r4 >>> ((nI 2) &&& 31)) + (nI 1))), (22, .int (nI 1)), (18, .int (r4 >>> ((nI 2) &&& 31))), (17, .int r6), (16, .int r5), (15, .int r4), (13, .long (r3 + 1)), (12, .int ((q + r2) + (nI 33))), (11, .int r1), (9, .long (((c_ <<< ((nI 2) &&& 31)).toInt64) - 1)), (7, .long (((c_ <<< ((nI 2) &&& 31)).toInt64) + (2))), (5, .long ((c_ <<< ((nI 2) &&& 31)).toInt64)), (4, .int (c_ &&& (nI 1))), (0, .ref (fd)), (1, .int q), (2, .int c_), (3, .int (nI 0))]) dJx40b00_toDecimal_cabcc_275 (pc' := 277) rfl (by decide) rfl ?_
                    refine yy_iload C 1 dJx40b00_toDecimal_cabcc_277 (pc' := 279) rfl rfl ?_
                    refine yy_iload C 0 dJx40b00_toDecimal_cabcc_279 (pc' := 281) rfl rfl ?_
                    refine yy_icmp_eq C dJx40b00_toDecimal_cabcc_281 (pc' := 284) rfl (tgt := 305) (by decide) (fun c_281 => ?_) (fun c_281 => ?_)
                    · skip
                      refine yy_iload C 7 dJx40b00_toDecimal_cabcc_305 (pc' := 307) rfl rfl ?_
                      refine yy_iload C 4 dJx40b00_toDecimal_cabcc_307 (pc' := 309) rfl rfl ?_
                      refine yy_iload C 2 dJx40b00_toDecimal_cabcc_309 (pc' := 311) rfl rfl ?_
                      refine yy_iadd C (v := ((r4 >>> ((nI 2) &&& 31)) + ((r4 >>> ((nI 2) &&& 31)) + (nI 1)))) dJx40b00_toDecimal_cabcc_311 (pc' := 312) rfl rfl ?_
                      refine yy_iconst C (v := (nI 1)) dJx40b00_toDecimal_cabcc_312 (pc' := 313) rfl (by decide) ?_
                      refine yy_ishl C (v := (((r4 >>> ((nI 2) &&& 31)) + ((r4 >>> ((nI 2) &&& 31)) + (nI 1))) <<< ((nI 1) &&& 31))) dJx40b00_toDecimal_cabcc_313 (pc' := 314) rfl rfl ?_
                      refine yy_isub C (v := (r4 - (((r4 >>> ((nI 2) &&& 31)) + ((r4 >>> ((nI 2) &&& 31)) + (nI 1))) <<< ((nI 1) &&& 31)))) dJx40b00_toDecimal_cabcc_314 (pc' := 315) rfl rfl ?_
                      refine yy_istore C (L' := [(22, .int (r4 - (((r4 >>> ((nI 2) &&& 31)) + ((r4 >>> ((nI 2) &&& 31)) + (nI 1))) <<< ((nI 1) &&& 31)))), (21, .int (nI 0)), (20, .int (nI 0)), (19, .int ((r4 >>> ((nI 2) &&& 31)) + (nI 1))), (18, .int (r4 >>> ((nI 2) &&& 31))), (17, .int r6), (16, .int r5), (15, .int r4), (13, .long (r3 + 1)), (12, .int ((q + r2) + (nI 33))), (11, .int r1), (9, .long (((c_ <<< ((nI 2) &&& 31)).toInt64) - 1)), (7, .long (((c_ <<< ((nI 2) &&& 31)).toInt64) + (2))), (5, .long ((c_ <<< ((nI 2) &&& 31)).toInt64)), (4, .int (c_ &&& (nI 1))), (0, .ref (fd)), (1, .int q), (2, .int c_), (3, .int (nI 0))]) dJx40b00_toDecimal_cabcc_315 (pc' := 317) rfl (by decide) rfl ?_
                      refine yy_aload_n C 15 dJx40b00_toDecimal_cabcc_317 (pc' := 318) rfl rfl rfl ?_
                      refine yy_iload C 0 dJx40b00_toDecimal_cabcc_318 (pc' := 320) rfl rfl ?_
                      refine yy_if_lt C dJx40b00_toDecimal_cabcc_320 (pc' := 323) rfl (tgt := 335) (by decide) (fun c_320 => ?_) (fun c_320 => ?_)
                      · skip
                        refine yy_iload C 4 dJx40b00_toDecimal_cabcc_335 (pc' := 337) rfl rfl ?_
                        refine yy_goto C (tgt := 342) dJx40b00_toDecimal_cabcc_337 (by decide) ?_
                        refine yy_iload C 10 dJx40b00_toDecimal_cabcc_342 (pc' := 344) rfl rfl ?_
                        refine yy_iload_n C 18 dJx40b00_toDecimal_cabcc_344 (pc' := 345) rfl rfl rfl ?_
                        refine yy_iadd C (v := (r1 + (nI 0))) dJx40b00_toDecimal_cabcc_345 (pc' := 346) rfl rfl ?_
                        refine yc_i (yr_V C (n := 2) (As := [.int (r4 >>> ((nI 2) &&& 31)), .int (r1 + (nI 0))]) (rest := []) lk_Jx40b00_73 cd_Jx40b00_toChars_7cf53 im_Jx40b00_toChars_7cf53 se_Jx40b00_toChars_7cf53 (mJx40b00_toChars_7cf53 l G B0 fd fb a F (r4 >>> ((nI 2) &&& 31)) (r1 + (nI 0)) (by have hok' := hok; subst hw1 hw2 hw3 hw4 hw5 hw6; unfold td3 at hok'; dsimp only at hok'; rw [if_pos c_22, if_neg c_143, if_neg c_178, if_neg c_197, if_pos c_248, if_pos c_267, if_pos c_320] at hok'; exact hok')) ⟨by decide, by decide⟩ ⟨by decide, by decide⟩ 0 rfl rfl rfl rfl (Nat.le_of_ble_eq_true rfl) dJx40b00_toDecimal_cabcc_346) (pc' := 349) rfl (fun r7 _ hw7 => ?_)
                        subst hw7
                        subst hQ
                        exact ye_i C hr (vp_nar_int _) () dJx40b00_toDecimal_cabcc_349 (by subst hw1 hw2 hw3 hw4 hw5 hw6; unfold td3; dsimp only; rw [if_pos c_22, if_neg c_143, if_neg c_178, if_neg c_197, if_pos c_248, if_pos c_267, if_pos c_320]) (by decide) (by decide) rfl
                      · skip
                        refine yy_iload C 0 dJx40b00_toDecimal_cabcc_323 (pc' := 325) rfl rfl ?_
                        refine yy_if_ne C dJx40b00_toDecimal_cabcc_325 (pc' := 328) rfl (tgt := 340) (by decide) (fun c_325 => ?_) (fun c_325 => ?_)
                        · skip
                          refine yy_iload C 3 dJx40b00_toDecimal_cabcc_340 (pc' := 342) rfl rfl ?_
                          refine yy_iload C 10 dJx40b00_toDecimal_cabcc_342 (pc' := 344) rfl rfl ?_
                          refine yy_iload_n C 18 dJx40b00_toDecimal_cabcc_344 (pc' := 345) rfl rfl rfl ?_
                          refine yy_iadd C (v := (r1 + (nI 0))) dJx40b00_toDecimal_cabcc_345 (pc' := 346) rfl rfl ?_
                          refine yc_i (yr_V C (n := 2) (As := [.int ((r4 >>> ((nI 2) &&& 31)) + (nI 1)), .int (r1 + (nI 0))]) (rest := []) lk_Jx40b00_73 cd_Jx40b00_toChars_7cf53 im_Jx40b00_toChars_7cf53 se_Jx40b00_toChars_7cf53 (mJx40b00_toChars_7cf53 l G B0 fd fb a F ((r4 >>> ((nI 2) &&& 31)) + (nI 1)) (r1 + (nI 0)) (by have hok' := hok; subst hw1 hw2 hw3 hw4 hw5 hw6; unfold td3 at hok'; dsimp only at hok'; rw [if_pos c_22, if_neg c_143, if_neg c_178, if_neg c_197, if_pos c_248, if_pos c_267, if_neg c_320, if_neg c_325] at hok'; exact hok')) ⟨by decide, by decide⟩ ⟨by decide, by decide⟩ 0 rfl rfl rfl rfl (Nat.le_of_ble_eq_true rfl) dJx40b00_toDecimal_cabcc_346) (pc' := 349) rfl (fun r7 _ hw7 => ?_)
                          subst hw7
                          subst hQ
                          exact ye_i C hr (vp_nar_int _) () dJx40b00_toDecimal_cabcc_349 (by subst hw1 hw2 hw3 hw4 hw5 hw6; unfold td3; dsimp only; rw [if_pos c_22, if_neg c_143, if_neg c_178, if_neg c_197, if_pos c_248, if_pos c_267, if_neg c_320, if_neg c_325]) (by decide) (by decide) rfl
                        · skip
                          refine yy_iload C 4 dJx40b00_toDecimal_cabcc_328 (pc' := 330) rfl rfl ?_
                          refine yy_iconst C (v := (nI 1)) dJx40b00_toDecimal_cabcc_330 (pc' := 331) rfl (by decide) ?_
                          refine yy_iand C (v := ((r4 >>> ((nI 2) &&& 31)) &&& (nI 1))) dJx40b00_toDecimal_cabcc_331 (pc' := 332) rfl rfl ?_
                          refine yy_if_ne C dJx40b00_toDecimal_cabcc_332 (pc' := 335) rfl (tgt := 340) (by decide) (fun c_332 => ?_) (fun c_332 => ?_)
                          · skip
                            refine yy_iload C 3 dJx40b00_toDecimal_cabcc_340 (pc' := 342) rfl rfl ?_
                            refine yy_iload C 10 dJx40b00_toDecimal_cabcc_342 (pc' := 344) rfl rfl ?_
                            refine yy_iload_n C 18 dJx40b00_toDecimal_cabcc_344 (pc' := 345) rfl rfl rfl ?_
                            refine yy_iadd C (v := (r1 + (nI 0))) dJx40b00_toDecimal_cabcc_345 (pc' := 346) rfl rfl ?_
                            refine yc_i (yr_V C (n := 2) (As := [.int ((r4 >>> ((nI 2) &&& 31)) + (nI 1)), .int (r1 + (nI 0))]) (rest := []) lk_Jx40b00_73 cd_Jx40b00_toChars_7cf53 im_Jx40b00_toChars_7cf53 se_Jx40b00_toChars_7cf53 (mJx40b00_toChars_7cf53 l G B0 fd fb a F ((r4 >>> ((nI 2) &&& 31)) + (nI 1)) (r1 + (nI 0)) (by have hok' := hok; subst hw1 hw2 hw3 hw4 hw5 hw6; unfold td3 at hok'; dsimp only at hok'; rw [if_pos c_22, if_neg c_143, if_neg c_178, if_neg c_197, if_pos c_248, if_pos c_267, if_neg c_320, if_pos c_325, if_neg c_332] at hok'; exact hok')) ⟨by decide, by decide⟩ ⟨by decide, by decide⟩ 0 rfl rfl rfl rfl (Nat.le_of_ble_eq_true rfl) dJx40b00_toDecimal_cabcc_346) (pc' := 349) rfl (fun r7 _ hw7 => ?_)
                            subst hw7
                            subst hQ
                            exact ye_i C hr (vp_nar_int _) () dJx40b00_toDecimal_cabcc_349 (by subst hw1 hw2 hw3 hw4 hw5 hw6; unfold td3; dsimp only; rw [if_pos c_22, if_neg c_143, if_neg c_178, if_neg c_197, if_pos c_248, if_pos c_267, if_neg c_320, if_pos c_325, if_neg c_332]) (by decide) (by decide) rfl
                          · skip
                            refine yy_iload C 4 dJx40b00_toDecimal_cabcc_335 (pc' := 337) rfl rfl ?_
                            refine yy_goto C (tgt := 342) dJx40b00_toDecimal_cabcc_337 (by decide) ?_
                            refine yy_iload C 10 dJx40b00_toDecimal_cabcc_342 (pc' := 344) rfl rfl ?_
                            refine yy_iload_n C 18 dJx40b00_toDecimal_cabcc_344 (pc' := 345) rfl rfl rfl ?_
                            refine yy_iadd C (v := (r1 + (nI 0))) dJx40b00_toDecimal_cabcc_345 (pc' := 346) rfl rfl ?_
                            refine yc_i (yr_V C (n := 2) (As := [.int (r4 >>> ((nI 2) &&& 31)), .int (r1 + (nI 0))]) (rest := []) lk_Jx40b00_73 cd_Jx40b00_toChars_7cf53 im_Jx40b00_toChars_7cf53 se_Jx40b00_toChars_7cf53 (mJx40b00_toChars_7cf53 l G B0 fd fb a F (r4 >>> ((nI 2) &&& 31)) (r1 + (nI 0)) (by have hok' := hok; subst hw1 hw2 hw3 hw4 hw5 hw6; unfold td3 at hok'; dsimp only at hok'; rw [if_pos c_22, if_neg c_143, if_neg c_178, if_neg c_197, if_pos c_248, if_pos c_267, if_neg c_320, if_pos c_325, if_pos c_332] at hok'; exact hok')) ⟨by decide, by decide⟩ ⟨by decide, by decide⟩ 0 rfl rfl rfl rfl (Nat.le_of_ble_eq_true rfl) dJx40b00_toDecimal_cabcc_346) (pc' := 349) rfl (fun r7 _ hw7 => ?_)
                            subst hw7
                            subst hQ
                            exact ye_i C hr (vp_nar_int _) () dJx40b00_toDecimal_cabcc_349 (by subst hw1 hw2 hw3 hw4 hw5 hw6; unfold td3; dsimp only; rw [if_pos c_22, if_neg c_143, if_neg c_178, if_neg c_197, if_pos c_248, if_pos c_267, if_neg c_320, if_pos c_325, if_pos c_332]) (by decide) (by decide) rfl
                    · skip
                      exact absurd c_281 (by decide)
                  · skip
                    refine yy_iconst C (v := (nI 1)) dJx40b00_toDecimal_cabcc_270 (pc' := 271) rfl (by decide) ?_
                    refine yy_goto C (tgt := 275) dJx40b00_toDecimal_cabcc_271 (by decide) ?_
                    refine yy_istore C (L' := [(21, .int (nI 1)), (20, .int (nI 0)), (19, .int ((r4 >>> ((nI 2) &&& 31)) + (nI 1))), (22, .int (nI 1)), (18, .int (r4 >>> ((nI 2) &&& 31))), (17, .int r6), (16, .int r5), (15, .int r4), (13, .long (r3 + 1)), (12, .int ((q + r2) + (nI 33))), (11, .int r1), (9, .long (((c_ <<< ((nI 2) &&& 31)).toInt64) - 1)), (7, .long (((c_ <<< ((nI 2) &&& 31)).toInt64) + (2))), (5, .long ((c_ <<< ((nI 2) &&& 31)).toInt64)), (4, .int (c_ &&& (nI 1))), (0, .ref (fd)), (1, .int q), (2, .int c_), (3, .int (nI 0))]) dJx40b00_toDecimal_cabcc_275 (pc' := 277) rfl (by decide) rfl ?_
                    refine yy_iload C 1 dJx40b00_toDecimal_cabcc_277 (pc' := 279) rfl rfl ?_
                    refine yy_iload C 0 dJx40b00_toDecimal_cabcc_279 (pc' := 281) rfl rfl ?_
                    refine yy_icmp_eq C dJx40b00_toDecimal_cabcc_281 (pc' := 284) rfl (tgt := 305) (by decide) (fun c_281 => ?_) (fun c_281 => ?_)
                    · skip
                      exact absurd c_281 (by decide)
                    · skip
                      refine yy_aload_n C 15 dJx40b00_toDecimal_cabcc_284 (pc' := 285) rfl rfl rfl ?_
                      refine yy_iload C 1 dJx40b00_toDecimal_cabcc_285 (pc' := 287) rfl rfl ?_
                      refine yy_if_eq C dJx40b00_toDecimal_cabcc_287 (pc' := 290) rfl (tgt := 295) (by decide) (fun c_287 => ?_) (fun c_287 => ?_)
                      · skip
                        refine yy_iload C 2 dJx40b00_toDecimal_cabcc_295 (pc' := 297) rfl rfl ?_
                        refine yy_iload C 10 dJx40b00_toDecimal_cabcc_297 (pc' := 299) rfl rfl ?_
                        refine yy_iload_n C 18 dJx40b00_toDecimal_cabcc_299 (pc' := 300) rfl rfl rfl ?_
                        refine yy_iadd C (v := (r1 + (nI 0))) dJx40b00_toDecimal_cabcc_300 (pc' := 301) rfl rfl ?_
                        refine yc_i (yr_V C (n := 2) (As := [.int ((r4 >>> ((nI 2) &&& 31)) + (nI 1)), .int (r1 + (nI 0))]) (rest := []) lk_Jx40b00_73 cd_Jx40b00_toChars_7cf53 im_Jx40b00_toChars_7cf53 se_Jx40b00_toChars_7cf53 (mJx40b00_toChars_7cf53 l G B0 fd fb a F ((r4 >>> ((nI 2) &&& 31)) + (nI 1)) (r1 + (nI 0)) (by have hok' := hok; subst hw1 hw2 hw3 hw4 hw5 hw6; unfold td3 at hok'; dsimp only at hok'; rw [if_pos c_22, if_neg c_143, if_neg c_178, if_neg c_197, if_pos c_248, if_neg c_267] at hok'; exact hok')) ⟨by decide, by decide⟩ ⟨by decide, by decide⟩ 0 rfl rfl rfl rfl (Nat.le_of_ble_eq_true rfl) dJx40b00_toDecimal_cabcc_301) (pc' := 304) rfl (fun r7 _ hw7 => ?_)
                        subst hw7
                        subst hQ
                        exact ye_i C hr (vp_nar_int _) () dJx40b00_toDecimal_cabcc_304 (by subst hw1 hw2 hw3 hw4 hw5 hw6; unfold td3; dsimp only; rw [if_pos c_22, if_neg c_143, if_neg c_178, if_neg c_197, if_pos c_248, if_neg c_267]) (by decide) (by decide) rfl
                      · skip
                        exact absurd c_287 (by decide)
                · skip
                  refine yy_iconst C (v := (nI 1)) dJx40b00_toDecimal_cabcc_251 (pc' := 252) rfl (by decide) ?_
                  refine yy_goto C (tgt := 256) dJx40b00_toDecimal_cabcc_252 (by decide) ?_
                  refine yy_istore C (L' := [(20, .int (nI 1)), (19, .int ((r4 >>> ((nI 2) &&& 31)) + (nI 1))), (22, .int (nI 1)), (21, .int (nI 1)), (18, .int (r4 >>> ((nI 2) &&& 31))), (17, .int r6), (16, .int r5), (15, .int r4), (13, .long (r3 + 1)), (12, .int ((q + r2) + (nI 33))), (11, .int r1), (9, .long (((c_ <<< ((nI 2) &&& 31)).toInt64) - 1)), (7, .long (((c_ <<< ((nI 2) &&& 31)).toInt64) + (2))), (5, .long ((c_ <<< ((nI 2) &&& 31)).toInt64)), (4, .int (c_ &&& (nI 1))), (0, .ref (fd)), (1, .int q), (2, .int c_), (3, .int (nI 0))]) dJx40b00_toDecimal_cabcc_256 (pc' := 258) rfl (by decide) rfl ?_
                  refine yy_iload C 1 dJx40b00_toDecimal_cabcc_258 (pc' := 260) rfl rfl ?_
                  refine yy_iconst C (v := (nI 2)) dJx40b00_toDecimal_cabcc_260 (pc' := 261) rfl (by decide) ?_
                  refine yy_ishl C (v := (((r4 >>> ((nI 2) &&& 31)) + (nI 1)) <<< ((nI 2) &&& 31))) dJx40b00_toDecimal_cabcc_261 (pc' := 262) rfl rfl ?_
                  refine yy_iload C 14 dJx40b00_toDecimal_cabcc_262 (pc' := 264) rfl rfl ?_
                  refine yy_iadd C (v := ((((r4 >>> ((nI 2) &&& 31)) + (nI 1)) <<< ((nI 2) &&& 31)) + (c_ &&& (nI 1)))) dJx40b00_toDecimal_cabcc_264 (pc' := 265) rfl rfl ?_
                  refine yy_iload C 5 dJx40b00_toDecimal_cabcc_265 (pc' := 267) rfl rfl ?_
                  refine yy_icmp_gt C dJx40b00_toDecimal_cabcc_267 (pc' := 270) rfl (tgt := 274) (by decide) (fun c_267 => ?_) (fun c_267 => ?_)
                  · skip
                    refine yy_iconst C (v := (nI 0)) dJx40b00_toDecimal_cabcc_274 (pc' := 275) rfl (by decide) ?_
                    refine yy_istore C (L' := [(21, .int (nI 0)), (20, .int (nI 1)), (19, .int ((r4 >>> ((nI 2) &&& 31)) + (nI 1))), (22, .int (nI 1)), (18, .int (r4 >>> ((nI 2) &&& 31))), (17, .int r6), (16, .int r5), (15, .int r4), (13, .long (r3 + 1)), (12, .int ((q + r2) + (nI 33))), (11, .int r1), (9, .long (((c_ <<< ((nI 2) &&& 31)).toInt64) - 1)), (7, .long (((c_ <<< ((nI 2) &&& 31)).toInt64) + (2))), (5, .long ((c_ <<< ((nI 2) &&& 31)).toInt64)), (4, .int (c_ &&& (nI 1))), (0, .ref (fd)), (1, .int q), (2, .int c_), (3, .int (nI 0))]) dJx40b00_toDecimal_cabcc_275 (pc' := 277) rfl (by decide) rfl ?_
                    refine yy_iload C 1 dJx40b00_toDecimal_cabcc_277 (pc' := 279) rfl rfl ?_
                    refine yy_iload C 0 dJx40b00_toDecimal_cabcc_279 (pc' := 281) rfl rfl ?_
                    refine yy_icmp_eq C dJx40b00_toDecimal_cabcc_281 (pc' := 284) rfl (tgt := 305) (by decide) (fun c_281 => ?_) (fun c_281 => ?_)
                    · skip
                      exact absurd c_281 (by decide)
                    · skip
                      refine yy_aload_n C 15 dJx40b00_toDecimal_cabcc_284 (pc' := 285) rfl rfl rfl ?_
                      refine yy_iload C 1 dJx40b00_toDecimal_cabcc_285 (pc' := 287) rfl rfl ?_
                      refine yy_if_eq C dJx40b00_toDecimal_cabcc_287 (pc' := 290) rfl (tgt := 295) (by decide) (fun c_287 => ?_) (fun c_287 => ?_)
                      · skip
                        exact absurd c_287 (by decide)
                      · skip
                        refine yy_iload C 4 dJx40b00_toDecimal_cabcc_290 (pc' := 292) rfl rfl ?_
                        refine yy_goto C (tgt := 297) dJx40b00_toDecimal_cabcc_292 (by decide) ?_
                        refine yy_iload C 10 dJx40b00_toDecimal_cabcc_297 (pc' := 299) rfl rfl ?_
                        refine yy_iload_n C 18 dJx40b00_toDecimal_cabcc_299 (pc' := 300) rfl rfl rfl ?_
                        refine yy_iadd C (v := (r1 + (nI 0))) dJx40b00_toDecimal_cabcc_300 (pc' := 301) rfl rfl ?_
                        refine yc_i (yr_V C (n := 2) (As := [.int (r4 >>> ((nI 2) &&& 31)), .int (r1 + (nI 0))]) (rest := []) lk_Jx40b00_73 cd_Jx40b00_toChars_7cf53 im_Jx40b00_toChars_7cf53 se_Jx40b00_toChars_7cf53 (mJx40b00_toChars_7cf53 l G B0 fd fb a F (r4 >>> ((nI 2) &&& 31)) (r1 + (nI 0)) (by have hok' := hok; subst hw1 hw2 hw3 hw4 hw5 hw6; unfold td3 at hok'; dsimp only at hok'; rw [if_pos c_22, if_neg c_143, if_neg c_178, if_neg c_197, if_neg c_248, if_pos c_267] at hok'; exact hok')) ⟨by decide, by decide⟩ ⟨by decide, by decide⟩ 0 rfl rfl rfl rfl (Nat.le_of_ble_eq_true rfl) dJx40b00_toDecimal_cabcc_301) (pc' := 304) rfl (fun r7 _ hw7 => ?_)
                        subst hw7
                        subst hQ
                        exact ye_i C hr (vp_nar_int _) () dJx40b00_toDecimal_cabcc_304 (by subst hw1 hw2 hw3 hw4 hw5 hw6; unfold td3; dsimp only; rw [if_pos c_22, if_neg c_143, if_neg c_178, if_neg c_197, if_neg c_248, if_pos c_267]) (by decide) (by decide) rfl
                  · skip
                    refine yy_iconst C (v := (nI 1)) dJx40b00_toDecimal_cabcc_270 (pc' := 271) rfl (by decide) ?_
                    refine yy_goto C (tgt := 275) dJx40b00_toDecimal_cabcc_271 (by decide) ?_
                    refine yy_istore C (L' := [(21, .int (nI 1)), (20, .int (nI 1)), (19, .int ((r4 >>> ((nI 2) &&& 31)) + (nI 1))), (22, .int (nI 1)), (18, .int (r4 >>> ((nI 2) &&& 31))), (17, .int r6), (16, .int r5), (15, .int r4), (13, .long (r3 + 1)), (12, .int ((q + r2) + (nI 33))), (11, .int r1), (9, .long (((c_ <<< ((nI 2) &&& 31)).toInt64) - 1)), (7, .long (((c_ <<< ((nI 2) &&& 31)).toInt64) + (2))), (5, .long ((c_ <<< ((nI 2) &&& 31)).toInt64)), (4, .int (c_ &&& (nI 1))), (0, .ref (fd)), (1, .int q), (2, .int c_), (3, .int (nI 0))]) dJx40b00_toDecimal_cabcc_275 (pc' := 277) rfl (by decide) rfl ?_
                    refine yy_iload C 1 dJx40b00_toDecimal_cabcc_277 (pc' := 279) rfl rfl ?_
                    refine yy_iload C 0 dJx40b00_toDecimal_cabcc_279 (pc' := 281) rfl rfl ?_
                    refine yy_icmp_eq C dJx40b00_toDecimal_cabcc_281 (pc' := 284) rfl (tgt := 305) (by decide) (fun c_281 => ?_) (fun c_281 => ?_)
                    · skip
                      refine yy_iload C 7 dJx40b00_toDecimal_cabcc_305 (pc' := 307) rfl rfl ?_
                      refine yy_iload C 4 dJx40b00_toDecimal_cabcc_307 (pc' := 309) rfl rfl ?_
                      refine yy_iload C 2 dJx40b00_toDecimal_cabcc_309 (pc' := 311) rfl rfl ?_
                      refine yy_iadd C (v := ((r4 >>> ((nI 2) &&& 31)) + ((r4 >>> ((nI 2) &&& 31)) + (nI 1)))) dJx40b00_toDecimal_cabcc_311 (pc' := 312) rfl rfl ?_
                      refine yy_iconst C (v := (nI 1)) dJx40b00_toDecimal_cabcc_312 (pc' := 313) rfl (by decide) ?_
                      refine yy_ishl C (v := (((r4 >>> ((nI 2) &&& 31)) + ((r4 >>> ((nI 2) &&& 31)) + (nI 1))) <<< ((nI 1) &&& 31))) dJx40b00_toDecimal_cabcc_313 (pc' := 314) rfl rfl ?_
                      refine yy_isub C (v := (r4 - (((r4 >>> ((nI 2) &&& 31)) + ((r4 >>> ((nI 2) &&& 31)) + (nI 1))) <<< ((nI 1) &&& 31)))) dJx40b00_toDecimal_cabcc_314 (pc' := 315) rfl rfl ?_
                      refine yy_istore C (L' := [(22, .int (r4 - (((r4 >>> ((nI 2) &&& 31)) + ((r4 >>> ((nI 2) &&& 31)) + (nI 1))) <<< ((nI 1) &&& 31)))), (21, .int (nI 1)), (20, .int (nI 1)), (19, .int ((r4 >>> ((nI 2) &&& 31)) + (nI 1))), (18, .int (r4 >>> ((nI 2) &&& 31))), (17, .int r6), (16, .int r5), (15, .int r4), (13, .long (r3 + 1)), (12, .int ((q + r2) + (nI 33))), (11, .int r1), (9, .long (((c_ <<< ((nI 2) &&& 31)).toInt64) - 1)), (7, .long (((c_ <<< ((nI 2) &&& 31)).toInt64) + (2))), (5, .long ((c_ <<< ((nI 2) &&& 31)).toInt64)), (4, .int (c_ &&& (nI 1))), (0, .ref (fd)), (1, .int q), (2, .int c_), (3, .int (nI 0))]) dJx40b00_toDecimal_cabcc_315 (pc' := 317) rfl (by decide) rfl ?_
                      refine yy_aload_n C 15 dJx40b00_toDecimal_cabcc_317 (pc' := 318) rfl rfl rfl ?_
                      refine yy_iload C 0 dJx40b00_toDecimal_cabcc_318 (pc' := 320) rfl rfl ?_
                      refine yy_if_lt C dJx40b00_toDecimal_cabcc_320 (pc' := 323) rfl (tgt := 335) (by decide) (fun c_320 => ?_) (fun c_320 => ?_)
                      · skip
                        refine yy_iload C 4 dJx40b00_toDecimal_cabcc_335 (pc' := 337) rfl rfl ?_
                        refine yy_goto C (tgt := 342) dJx40b00_toDecimal_cabcc_337 (by decide) ?_
                        refine yy_iload C 10 dJx40b00_toDecimal_cabcc_342 (pc' := 344) rfl rfl ?_
                        refine yy_iload_n C 18 dJx40b00_toDecimal_cabcc_344 (pc' := 345) rfl rfl rfl ?_
                        refine yy_iadd C (v := (r1 + (nI 0))) dJx40b00_toDecimal_cabcc_345 (pc' := 346) rfl rfl ?_
                        refine yc_i (yr_V C (n := 2) (As := [.int (r4 >>> ((nI 2) &&& 31)), .int (r1 + (nI 0))]) (rest := []) lk_Jx40b00_73 cd_Jx40b00_toChars_7cf53 im_Jx40b00_toChars_7cf53 se_Jx40b00_toChars_7cf53 (mJx40b00_toChars_7cf53 l G B0 fd fb a F (r4 >>> ((nI 2) &&& 31)) (r1 + (nI 0)) (by have hok' := hok; subst hw1 hw2 hw3 hw4 hw5 hw6; unfold td3 at hok'; dsimp only at hok'; rw [if_pos c_22, if_neg c_143, if_neg c_178, if_neg c_197, if_neg c_248, if_neg c_267, if_pos c_320] at hok'; exact hok')) ⟨by decide, by decide⟩ ⟨by decide, by decide⟩ 0 rfl rfl rfl rfl (Nat.le_of_ble_eq_true rfl) dJx40b00_toDecimal_cabcc_346) (pc' := 349) rfl (fun r7 _ hw7 => ?_)
                        subst hw7
                        subst hQ
                        exact ye_i C hr (vp_nar_int _) () dJx40b00_toDecimal_cabcc_349 (by subst hw1 hw2 hw3 hw4 hw5 hw6; unfold td3; dsimp only; rw [if_pos c_22, if_neg c_143, if_neg c_178, if_neg c_197, if_neg c_248, if_neg c_267, if_pos c_320]) (by decide) (by decide) rfl
                      · skip
                        refine yy_iload C 0 dJx40b00_toDecimal_cabcc_323 (pc' := 325) rfl rfl ?_
                        refine yy_if_ne C dJx40b00_toDecimal_cabcc_325 (pc' := 328) rfl (tgt := 340) (by decide) (fun c_325 => ?_) (fun c_325 => ?_)
                        · skip
                          refine yy_iload C 3 dJx40b00_toDecimal_cabcc_340 (pc' := 342) rfl rfl ?_
                          refine yy_iload C 10 dJx40b00_toDecimal_cabcc_342 (pc' := 344) rfl rfl ?_
                          refine yy_iload_n C 18 dJx40b00_toDecimal_cabcc_344 (pc' := 345) rfl rfl rfl ?_
                          refine yy_iadd C (v := (r1 + (nI 0))) dJx40b00_toDecimal_cabcc_345 (pc' := 346) rfl rfl ?_
                          refine yc_i (yr_V C (n := 2) (As := [.int ((r4 >>> ((nI 2) &&& 31)) + (nI 1)), .int (r1 + (nI 0))]) (rest := []) lk_Jx40b00_73 cd_Jx40b00_toChars_7cf53 im_Jx40b00_toChars_7cf53 se_Jx40b00_toChars_7cf53 (mJx40b00_toChars_7cf53 l G B0 fd fb a F ((r4 >>> ((nI 2) &&& 31)) + (nI 1)) (r1 + (nI 0)) (by have hok' := hok; subst hw1 hw2 hw3 hw4 hw5 hw6; unfold td3 at hok'; dsimp only at hok'; rw [if_pos c_22, if_neg c_143, if_neg c_178, if_neg c_197, if_neg c_248, if_neg c_267, if_neg c_320, if_neg c_325] at hok'; exact hok')) ⟨by decide, by decide⟩ ⟨by decide, by decide⟩ 0 rfl rfl rfl rfl (Nat.le_of_ble_eq_true rfl) dJx40b00_toDecimal_cabcc_346) (pc' := 349) rfl (fun r7 _ hw7 => ?_)
                          subst hw7
                          subst hQ
                          exact ye_i C hr (vp_nar_int _) () dJx40b00_toDecimal_cabcc_349 (by subst hw1 hw2 hw3 hw4 hw5 hw6; unfold td3; dsimp only; rw [if_pos c_22, if_neg c_143, if_neg c_178, if_neg c_197, if_neg c_248, if_neg c_267, if_neg c_320, if_neg c_325]) (by decide) (by decide) rfl
                        · skip
                          refine yy_iload C 4 dJx40b00_toDecimal_cabcc_328 (pc' := 330) rfl rfl ?_
                          refine yy_iconst C (v := (nI 1)) dJx40b00_toDecimal_cabcc_330 (pc' := 331) rfl (by decide) ?_
                          refine yy_iand C (v := ((r4 >>> ((nI 2) &&& 31)) &&& (nI 1))) dJx40b00_toDecimal_cabcc_331 (pc' := 332) rfl rfl ?_
                          refine yy_if_ne C dJx40b00_toDecimal_cabcc_332 (pc' := 335) rfl (tgt := 340) (by decide) (fun c_332 => ?_) (fun c_332 => ?_)
                          · skip
                            refine yy_iload C 3 dJx40b00_toDecimal_cabcc_340 (pc' := 342) rfl rfl ?_
                            refine yy_iload C 10 dJx40b00_toDecimal_cabcc_342 (pc' := 344) rfl rfl ?_
                            refine yy_iload_n C 18 dJx40b00_toDecimal_cabcc_344 (pc' := 345) rfl rfl rfl ?_
                            refine yy_iadd C (v := (r1 + (nI 0))) dJx40b00_toDecimal_cabcc_345 (pc' := 346) rfl rfl ?_
                            refine yc_i (yr_V C (n := 2) (As := [.int ((r4 >>> ((nI 2) &&& 31)) + (nI 1)), .int (r1 + (nI 0))]) (rest := []) lk_Jx40b00_73 cd_Jx40b00_toChars_7cf53 im_Jx40b00_toChars_7cf53 se_Jx40b00_toChars_7cf53 (mJx40b00_toChars_7cf53 l G B0 fd fb a F ((r4 >>> ((nI 2) &&& 31)) + (nI 1)) (r1 + (nI 0)) (by have hok' := hok; subst hw1 hw2 hw3 hw4 hw5 hw6; unfold td3 at hok'; dsimp only at hok'; rw [if_pos c_22, if_neg c_143, if_neg c_178, if_neg c_197, if_neg c_248, if_neg c_267, if_neg c_320, if_pos c_325, if_neg c_332] at hok'; exact hok')) ⟨by decide, by decide⟩ ⟨by decide, by decide⟩ 0 rfl rfl rfl rfl (Nat.le_of_ble_eq_true rfl) dJx40b00_toDecimal_cabcc_346) (pc' := 349) rfl (fun r7 _ hw7 => ?_)
                            subst hw7
                            subst hQ
                            exact ye_i C hr (vp_nar_int _) () dJx40b00_toDecimal_cabcc_349 (by subst hw1 hw2 hw3 hw4 hw5 hw6; unfold td3; dsimp only; rw [if_pos c_22, if_neg c_143, if_neg c_178, if_neg c_197, if_neg c_248, if_neg c_267, if_neg c_320, if_pos c_325, if_neg c_332]) (by decide) (by decide) rfl
                          · skip
                            refine yy_iload C 4 dJx40b00_toDecimal_cabcc_335 (pc' := 337) rfl rfl ?_
                            refine yy_goto C (tgt := 342) dJx40b00_toDecimal_cabcc_337 (by decide) ?_
                            refine yy_iload C 10 dJx40b00_toDecimal_cabcc_342 (pc' := 344) rfl rfl ?_
                            refine yy_iload_n C 18 dJx40b00_toDecimal_cabcc_344 (pc' := 345) rfl rfl rfl ?_
                            refine yy_iadd C (v := (r1 + (nI 0))) dJx40b00_toDecimal_cabcc_345 (pc' := 346) rfl rfl ?_
                            refine yc_i (yr_V C (n := 2) (As := [.int (r4 >>> ((nI 2) &&& 31)), .int (r1 + (nI 0))]) (rest := []) lk_Jx40b00_73 cd_Jx40b00_toChars_7cf53 im_Jx40b00_toChars_7cf53 se_Jx40b00_toChars_7cf53 (mJx40b00_toChars_7cf53 l G B0 fd fb a F (r4 >>> ((nI 2) &&& 31)) (r1 + (nI 0)) (by have hok' := hok; subst hw1 hw2 hw3 hw4 hw5 hw6; unfold td3 at hok'; dsimp only at hok'; rw [if_pos c_22, if_neg c_143, if_neg c_178, if_neg c_197, if_neg c_248, if_neg c_267, if_neg c_320, if_pos c_325, if_pos c_332] at hok'; exact hok')) ⟨by decide, by decide⟩ ⟨by decide, by decide⟩ 0 rfl rfl rfl rfl (Nat.le_of_ble_eq_true rfl) dJx40b00_toDecimal_cabcc_346) (pc' := 349) rfl (fun r7 _ hw7 => ?_)
                            subst hw7
                            subst hQ
                            exact ye_i C hr (vp_nar_int _) () dJx40b00_toDecimal_cabcc_349 (by subst hw1 hw2 hw3 hw4 hw5 hw6; unfold td3; dsimp only; rw [if_pos c_22, if_neg c_143, if_neg c_178, if_neg c_197, if_neg c_248, if_neg c_267, if_neg c_320, if_pos c_325, if_pos c_332]) (by decide) (by decide) rfl
                    · skip
                      exact absurd c_281 (by decide)
              · skip
                exact absurd c_211 (by decide)
      · skip
        exact absurd c_43 (by decide)
    · skip
      exact absurd c_34 hq
  · skip
    refine yy_iconst C (v := (nI 1)) dJx40b00_toDecimal_cabcc_25 (pc' := 26) rfl (by decide) ?_
    refine yy_goto C (tgt := 30) dJx40b00_toDecimal_cabcc_26 (by decide) ?_
    refine yy_iload_n C 4 dJx40b00_toDecimal_cabcc_30 (pc' := 31) rfl rfl rfl ?_
    refine yy_sipush C (v := (-149)) dJx40b00_toDecimal_cabcc_31 (pc' := 34) rfl (by decide) ?_
    refine yy_icmp_ne C dJx40b00_toDecimal_cabcc_34 (pc' := 37) rfl (tgt := 41) (by decide) (fun c_34 => ?_) (fun c_34 => ?_)
    · skip
      refine yy_iconst C (v := (nI 0)) dJx40b00_toDecimal_cabcc_41 (pc' := 42) rfl (by decide) ?_
      refine yy_ior C (v := (nI 1)) dJx40b00_toDecimal_cabcc_42 (pc' := 43) rfl (by decide) ?_
      refine yy_if_eq C dJx40b00_toDecimal_cabcc_43 (pc' := 46) rfl (tgt := 63) (by decide) (fun c_43 => ?_) (fun c_43 => ?_)
      · skip
        exact absurd c_43 (by decide)
      · skip
        refine yy_lload C 1 dJx40b00_toDecimal_cabcc_46 (pc' := 48) rfl rfl ?_
        refine yy_ldc2 C dJx40b00_toDecimal_cabcc_48 (pc' := 51) rfl lg_Jx40b00_80 ?_
        refine yy_lsub C (v := (((c_ <<< ((nI 2) &&& 31)).toInt64) - (2))) dJx40b00_toDecimal_cabcc_51 (pc' := 52) rfl rfl ?_
        refine yy_lstore C (L' := [(9, .long (((c_ <<< ((nI 2) &&& 31)).toInt64) - (2))), (7, .long (((c_ <<< ((nI 2) &&& 31)).toInt64) + (2))), (5, .long ((c_ <<< ((nI 2) &&& 31)).toInt64)), (4, .int (c_ &&& (nI 1))), (0, .ref (fd)), (1, .int q), (2, .int c_), (3, .int (nI 0))]) dJx40b00_toDecimal_cabcc_52 (pc' := 54) rfl (by decide) rfl ?_
        refine yy_iload_n C 5 dJx40b00_toDecimal_cabcc_54 (pc' := 55) rfl rfl rfl ?_
        refine yc_i (yr_S C (n := 1) (As := [.int q]) (rest := []) lk_Jx40b00_82 cd_Jx25f51_flog10pow2_0f7a4 st_Jx25f51_flog10pow2_0f7a4 (mJx25f51_flog10pow2_0f7a4 l G B0 ((fd, .inr (2, [.ref (fb), .int (-1)])) :: (fb, .inl (G.2.2.2.1, 15, .inl a)) :: F) q) ⟨by decide, by decide⟩ ⟨by decide, by decide⟩ rfl rfl (Nat.le_of_ble_eq_true rfl) dJx40b00_toDecimal_cabcc_55) (pc' := 58) rfl (fun r1 _ hw1 => ?_)
        refine yy_istore C (L' := [(11, .int r1), (9, .long (((c_ <<< ((nI 2) &&& 31)).toInt64) - (2))), (7, .long (((c_ <<< ((nI 2) &&& 31)).toInt64) + (2))), (5, .long ((c_ <<< ((nI 2) &&& 31)).toInt64)), (4, .int (c_ &&& (nI 1))), (0, .ref (fd)), (1, .int q), (2, .int c_), (3, .int (nI 0))]) dJx40b00_toDecimal_cabcc_58 (pc' := 60) rfl (by decide) rfl ?_
        refine yy_goto C (tgt := 75) dJx40b00_toDecimal_cabcc_60 (by decide) ?_
        refine yy_iload_n C 6 dJx40b00_toDecimal_cabcc_75 (pc' := 76) rfl rfl rfl ?_
        refine yy_iload C 0 dJx40b00_toDecimal_cabcc_76 (pc' := 78) rfl rfl ?_
        refine yy_ineg C (v := (-r1)) dJx40b00_toDecimal_cabcc_78 (pc' := 79) rfl rfl ?_
        refine yc_i (yr_S C (n := 1) (As := [.int (-r1)]) (rest := [.int q]) lk_Jx40b00_91 cd_Jx25f51_flog2pow10_0f7a4 st_Jx25f51_flog2pow10_0f7a4 (mJx25f51_flog2pow10_0f7a4 l G B0 ((fd, .inr (2, [.ref (fb), .int (-1)])) :: (fb, .inl (G.2.2.2.1, 15, .inl a)) :: F) (-r1)) ⟨by decide, by decide⟩ ⟨by decide, by decide⟩ rfl rfl (Nat.le_of_ble_eq_true rfl) dJx40b00_toDecimal_cabcc_79) (pc' := 82) rfl (fun r2 _ hw2 => ?_)
        refine yy_iadd C (v := (q + r2)) dJx40b00_toDecimal_cabcc_82 (pc' := 83) rfl rfl ?_
        refine yy_bipush C (v := (nI 33)) dJx40b00_toDecimal_cabcc_83 (pc' := 85) rfl (by decide) ?_
        refine yy_iadd C (v := ((q + r2) + (nI 33))) dJx40b00_toDecimal_cabcc_85 (pc' := 86) rfl rfl ?_
        refine yy_istore C (L' := [(12, .int ((q + r2) + (nI 33))), (11, .int r1), (9, .long (((c_ <<< ((nI 2) &&& 31)).toInt64) - (2))), (7, .long (((c_ <<< ((nI 2) &&& 31)).toInt64) + (2))), (5, .long ((c_ <<< ((nI 2) &&& 31)).toInt64)), (4, .int (c_ &&& (nI 1))), (0, .ref (fd)), (1, .int q), (2, .int c_), (3, .int (nI 0))]) dJx40b00_toDecimal_cabcc_86 (pc' := 88) rfl (by decide) rfl ?_
        refine yy_iload C 1 dJx40b00_toDecimal_cabcc_88 (pc' := 90) rfl rfl ?_
        refine yc_l (yr_S C (n := 1) (As := [.int r1]) (rest := []) lk_Jx40b00_94 cd_Jx25f51_g1_3e8ac st_Jx25f51_g1_3e8ac (mJx25f51_g1_3e8ac l G B0 ((fd, .inr (2, [.ref (fb), .int (-1)])) :: (fb, .inl (G.2.2.2.1, 15, .inl a)) :: F) r1 (by subst hw1; exact hg1)) ⟨by decide, by decide⟩ ⟨by decide, by decide⟩ rfl rfl (Nat.le_of_ble_eq_true rfl) dJx40b00_toDecimal_cabcc_90) (pc' := 93) rfl (fun r3 _ hw3 => ?_)
        refine yy_lconst C (v := 1) dJx40b00_toDecimal_cabcc_93 (pc' := 94) rfl (by decide) ?_
        refine yy_ladd C (v := (r3 + 1)) dJx40b00_toDecimal_cabcc_94 (pc' := 95) rfl rfl ?_
        refine yy_lstore C (L' := [(13, .long (r3 + 1)), (12, .int ((q + r2) + (nI 33))), (11, .int r1), (9, .long (((c_ <<< ((nI 2) &&& 31)).toInt64) - (2))), (7, .long (((c_ <<< ((nI 2) &&& 31)).toInt64) + (2))), (5, .long ((c_ <<< ((nI 2) &&& 31)).toInt64)), (4, .int (c_ &&& (nI 1))), (0, .ref (fd)), (1, .int q), (2, .int c_), (3, .int (nI 0))]) dJx40b00_toDecimal_cabcc_95 (pc' := 97) rfl (by decide) rfl ?_
        refine yy_lload C 0 dJx40b00_toDecimal_cabcc_97 (pc' := 99) rfl rfl ?_
        refine yy_lload C 5 dJx40b00_toDecimal_cabcc_99 (pc' := 101) rfl rfl ?_
        refine yy_iload C 1 dJx40b00_toDecimal_cabcc_101 (pc' := 103) rfl rfl ?_
        refine yy_lshl C (v := (((c_ <<< ((nI 2) &&& 31)).toInt64) <<< (((q + r2) + (nI 33)).toInt64 &&& 63))) dJx40b00_toDecimal_cabcc_103 (pc' := 104) rfl rfl ?_
        refine yc_i (yr_S C (n := 2) (As := [.long (r3 + 1), .long (((c_ <<< ((nI 2) &&& 31)).toInt64) <<< (((q + r2) + (nI 33)).toInt64 &&& 63))]) (rest := []) lk_Jx40b00_98 cd_Jx40b00_rop_74951 st_Jx40b00_rop_74951 (mJx40b00_rop_74951 l G B0 ((fd, .inr (2, [.ref (fb), .int (-1)])) :: (fb, .inl (G.2.2.2.1, 15, .inl a)) :: F) (r3 + 1) (((c_ <<< ((nI 2) &&& 31)).toInt64) <<< (((q + r2) + (nI 33)).toInt64 &&& 63))) ⟨by decide, by decide⟩ ⟨by decide, by decide⟩ rfl rfl (Nat.le_of_ble_eq_true rfl) dJx40b00_toDecimal_cabcc_104) (pc' := 107) rfl (fun r4 _ hw4 => ?_)
        refine yy_istore C (L' := [(15, .int r4), (13, .long (r3 + 1)), (12, .int ((q + r2) + (nI 33))), (11, .int r1), (9, .long (((c_ <<< ((nI 2) &&& 31)).toInt64) - (2))), (7, .long (((c_ <<< ((nI 2) &&& 31)).toInt64) + (2))), (5, .long ((c_ <<< ((nI 2) &&& 31)).toInt64)), (4, .int (c_ &&& (nI 1))), (0, .ref (fd)), (1, .int q), (2, .int c_), (3, .int (nI 0))]) dJx40b00_toDecimal_cabcc_107 (pc' := 109) rfl (by decide) rfl ?_
        refine yy_lload C 1 dJx40b00_toDecimal_cabcc_109 (pc' := 111) rfl rfl ?_
        refine yy_lload C 4 dJx40b00_toDecimal_cabcc_111 (pc' := 113) rfl rfl ?_
        refine yy_iload C 2 dJx40b00_toDecimal_cabcc_113 (pc' := 115) rfl rfl ?_
        refine yy_lshl C (v := ((((c_ <<< ((nI 2) &&& 31)).toInt64) - (2)) <<< (((q + r2) + (nI 33)).toInt64 &&& 63))) dJx40b00_toDecimal_cabcc_115 (pc' := 116) rfl rfl ?_
        refine yc_i (yr_S C (n := 2) (As := [.long (r3 + 1), .long ((((c_ <<< ((nI 2) &&& 31)).toInt64) - (2)) <<< (((q + r2) + (nI 33)).toInt64 &&& 63))]) (rest := []) lk_Jx40b00_98 cd_Jx40b00_rop_74951 st_Jx40b00_rop_74951 (mJx40b00_rop_74951 l G B0 ((fd, .inr (2, [.ref (fb), .int (-1)])) :: (fb, .inl (G.2.2.2.1, 15, .inl a)) :: F) (r3 + 1) ((((c_ <<< ((nI 2) &&& 31)).toInt64) - (2)) <<< (((q + r2) + (nI 33)).toInt64 &&& 63))) ⟨by decide, by decide⟩ ⟨by decide, by decide⟩ rfl rfl (Nat.le_of_ble_eq_true rfl) dJx40b00_toDecimal_cabcc_116) (pc' := 119) rfl (fun r5 _ hw5 => ?_)
        refine yy_istore C (L' := [(16, .int r5), (15, .int r4), (13, .long (r3 + 1)), (12, .int ((q + r2) + (nI 33))), (11, .int r1), (9, .long (((c_ <<< ((nI 2) &&& 31)).toInt64) - (2))), (7, .long (((c_ <<< ((nI 2) &&& 31)).toInt64) + (2))), (5, .long ((c_ <<< ((nI 2) &&& 31)).toInt64)), (4, .int (c_ &&& (nI 1))), (0, .ref (fd)), (1, .int q), (2, .int c_), (3, .int (nI 0))]) dJx40b00_toDecimal_cabcc_119 (pc' := 121) rfl (by decide) rfl ?_
        refine yy_lload C 2 dJx40b00_toDecimal_cabcc_121 (pc' := 123) rfl rfl ?_
        refine yy_lload C 6 dJx40b00_toDecimal_cabcc_123 (pc' := 125) rfl rfl ?_
        refine yy_iload C 3 dJx40b00_toDecimal_cabcc_125 (pc' := 127) rfl rfl ?_
        refine yy_lshl C (v := ((((c_ <<< ((nI 2) &&& 31)).toInt64) + (2)) <<< (((q + r2) + (nI 33)).toInt64 &&& 63))) dJx40b00_toDecimal_cabcc_127 (pc' := 128) rfl rfl ?_
        refine yc_i (yr_S C (n := 2) (As := [.long (r3 + 1), .long ((((c_ <<< ((nI 2) &&& 31)).toInt64) + (2)) <<< (((q + r2) + (nI 33)).toInt64 &&& 63))]) (rest := []) lk_Jx40b00_98 cd_Jx40b00_rop_74951 st_Jx40b00_rop_74951 (mJx40b00_rop_74951 l G B0 ((fd, .inr (2, [.ref (fb), .int (-1)])) :: (fb, .inl (G.2.2.2.1, 15, .inl a)) :: F) (r3 + 1) ((((c_ <<< ((nI 2) &&& 31)).toInt64) + (2)) <<< (((q + r2) + (nI 33)).toInt64 &&& 63))) ⟨by decide, by decide⟩ ⟨by decide, by decide⟩ rfl rfl (Nat.le_of_ble_eq_true rfl) dJx40b00_toDecimal_cabcc_128) (pc' := 131) rfl (fun r6 _ hw6 => ?_)
        refine yy_istore C (L' := [(17, .int r6), (16, .int r5), (15, .int r4), (13, .long (r3 + 1)), (12, .int ((q + r2) + (nI 33))), (11, .int r1), (9, .long (((c_ <<< ((nI 2) &&& 31)).toInt64) - (2))), (7, .long (((c_ <<< ((nI 2) &&& 31)).toInt64) + (2))), (5, .long ((c_ <<< ((nI 2) &&& 31)).toInt64)), (4, .int (c_ &&& (nI 1))), (0, .ref (fd)), (1, .int q), (2, .int c_), (3, .int (nI 0))]) dJx40b00_toDecimal_cabcc_131 (pc' := 133) rfl (by decide) rfl ?_
        refine yy_iload C 2 dJx40b00_toDecimal_cabcc_133 (pc' := 135) rfl rfl ?_
        refine yy_iconst C (v := (nI 2)) dJx40b00_toDecimal_cabcc_135 (pc' := 136) rfl (by decide) ?_
        refine yy_ishr C (v := (r4 >>> ((nI 2) &&& 31))) dJx40b00_toDecimal_cabcc_136 (pc' := 137) rfl rfl ?_
        refine yy_istore C (L' := [(18, .int (r4 >>> ((nI 2) &&& 31))), (17, .int r6), (16, .int r5), (15, .int r4), (13, .long (r3 + 1)), (12, .int ((q + r2) + (nI 33))), (11, .int r1), (9, .long (((c_ <<< ((nI 2) &&& 31)).toInt64) - (2))), (7, .long (((c_ <<< ((nI 2) &&& 31)).toInt64) + (2))), (5, .long ((c_ <<< ((nI 2) &&& 31)).toInt64)), (4, .int (c_ &&& (nI 1))), (0, .ref (fd)), (1, .int q), (2, .int c_), (3, .int (nI 0))]) dJx40b00_toDecimal_cabcc_137 (pc' := 139) rfl (by decide) rfl ?_
        refine yy_iload C 0 dJx40b00_toDecimal_cabcc_139 (pc' := 141) rfl rfl ?_
        refine yy_bipush C (v := (nI 100)) dJx40b00_toDecimal_cabcc_141 (pc' := 143) rfl (by decide) ?_
        refine yy_icmp_lt C dJx40b00_toDecimal_cabcc_143 (pc' := 146) rfl (tgt := 233) (by decide) (fun c_143 => ?_) (fun c_143 => ?_)
        · skip
          refine yy_iload C 0 dJx40b00_toDecimal_cabcc_233 (pc' := 235) rfl rfl ?_
          refine yy_iconst C (v := (nI 1)) dJx40b00_toDecimal_cabcc_235 (pc' := 236) rfl (by decide) ?_
          refine yy_iadd C (v := ((r4 >>> ((nI 2) &&& 31)) + (nI 1))) dJx40b00_toDecimal_cabcc_236 (pc' := 237) rfl rfl ?_
          refine yy_istore C (L' := [(19, .int ((r4 >>> ((nI 2) &&& 31)) + (nI 1))), (18, .int (r4 >>> ((nI 2) &&& 31))), (17, .int r6), (16, .int r5), (15, .int r4), (13, .long (r3 + 1)), (12, .int ((q + r2) + (nI 33))), (11, .int r1), (9, .long (((c_ <<< ((nI 2) &&& 31)).toInt64) - (2))), (7, .long (((c_ <<< ((nI 2) &&& 31)).toInt64) + (2))), (5, .long ((c_ <<< ((nI 2) &&& 31)).toInt64)), (4, .int (c_ &&& (nI 1))), (0, .ref (fd)), (1, .int q), (2, .int c_), (3, .int (nI 0))]) dJx40b00_toDecimal_cabcc_237 (pc' := 239) rfl (by decide) rfl ?_
          refine yy_iload C 3 dJx40b00_toDecimal_cabcc_239 (pc' := 241) rfl rfl ?_
          refine yy_iload C 11 dJx40b00_toDecimal_cabcc_241 (pc' := 243) rfl rfl ?_
          refine yy_iadd C (v := (r5 + (c_ &&& (nI 1)))) dJx40b00_toDecimal_cabcc_243 (pc' := 244) rfl rfl ?_
          refine yy_iload C 1 dJx40b00_toDecimal_cabcc_244 (pc' := 246) rfl rfl ?_
          refine yy_iconst C (v := (nI 2)) dJx40b00_toDecimal_cabcc_246 (pc' := 247) rfl (by decide) ?_
          refine yy_ishl C (v := ((r4 >>> ((nI 2) &&& 31)) <<< ((nI 2) &&& 31))) dJx40b00_toDecimal_cabcc_247 (pc' := 248) rfl rfl ?_
          refine yy_icmp_gt C dJx40b00_toDecimal_cabcc_248 (pc' := 251) rfl (tgt := 255) (by decide) (fun c_248 => ?_) (fun c_248 => ?_)
          · skip
            refine yy_iconst C (v := (nI 0)) dJx40b00_toDecimal_cabcc_255 (pc' := 256) rfl (by decide) ?_
            refine yy_istore C (L' := [(20, .int (nI 0)), (19, .int ((r4 >>> ((nI 2) &&& 31)) + (nI 1))), (18, .int (r4 >>> ((nI 2) &&& 31))), (17, .int r6), (16, .int r5), (15, .int r4), (13, .long (r3 + 1)), (12, .int ((q + r2) + (nI 33))), (11, .int r1), (9, .long (((c_ <<< ((nI 2) &&& 31)).toInt64) - (2))), (7, .long (((c_ <<< ((nI 2) &&& 31)).toInt64) + (2))), (5, .long ((c_ <<< ((nI 2) &&& 31)).toInt64)), (4, .int (c_ &&& (nI 1))), (0, .ref (fd)), (1, .int q), (2, .int c_), (3, .int (nI 0))]) dJx40b00_toDecimal_cabcc_256 (pc' := 258) rfl (by decide) rfl ?_
            refine yy_iload C 1 dJx40b00_toDecimal_cabcc_258 (pc' := 260) rfl rfl ?_
            refine yy_iconst C (v := (nI 2)) dJx40b00_toDecimal_cabcc_260 (pc' := 261) rfl (by decide) ?_
            refine yy_ishl C (v := (((r4 >>> ((nI 2) &&& 31)) + (nI 1)) <<< ((nI 2) &&& 31))) dJx40b00_toDecimal_cabcc_261 (pc' := 262) rfl rfl ?_
            refine yy_iload C 12 dJx40b00_toDecimal_cabcc_262 (pc' := 264) rfl rfl ?_
            refine yy_iadd C (v := ((((r4 >>> ((nI 2) &&& 31)) + (nI 1)) <<< ((nI 2) &&& 31)) + (c_ &&& (nI 1)))) dJx40b00_toDecimal_cabcc_264 (pc' := 265) rfl rfl ?_
            refine yy_iload C 3 dJx40b00_toDecimal_cabcc_265 (pc' := 267) rfl rfl ?_
            refine yy_icmp_gt C dJx40b00_toDecimal_cabcc_267 (pc' := 270) rfl (tgt := 274) (by decide) (fun c_267 => ?_) (fun c_267 => ?_)
            · skip
              refine yy_iconst C (v := (nI 0)) dJx40b00_toDecimal_cabcc_274 (pc' := 275) rfl (by decide) ?_
              refine yy_istore C (L' := [(21, .int (nI 0)), (20, .int (nI 0)), (19, .int ((r4 >>> ((nI 2) &&& 31)) + (nI 1))), (18, .int (r4 >>> ((nI 2) &&& 31))), (17, .int r6), (16, .int r5), (15, .int r4), (13, .long (r3 + 1)), (12, .int ((q + r2) + (nI 33))), (11, .int r1), (9, .long (((c_ <<< ((nI 2) &&& 31)).toInt64) - (2))), (7, .long (((c_ <<< ((nI 2) &&& 31)).toInt64) + (2))), (5, .long ((c_ <<< ((nI 2) &&& 31)).toInt64)), (4, .int (c_ &&& (nI 1))), (0, .ref (fd)), (1, .int q), (2, .int c_), (3, .int (nI 0))]) dJx40b00_toDecimal_cabcc_275 (pc' := 277) rfl (by decide) rfl ?_
              refine yy_iload C 1 dJx40b00_toDecimal_cabcc_277 (pc' := 279) rfl rfl ?_
              refine yy_iload C 0 dJx40b00_toDecimal_cabcc_279 (pc' := 281) rfl rfl ?_
              refine yy_icmp_eq C dJx40b00_toDecimal_cabcc_281 (pc' := 284) rfl (tgt := 305) (by decide) (fun c_281 => ?_) (fun c_281 => ?_)
              · skip
                refine yy_iload C 6 dJx40b00_toDecimal_cabcc_305 (pc' := 307) rfl rfl ?_
                refine yy_iload C 3 dJx40b00_toDecimal_cabcc_307 (pc' := 309) rfl rfl ?_
                refine yy_iload C 2 dJx40b00_toDecimal_cabcc_309 (pc' := 311) rfl rfl ?_
                refine yy_iadd C (v := ((r4 >>> ((nI 2) &&& 31)) + ((r4 >>> ((nI 2) &&& 31)) + (nI 1)))) dJx40b00_toDecimal_cabcc_311 (pc' := 312) rfl rfl ?_
                refine yy_iconst C (v := (nI 1)) dJx40b00_toDecimal_cabcc_312 (pc' := 313) rfl (by decide) ?_
                refine yy_ishl C (v := (((r4 >>> ((nI 2) &&& 31)) + ((r4 >>> ((nI 2) &&& 31)) + (nI 1))) <<< ((nI 1) &&& 31))) dJx40b00_toDecimal_cabcc_313 (pc' := 314) rfl rfl ?_
                refine yy_isub C (v := (r4 - (((r4 >>> ((nI 2) &&& 31)) + ((r4 >>> ((nI 2) &&& 31)) + (nI 1))) <<< ((nI 1) &&& 31)))) dJx40b00_toDecimal_cabcc_314 (pc' := 315) rfl rfl ?_
                refine yy_istore C (L' := [(22, .int (r4 - (((r4 >>> ((nI 2) &&& 31)) + ((r4 >>> ((nI 2) &&& 31)) + (nI 1))) <<< ((nI 1) &&& 31)))), (21, .int (nI 0)), (20, .int (nI 0)), (19, .int ((r4 >>> ((nI 2) &&& 31)) + (nI 1))), (18, .int (r4 >>> ((nI 2) &&& 31))), (17, .int r6), (16, .int r5), (15, .int r4), (13, .long (r3 + 1)), (12, .int ((q + r2) + (nI 33))), (11, .int r1), (9, .long (((c_ <<< ((nI 2) &&& 31)).toInt64) - (2))), (7, .long (((c_ <<< ((nI 2) &&& 31)).toInt64) + (2))), (5, .long ((c_ <<< ((nI 2) &&& 31)).toInt64)), (4, .int (c_ &&& (nI 1))), (0, .ref (fd)), (1, .int q), (2, .int c_), (3, .int (nI 0))]) dJx40b00_toDecimal_cabcc_315 (pc' := 317) rfl (by decide) rfl ?_
                refine yy_aload_n C 15 dJx40b00_toDecimal_cabcc_317 (pc' := 318) rfl rfl rfl ?_
                refine yy_iload C 0 dJx40b00_toDecimal_cabcc_318 (pc' := 320) rfl rfl ?_
                refine yy_if_lt C dJx40b00_toDecimal_cabcc_320 (pc' := 323) rfl (tgt := 335) (by decide) (fun c_320 => ?_) (fun c_320 => ?_)
                · skip
                  refine yy_iload C 4 dJx40b00_toDecimal_cabcc_335 (pc' := 337) rfl rfl ?_
                  refine yy_goto C (tgt := 342) dJx40b00_toDecimal_cabcc_337 (by decide) ?_
                  refine yy_iload C 10 dJx40b00_toDecimal_cabcc_342 (pc' := 344) rfl rfl ?_
                  refine yy_iload_n C 18 dJx40b00_toDecimal_cabcc_344 (pc' := 345) rfl rfl rfl ?_
                  refine yy_iadd C (v := (r1 + (nI 0))) dJx40b00_toDecimal_cabcc_345 (pc' := 346) rfl rfl ?_
                  refine yc_i (yr_V C (n := 2) (As := [.int (r4 >>> ((nI 2) &&& 31)), .int (r1 + (nI 0))]) (rest := []) lk_Jx40b00_73 cd_Jx40b00_toChars_7cf53 im_Jx40b00_toChars_7cf53 se_Jx40b00_toChars_7cf53 (mJx40b00_toChars_7cf53 l G B0 fd fb a F (r4 >>> ((nI 2) &&& 31)) (r1 + (nI 0)) (by have hok' := hok; subst hw1 hw2 hw3 hw4 hw5 hw6; unfold td3 at hok'; dsimp only at hok'; rw [if_neg c_22, if_pos c_143, if_pos c_248, if_pos c_267, if_pos c_320] at hok'; exact hok')) ⟨by decide, by decide⟩ ⟨by decide, by decide⟩ 0 rfl rfl rfl rfl (Nat.le_of_ble_eq_true rfl) dJx40b00_toDecimal_cabcc_346) (pc' := 349) rfl (fun r7 _ hw7 => ?_)
                  subst hw7
                  subst hQ
                  exact ye_i C hr (vp_nar_int _) () dJx40b00_toDecimal_cabcc_349 (by subst hw1 hw2 hw3 hw4 hw5 hw6; unfold td3; dsimp only; rw [if_neg c_22, if_pos c_143, if_pos c_248, if_pos c_267, if_pos c_320]) (by decide) (by decide) rfl
                · skip
                  refine yy_iload C 0 dJx40b00_toDecimal_cabcc_323 (pc' := 325) rfl rfl ?_
                  refine yy_if_ne C dJx40b00_toDecimal_cabcc_325 (pc' := 328) rfl (tgt := 340) (by decide) (fun c_325 => ?_) (fun c_325 => ?_)
                  · skip
                    refine yy_iload C 3 dJx40b00_toDecimal_cabcc_340 (pc' := 342) rfl rfl ?_
                    refine yy_iload C 10 dJx40b00_toDecimal_cabcc_342 (pc' := 344) rfl rfl ?_
                    refine yy_iload_n C 18 dJx40b00_toDecimal_cabcc_344 (pc' := 345) rfl rfl rfl ?_
                    refine yy_iadd C (v := (r1 + (nI 0))) dJx40b00_toDecimal_cabcc_345 (pc' := 346) rfl rfl ?_
                    refine yc_i (yr_V C (n := 2) (As := [.int ((r4 >>> ((nI 2) &&& 31)) + (nI 1)), .int (r1 + (nI 0))]) (rest := []) lk_Jx40b00_73 cd_Jx40b00_toChars_7cf53 im_Jx40b00_toChars_7cf53 se_Jx40b00_toChars_7cf53 (mJx40b00_toChars_7cf53 l G B0 fd fb a F ((r4 >>> ((nI 2) &&& 31)) + (nI 1)) (r1 + (nI 0)) (by have hok' := hok; subst hw1 hw2 hw3 hw4 hw5 hw6; unfold td3 at hok'; dsimp only at hok'; rw [if_neg c_22, if_pos c_143, if_pos c_248, if_pos c_267, if_neg c_320, if_neg c_325] at hok'; exact hok')) ⟨by decide, by decide⟩ ⟨by decide, by decide⟩ 0 rfl rfl rfl rfl (Nat.le_of_ble_eq_true rfl) dJx40b00_toDecimal_cabcc_346) (pc' := 349) rfl (fun r7 _ hw7 => ?_)
                    subst hw7
                    subst hQ
                    exact ye_i C hr (vp_nar_int _) () dJx40b00_toDecimal_cabcc_349 (by subst hw1 hw2 hw3 hw4 hw5 hw6; unfold td3; dsimp only; rw [if_neg c_22, if_pos c_143, if_pos c_248, if_pos c_267, if_neg c_320, if_neg c_325]) (by decide) (by decide) rfl
                  · skip
                    refine yy_iload C 4 dJx40b00_toDecimal_cabcc_328 (pc' := 330) rfl rfl ?_
                    refine yy_iconst C (v := (nI 1)) dJx40b00_toDecimal_cabcc_330 (pc' := 331) rfl (by decide) ?_
                    refine yy_iand C (v := ((r4 >>> ((nI 2) &&& 31)) &&& (nI 1))) dJx40b00_toDecimal_cabcc_331 (pc' := 332) rfl rfl ?_
                    refine yy_if_ne C dJx40b00_toDecimal_cabcc_332 (pc' := 335) rfl (tgt := 340) (by decide) (fun c_332 => ?_) (fun c_332 => ?_)
                    · skip
                      refine yy_iload C 3 dJx40b00_toDecimal_cabcc_340 (pc' := 342) rfl rfl ?_
                      refine yy_iload C 10 dJx40b00_toDecimal_cabcc_342 (pc' := 344) rfl rfl ?_
                      refine yy_iload_n C 18 dJx40b00_toDecimal_cabcc_344 (pc' := 345) rfl rfl rfl ?_
                      refine yy_iadd C (v := (r1 + (nI 0))) dJx40b00_toDecimal_cabcc_345 (pc' := 346) rfl rfl ?_
                      refine yc_i (yr_V C (n := 2) (As := [.int ((r4 >>> ((nI 2) &&& 31)) + (nI 1)), .int (r1 + (nI 0))]) (rest := []) lk_Jx40b00_73 cd_Jx40b00_toChars_7cf53 im_Jx40b00_toChars_7cf53 se_Jx40b00_toChars_7cf53 (mJx40b00_toChars_7cf53 l G B0 fd fb a F ((r4 >>> ((nI 2) &&& 31)) + (nI 1)) (r1 + (nI 0)) (by have hok' := hok; subst hw1 hw2 hw3 hw4 hw5 hw6; unfold td3 at hok'; dsimp only at hok'; rw [if_neg c_22, if_pos c_143, if_pos c_248, if_pos c_267, if_neg c_320, if_pos c_325, if_neg c_332] at hok'; exact hok')) ⟨by decide, by decide⟩ ⟨by decide, by decide⟩ 0 rfl rfl rfl rfl (Nat.le_of_ble_eq_true rfl) dJx40b00_toDecimal_cabcc_346) (pc' := 349) rfl (fun r7 _ hw7 => ?_)
                      subst hw7
                      subst hQ
                      exact ye_i C hr (vp_nar_int _) () dJx40b00_toDecimal_cabcc_349 (by subst hw1 hw2 hw3 hw4 hw5 hw6; unfold td3; dsimp only; rw [if_neg c_22, if_pos c_143, if_pos c_248, if_pos c_267, if_neg c_320, if_pos c_325, if_neg c_332]) (by decide) (by decide) rfl
                    · skip
                      refine yy_iload C 4 dJx40b00_toDecimal_cabcc_335 (pc' := 337) rfl rfl ?_
                      refine yy_goto C (tgt := 342) dJx40b00_toDecimal_cabcc_337 (by decide) ?_
                      refine yy_iload C 10 dJx40b00_toDecimal_cabcc_342 (pc' := 344) rfl rfl ?_
                      refine yy_iload_n C 18 dJx40b00_toDecimal_cabcc_344 (pc' := 345) rfl rfl rfl ?_
                      refine yy_iadd C (v := (r1 + (nI 0))) dJx40b00_toDecimal_cabcc_345 (pc' := 346) rfl rfl ?_
                      refine yc_i (yr_V C (n := 2) (As := [.int (r4 >>> ((nI 2) &&& 31)), .int (r1 + (nI 0))]) (rest := []) lk_Jx40b00_73 cd_Jx40b00_toChars_7cf53 im_Jx40b00_toChars_7cf53 se_Jx40b00_toChars_7cf53 (mJx40b00_toChars_7cf53 l G B0 fd fb a F (r4 >>> ((nI 2) &&& 31)) (r1 + (nI 0)) (by have hok' := hok; subst hw1 hw2 hw3 hw4 hw5 hw6; unfold td3 at hok'; dsimp only at hok'; rw [if_neg c_22, if_pos c_143, if_pos c_248, if_pos c_267, if_neg c_320, if_pos c_325, if_pos c_332] at hok'; exact hok')) ⟨by decide, by decide⟩ ⟨by decide, by decide⟩ 0 rfl rfl rfl rfl (Nat.le_of_ble_eq_true rfl) dJx40b00_toDecimal_cabcc_346) (pc' := 349) rfl (fun r7 _ hw7 => ?_)
                      subst hw7
                      subst hQ
                      exact ye_i C hr (vp_nar_int _) () dJx40b00_toDecimal_cabcc_349 (by subst hw1 hw2 hw3 hw4 hw5 hw6; unfold td3; dsimp only; rw [if_neg c_22, if_pos c_143, if_pos c_248, if_pos c_267, if_neg c_320, if_pos c_325, if_pos c_332]) (by decide) (by decide) rfl
              · skip
                exact absurd c_281 (by decide)
            · skip
              refine yy_iconst C (v := (nI 1)) dJx40b00_toDecimal_cabcc_270 (pc' := 271) rfl (by decide) ?_
              refine yy_goto C (tgt := 275) dJx40b00_toDecimal_cabcc_271 (by decide) ?_
              refine yy_istore C (L' := [(21, .int (nI 1)), (20, .int (nI 0)), (19, .int ((r4 >>> ((nI 2) &&& 31)) + (nI 1))), (18, .int (r4 >>> ((nI 2) &&& 31))), (17, .int r6), (16, .int r5), (15, .int r4), (13, .long (r3 + 1)), (12, .int ((q + r2) + (nI 33))), (11, .int r1), (9, .long (((c_ <<< ((nI 2) &&& 31)).toInt64) - (2))), (7, .long (((c_ <<< ((nI 2) &&& 31)).toInt64) + (2))), (5, .long ((c_ <<< ((nI 2) &&& 31)).toInt64)), (4, .int (c_ &&& (nI 1))), (0, .ref (fd)), (1, .int q), (2, .int c_), (3, .int (nI 0))]) dJx40b00_toDecimal_cabcc_275 (pc' := 277) rfl (by decide) rfl ?_
              refine yy_iload C 1 dJx40b00_toDecimal_cabcc_277 (pc' := 279) rfl rfl ?_
              refine yy_iload C 0 dJx40b00_toDecimal_cabcc_279 (pc' := 281) rfl rfl ?_
              refine yy_icmp_eq C dJx40b00_toDecimal_cabcc_281 (pc' := 284) rfl (tgt := 305) (by decide) (fun c_281 => ?_) (fun c_281 => ?_)
              · skip
                exact absurd c_281 (by decide)
              · skip
                refine yy_aload_n C 14 dJx40b00_toDecimal_cabcc_284 (pc' := 285) rfl rfl rfl ?_
                refine yy_iload C 1 dJx40b00_toDecimal_cabcc_285 (pc' := 287) rfl rfl ?_
                refine yy_if_eq C dJx40b00_toDecimal_cabcc_287 (pc' := 290) rfl (tgt := 295) (by decide) (fun c_287 => ?_) (fun c_287 => ?_)
                · skip
                  refine yy_iload C 2 dJx40b00_toDecimal_cabcc_295 (pc' := 297) rfl rfl ?_
                  refine yy_iload C 9 dJx40b00_toDecimal_cabcc_297 (pc' := 299) rfl rfl ?_
                  refine yy_iload_n C 17 dJx40b00_toDecimal_cabcc_299 (pc' := 300) rfl rfl rfl ?_
                  refine yy_iadd C (v := (r1 + (nI 0))) dJx40b00_toDecimal_cabcc_300 (pc' := 301) rfl rfl ?_
                  refine yc_i (yr_V C (n := 2) (As := [.int ((r4 >>> ((nI 2) &&& 31)) + (nI 1)), .int (r1 + (nI 0))]) (rest := []) lk_Jx40b00_73 cd_Jx40b00_toChars_7cf53 im_Jx40b00_toChars_7cf53 se_Jx40b00_toChars_7cf53 (mJx40b00_toChars_7cf53 l G B0 fd fb a F ((r4 >>> ((nI 2) &&& 31)) + (nI 1)) (r1 + (nI 0)) (by have hok' := hok; subst hw1 hw2 hw3 hw4 hw5 hw6; unfold td3 at hok'; dsimp only at hok'; rw [if_neg c_22, if_pos c_143, if_pos c_248, if_neg c_267] at hok'; exact hok')) ⟨by decide, by decide⟩ ⟨by decide, by decide⟩ 0 rfl rfl rfl rfl (Nat.le_of_ble_eq_true rfl) dJx40b00_toDecimal_cabcc_301) (pc' := 304) rfl (fun r7 _ hw7 => ?_)
                  subst hw7
                  subst hQ
                  exact ye_i C hr (vp_nar_int _) () dJx40b00_toDecimal_cabcc_304 (by subst hw1 hw2 hw3 hw4 hw5 hw6; unfold td3; dsimp only; rw [if_neg c_22, if_pos c_143, if_pos c_248, if_neg c_267]) (by decide) (by decide) rfl
                · skip
                  exact absurd c_287 (by decide)
          · skip
            refine yy_iconst C (v := (nI 1)) dJx40b00_toDecimal_cabcc_251 (pc' := 252) rfl (by decide) ?_
            refine yy_goto C (tgt := 256) dJx40b00_toDecimal_cabcc_252 (by decide) ?_
            refine yy_istore C (L' := [(20, .int (nI 1)), (19, .int ((r4 >>> ((nI 2) &&& 31)) + (nI 1))), (18, .int (r4 >>> ((nI 2) &&& 31))), (17, .int r6), (16, .int r5), (15, .int r4), (13, .long (r3 + 1)), (12, .int ((q + r2) + (nI 33))), (11, .int r1), (9, .long (((c_ <<< ((nI 2) &&& 31)).toInt64) - (2))), (7, .long (((c_ <<< ((nI 2) &&& 31)).toInt64) + (2))), (5, .long ((c_ <<< ((nI 2) &&& 31)).toInt64)), (4, .int (c_ &&& (nI 1))), (0, .ref (fd)), (1, .int q), (2, .int c_), (3, .int (nI 0))]) dJx40b00_toDecimal_cabcc_256 (pc' := 258) rfl (by decide) rfl ?_
            refine yy_iload C 1 dJx40b00_toDecimal_cabcc_258 (pc' := 260) rfl rfl ?_
            refine yy_iconst C (v := (nI 2)) dJx40b00_toDecimal_cabcc_260 (pc' := 261) rfl (by decide) ?_
            refine yy_ishl C (v := (((r4 >>> ((nI 2) &&& 31)) + (nI 1)) <<< ((nI 2) &&& 31))) dJx40b00_toDecimal_cabcc_261 (pc' := 262) rfl rfl ?_
            refine yy_iload C 12 dJx40b00_toDecimal_cabcc_262 (pc' := 264) rfl rfl ?_
            refine yy_iadd C (v := ((((r4 >>> ((nI 2) &&& 31)) + (nI 1)) <<< ((nI 2) &&& 31)) + (c_ &&& (nI 1)))) dJx40b00_toDecimal_cabcc_264 (pc' := 265) rfl rfl ?_
            refine yy_iload C 3 dJx40b00_toDecimal_cabcc_265 (pc' := 267) rfl rfl ?_
            refine yy_icmp_gt C dJx40b00_toDecimal_cabcc_267 (pc' := 270) rfl (tgt := 274) (by decide) (fun c_267 => ?_) (fun c_267 => ?_)
            · skip
              refine yy_iconst C (v := (nI 0)) dJx40b00_toDecimal_cabcc_274 (pc' := 275) rfl (by decide) ?_
              refine yy_istore C (L' := [(21, .int (nI 0)), (20, .int (nI 1)), (19, .int ((r4 >>> ((nI 2) &&& 31)) + (nI 1))), (18, .int (r4 >>> ((nI 2) &&& 31))), (17, .int r6), (16, .int r5), (15, .int r4), (13, .long (r3 + 1)), (12, .int ((q + r2) + (nI 33))), (11, .int r1), (9, .long (((c_ <<< ((nI 2) &&& 31)).toInt64) - (2))), (7, .long (((c_ <<< ((nI 2) &&& 31)).toInt64) + (2))), (5, .long ((c_ <<< ((nI 2) &&& 31)).toInt64)), (4, .int (c_ &&& (nI 1))), (0, .ref (fd)), (1, .int q), (2, .int c_), (3, .int (nI 0))]) dJx40b00_toDecimal_cabcc_275 (pc' := 277) rfl (by decide) rfl ?_
              refine yy_iload C 1 dJx40b00_toDecimal_cabcc_277 (pc' := 279) rfl rfl ?_
              refine yy_iload C 0 dJx40b00_toDecimal_cabcc_279 (pc' := 281) rfl rfl ?_
              refine yy_icmp_eq C dJx40b00_toDecimal_cabcc_281 (pc' := 284) rfl (tgt := 305) (by decide) (fun c_281 => ?_) (fun c_281 => ?_)
              · skip
                exact absurd c_281 (by decide)
              · skip
                refine yy_aload_n C 14 dJx40b00_toDecimal_cabcc_284 (pc' := 285) rfl rfl rfl ?_
                refine yy_iload C 1 dJx40b00_toDecimal_cabcc_285 (pc' := 287) rfl rfl ?_
                refine yy_if_eq C dJx40b00_toDecimal_cabcc_287 (pc' := 290) rfl (tgt := 295) (by decide) (fun c_287 => ?_) (fun c_287 => ?_)
                · skip
                  exact absurd c_287 (by decide)
                · skip
                  refine yy_iload C 3 dJx40b00_toDecimal_cabcc_290 (pc' := 292) rfl rfl ?_
                  refine yy_goto C (tgt := 297) dJx40b00_toDecimal_cabcc_292 (by decide) ?_
                  refine yy_iload C 9 dJx40b00_toDecimal_cabcc_297 (pc' := 299) rfl rfl ?_
                  refine yy_iload_n C 17 dJx40b00_toDecimal_cabcc_299 (pc' := 300) rfl rfl rfl ?_
                  refine yy_iadd C (v := (r1 + (nI 0))) dJx40b00_toDecimal_cabcc_300 (pc' := 301) rfl rfl ?_
                  refine yc_i (yr_V C (n := 2) (As := [.int (r4 >>> ((nI 2) &&& 31)), .int (r1 + (nI 0))]) (rest := []) lk_Jx40b00_73 cd_Jx40b00_toChars_7cf53 im_Jx40b00_toChars_7cf53 se_Jx40b00_toChars_7cf53 (mJx40b00_toChars_7cf53 l G B0 fd fb a F (r4 >>> ((nI 2) &&& 31)) (r1 + (nI 0)) (by have hok' := hok; subst hw1 hw2 hw3 hw4 hw5 hw6; unfold td3 at hok'; dsimp only at hok'; rw [if_neg c_22, if_pos c_143, if_neg c_248, if_pos c_267] at hok'; exact hok')) ⟨by decide, by decide⟩ ⟨by decide, by decide⟩ 0 rfl rfl rfl rfl (Nat.le_of_ble_eq_true rfl) dJx40b00_toDecimal_cabcc_301) (pc' := 304) rfl (fun r7 _ hw7 => ?_)
                  subst hw7
                  subst hQ
                  exact ye_i C hr (vp_nar_int _) () dJx40b00_toDecimal_cabcc_304 (by subst hw1 hw2 hw3 hw4 hw5 hw6; unfold td3; dsimp only; rw [if_neg c_22, if_pos c_143, if_neg c_248, if_pos c_267]) (by decide) (by decide) rfl
            · skip
              refine yy_iconst C (v := (nI 1)) dJx40b00_toDecimal_cabcc_270 (pc' := 271) rfl (by decide) ?_
              refine yy_goto C (tgt := 275) dJx40b00_toDecimal_cabcc_271 (by decide) ?_
              refine yy_istore C (L' := [(21, .int (nI 1)), (20, .int (nI 1)), (19, .int ((r4 >>> ((nI 2) &&& 31)) + (nI 1))), (18, .int (r4 >>> ((nI 2) &&& 31))), (17, .int r6), (16, .int r5), (15, .int r4), (13, .long (r3 + 1)), (12, .int ((q + r2) + (nI 33))), (11, .int r1), (9, .long (((c_ <<< ((nI 2) &&& 31)).toInt64) - (2))), (7, .long (((c_ <<< ((nI 2) &&& 31)).toInt64) + (2))), (5, .long ((c_ <<< ((nI 2) &&& 31)).toInt64)), (4, .int (c_ &&& (nI 1))), (0, .ref (fd)), (1, .int q), (2, .int c_), (3, .int (nI 0))]) dJx40b00_toDecimal_cabcc_275 (pc' := 277) rfl (by decide) rfl ?_
              refine yy_iload C 1 dJx40b00_toDecimal_cabcc_277 (pc' := 279) rfl rfl ?_
              refine yy_iload C 0 dJx40b00_toDecimal_cabcc_279 (pc' := 281) rfl rfl ?_
              refine yy_icmp_eq C dJx40b00_toDecimal_cabcc_281 (pc' := 284) rfl (tgt := 305) (by decide) (fun c_281 => ?_) (fun c_281 => ?_)
              · skip
                refine yy_iload C 6 dJx40b00_toDecimal_cabcc_305 (pc' := 307) rfl rfl ?_
                refine yy_iload C 3 dJx40b00_toDecimal_cabcc_307 (pc' := 309) rfl rfl ?_
                refine yy_iload C 2 dJx40b00_toDecimal_cabcc_309 (pc' := 311) rfl rfl ?_
                refine yy_iadd C (v := ((r4 >>> ((nI 2) &&& 31)) + ((r4 >>> ((nI 2) &&& 31)) + (nI 1)))) dJx40b00_toDecimal_cabcc_311 (pc' := 312) rfl rfl ?_
                refine yy_iconst C (v := (nI 1)) dJx40b00_toDecimal_cabcc_312 (pc' := 313) rfl (by decide) ?_
                refine yy_ishl C (v := (((r4 >>> ((nI 2) &&& 31)) + ((r4 >>> ((nI 2) &&& 31)) + (nI 1))) <<< ((nI 1) &&& 31))) dJx40b00_toDecimal_cabcc_313 (pc' := 314) rfl rfl ?_
                refine yy_isub C (v := (r4 - (((r4 >>> ((nI 2) &&& 31)) + ((r4 >>> ((nI 2) &&& 31)) + (nI 1))) <<< ((nI 1) &&& 31)))) dJx40b00_toDecimal_cabcc_314 (pc' := 315) rfl rfl ?_
                refine yy_istore C (L' := [(22, .int (r4 - (((r4 >>> ((nI 2) &&& 31)) + ((r4 >>> ((nI 2) &&& 31)) + (nI 1))) <<< ((nI 1) &&& 31)))), (21, .int (nI 1)), (20, .int (nI 1)), (19, .int ((r4 >>> ((nI 2) &&& 31)) + (nI 1))), (18, .int (r4 >>> ((nI 2) &&& 31))), (17, .int r6), (16, .int r5), (15, .int r4), (13, .long (r3 + 1)), (12, .int ((q + r2) + (nI 33))), (11, .int r1), (9, .long (((c_ <<< ((nI 2) &&& 31)).toInt64) - (2))), (7, .long (((c_ <<< ((nI 2) &&& 31)).toInt64) + (2))), (5, .long ((c_ <<< ((nI 2) &&& 31)).toInt64)), (4, .int (c_ &&& (nI 1))), (0, .ref (fd)), (1, .int q), (2, .int c_), (3, .int (nI 0))]) dJx40b00_toDecimal_cabcc_315 (pc' := 317) rfl (by decide) rfl ?_
                refine yy_aload_n C 15 dJx40b00_toDecimal_cabcc_317 (pc' := 318) rfl rfl rfl ?_
                refine yy_iload C 0 dJx40b00_toDecimal_cabcc_318 (pc' := 320) rfl rfl ?_
                refine yy_if_lt C dJx40b00_toDecimal_cabcc_320 (pc' := 323) rfl (tgt := 335) (by decide) (fun c_320 => ?_) (fun c_320 => ?_)
                · skip
                  refine yy_iload C 4 dJx40b00_toDecimal_cabcc_335 (pc' := 337) rfl rfl ?_
                  refine yy_goto C (tgt := 342) dJx40b00_toDecimal_cabcc_337 (by decide) ?_
                  refine yy_iload C 10 dJx40b00_toDecimal_cabcc_342 (pc' := 344) rfl rfl ?_
                  refine yy_iload_n C 18 dJx40b00_toDecimal_cabcc_344 (pc' := 345) rfl rfl rfl ?_
                  refine yy_iadd C (v := (r1 + (nI 0))) dJx40b00_toDecimal_cabcc_345 (pc' := 346) rfl rfl ?_
                  refine yc_i (yr_V C (n := 2) (As := [.int (r4 >>> ((nI 2) &&& 31)), .int (r1 + (nI 0))]) (rest := []) lk_Jx40b00_73 cd_Jx40b00_toChars_7cf53 im_Jx40b00_toChars_7cf53 se_Jx40b00_toChars_7cf53 (mJx40b00_toChars_7cf53 l G B0 fd fb a F (r4 >>> ((nI 2) &&& 31)) (r1 + (nI 0)) (by have hok' := hok; subst hw1 hw2 hw3 hw4 hw5 hw6; unfold td3 at hok'; dsimp only at hok'; rw [if_neg c_22, if_pos c_143, if_neg c_248, if_neg c_267, if_pos c_320] at hok'; exact hok')) ⟨by decide, by decide⟩ ⟨by decide, by decide⟩ 0 rfl rfl rfl rfl (Nat.le_of_ble_eq_true rfl) dJx40b00_toDecimal_cabcc_346) (pc' := 349) rfl (fun r7 _ hw7 => ?_)
                  subst hw7
                  subst hQ
                  exact ye_i C hr (vp_nar_int _) () dJx40b00_toDecimal_cabcc_349 (by subst hw1 hw2 hw3 hw4 hw5 hw6; unfold td3; dsimp only; rw [if_neg c_22, if_pos c_143, if_neg c_248, if_neg c_267, if_pos c_320]) (by decide) (by decide) rfl
                · skip
                  refine yy_iload C 0 dJx40b00_toDecimal_cabcc_323 (pc' := 325) rfl rfl ?_
                  refine yy_if_ne C dJx40b00_toDecimal_cabcc_325 (pc' := 328) rfl (tgt := 340) (by decide) (fun c_325 => ?_) (fun c_325 => ?_)
                  · skip
                    refine yy_iload C 3 dJx40b00_toDecimal_cabcc_340 (pc' := 342) rfl rfl ?_
                    refine yy_iload C 10 dJx40b00_toDecimal_cabcc_342 (pc' := 344) rfl rfl ?_
                    refine yy_iload_n C 18 dJx40b00_toDecimal_cabcc_344 (pc' := 345) rfl rfl rfl ?_
                    refine yy_iadd C (v := (r1 + (nI 0))) dJx40b00_toDecimal_cabcc_345 (pc' := 346) rfl rfl ?_
                    refine yc_i (yr_V C (n := 2) (As := [.int ((r4 >>> ((nI 2) &&& 31)) + (nI 1)), .int (r1 + (nI 0))]) (rest := []) lk_Jx40b00_73 cd_Jx40b00_toChars_7cf53 im_Jx40b00_toChars_7cf53 se_Jx40b00_toChars_7cf53 (mJx40b00_toChars_7cf53 l G B0 fd fb a F ((r4 >>> ((nI 2) &&& 31)) + (nI 1)) (r1 + (nI 0)) (by have hok' := hok; subst hw1 hw2 hw3 hw4 hw5 hw6; unfold td3 at hok'; dsimp only at hok'; rw [if_neg c_22, if_pos c_143, if_neg c_248, if_neg c_267, if_neg c_320, if_neg c_325] at hok'; exact hok')) ⟨by decide, by decide⟩ ⟨by decide, by decide⟩ 0 rfl rfl rfl rfl (Nat.le_of_ble_eq_true rfl) dJx40b00_toDecimal_cabcc_346) (pc' := 349) rfl (fun r7 _ hw7 => ?_)
                    subst hw7
                    subst hQ
                    exact ye_i C hr (vp_nar_int _) () dJx40b00_toDecimal_cabcc_349 (by subst hw1 hw2 hw3 hw4 hw5 hw6; unfold td3; dsimp only; rw [if_neg c_22, if_pos c_143, if_neg c_248, if_neg c_267, if_neg c_320, if_neg c_325]) (by decide) (by decide) rfl
                  · skip
                    refine yy_iload C 4 dJx40b00_toDecimal_cabcc_328 (pc' := 330) rfl rfl ?_
                    refine yy_iconst C (v := (nI 1)) dJx40b00_toDecimal_cabcc_330 (pc' := 331) rfl (by decide) ?_
                    refine yy_iand C (v := ((r4 >>> ((nI 2) &&& 31)) &&& (nI 1))) dJx40b00_toDecimal_cabcc_331 (pc' := 332) rfl rfl ?_
                    refine yy_if_ne C dJx40b00_toDecimal_cabcc_332 (pc' := 335) rfl (tgt := 340) (by decide) (fun c_332 => ?_) (fun c_332 => ?_)
                    · skip
                      refine yy_iload C 3 dJx40b00_toDecimal_cabcc_340 (pc' := 342) rfl rfl ?_
                      refine yy_iload C 10 dJx40b00_toDecimal_cabcc_342 (pc' := 344) rfl rfl ?_
                      refine yy_iload_n C 18 dJx40b00_toDecimal_cabcc_344 (pc' := 345) rfl rfl rfl ?_
                      refine yy_iadd C (v := (r1 + (nI 0))) dJx40b00_toDecimal_cabcc_345 (pc' := 346) rfl rfl ?_
                      refine yc_i (yr_V C (n := 2) (As := [.int ((r4 >>> ((nI 2) &&& 31)) + (nI 1)), .int (r1 + (nI 0))]) (rest := []) lk_Jx40b00_73 cd_Jx40b00_toChars_7cf53 im_Jx40b00_toChars_7cf53 se_Jx40b00_toChars_7cf53 (mJx40b00_toChars_7cf53 l G B0 fd fb a F ((r4 >>> ((nI 2) &&& 31)) + (nI 1)) (r1 + (nI 0)) (by have hok' := hok; subst hw1 hw2 hw3 hw4 hw5 hw6; unfold td3 at hok'; dsimp only at hok'; rw [if_neg c_22, if_pos c_143, if_neg c_248, if_neg c_267, if_neg c_320, if_pos c_325, if_neg c_332] at hok'; exact hok')) ⟨by decide, by decide⟩ ⟨by decide, by decide⟩ 0 rfl rfl rfl rfl (Nat.le_of_ble_eq_true rfl) dJx40b00_toDecimal_cabcc_346) (pc' := 349) rfl (fun r7 _ hw7 => ?_)
                      subst hw7
                      subst hQ
                      exact ye_i C hr (vp_nar_int _) () dJx40b00_toDecimal_cabcc_349 (by subst hw1 hw2 hw3 hw4 hw5 hw6; unfold td3; dsimp only; rw [if_neg c_22, if_pos c_143, if_neg c_248, if_neg c_267, if_neg c_320, if_pos c_325, if_neg c_332]) (by decide) (by decide) rfl
                    · skip
                      refine yy_iload C 4 dJx40b00_toDecimal_cabcc_335 (pc' := 337) rfl rfl ?_
                      refine yy_goto C (tgt := 342) dJx40b00_toDecimal_cabcc_337 (by decide) ?_
                      refine yy_iload C 10 dJx40b00_toDecimal_cabcc_342 (pc' := 344) rfl rfl ?_
                      refine yy_iload_n C 18 dJx40b00_toDecimal_cabcc_344 (pc' := 345) rfl rfl rfl ?_
                      refine yy_iadd C (v := (r1 + (nI 0))) dJx40b00_toDecimal_cabcc_345 (pc' := 346) rfl rfl ?_
                      refine yc_i (yr_V C (n := 2) (As := [.int (r4 >>> ((nI 2) &&& 31)), .int (r1 + (nI 0))]) (rest := []) lk_Jx40b00_73 cd_Jx40b00_toChars_7cf53 im_Jx40b00_toChars_7cf53 se_Jx40b00_toChars_7cf53 (mJx40b00_toChars_7cf53 l G B0 fd fb a F (r4 >>> ((nI 2) &&& 31)) (r1 + (nI 0)) (by have hok' := hok; subst hw1 hw2 hw3 hw4 hw5 hw6; unfold td3 at hok'; dsimp only at hok'; rw [if_neg c_22, if_pos c_143, if_neg c_248, if_neg c_267, if_neg c_320, if_pos c_325, if_pos c_332] at hok'; exact hok')) ⟨by decide, by decide⟩ ⟨by decide, by decide⟩ 0 rfl rfl rfl rfl (Nat.le_of_ble_eq_true rfl) dJx40b00_toDecimal_cabcc_346) (pc' := 349) rfl (fun r7 _ hw7 => ?_)
                      subst hw7
                      subst hQ
                      exact ye_i C hr (vp_nar_int _) () dJx40b00_toDecimal_cabcc_349 (by subst hw1 hw2 hw3 hw4 hw5 hw6; unfold td3; dsimp only; rw [if_neg c_22, if_pos c_143, if_neg c_248, if_neg c_267, if_neg c_320, if_pos c_325, if_pos c_332]) (by decide) (by decide) rfl
              · skip
                exact absurd c_281 (by decide)
        · skip
          refine yy_bipush C (v := (nI 10)) dJx40b00_toDecimal_cabcc_146 (pc' := 148) rfl (by decide) ?_
          refine yy_iload C 0 dJx40b00_toDecimal_cabcc_148 (pc' := 150) rfl rfl ?_
          refine yy_i2l C (v := ((r4 >>> ((nI 2) &&& 31)).toInt64)) dJx40b00_toDecimal_cabcc_150 (pc' := 151) rfl rfl ?_
          refine yy_ldc2 C dJx40b00_toDecimal_cabcc_151 (pc' := 154) rfl lg_Jx40b00_102 ?_
          refine yy_lmul C (v := (((r4 >>> ((nI 2) &&& 31)).toInt64) * (1717986919))) dJx40b00_toDecimal_cabcc_154 (pc' := 155) rfl rfl ?_
          refine yy_bipush C (v := (nI 34)) dJx40b00_toDecimal_cabcc_155 (pc' := 157) rfl (by decide) ?_
          refine yy_lushr C (v := (ush (((r4 >>> ((nI 2) &&& 31)).toInt64) * (1717986919)) (nI 34))) dJx40b00_toDecimal_cabcc_157 (pc' := 158) rfl rfl ?_
          refine yy_l2i C (v := ((ush (((r4 >>> ((nI 2) &&& 31)).toInt64) * (1717986919)) (nI 34)).toInt32)) dJx40b00_toDecimal_cabcc_158 (pc' := 159) rfl rfl ?_
          refine yy_imul C (v := ((nI 10) * ((ush (((r4 >>> ((nI 2) &&& 31)).toInt64) * (1717986919)) (nI 34)).toInt32))) dJx40b00_toDecimal_cabcc_159 (pc' := 160) rfl rfl ?_
          refine yy_istore C (L' := [(19, .int ((nI 10) * ((ush (((r4 >>> ((nI 2) &&& 31)).toInt64) * (1717986919)) (nI 34)).toInt32))), (18, .int (r4 >>> ((nI 2) &&& 31))), (17, .int r6), (16, .int r5), (15, .int r4), (13, .long (r3 + 1)), (12, .int ((q + r2) + (nI 33))), (11, .int r1), (9, .long (((c_ <<< ((nI 2) &&& 31)).toInt64) - (2))), (7, .long (((c_ <<< ((nI 2) &&& 31)).toInt64) + (2))), (5, .long ((c_ <<< ((nI 2) &&& 31)).toInt64)), (4, .int (c_ &&& (nI 1))), (0, .ref (fd)), (1, .int q), (2, .int c_), (3, .int (nI 0))]) dJx40b00_toDecimal_cabcc_160 (pc' := 162) rfl (by decide) rfl ?_
          refine yy_iload C 0 dJx40b00_toDecimal_cabcc_162 (pc' := 164) rfl rfl ?_
          refine yy_bipush C (v := (nI 10)) dJx40b00_toDecimal_cabcc_164 (pc' := 166) rfl (by decide) ?_
          refine yy_iadd C (v := (((nI 10) * ((ush (((r4 >>> ((nI 2) &&& 31)).toInt64) * (1717986919)) (nI 34)).toInt32)) + (nI 10))) dJx40b00_toDecimal_cabcc_166 (pc' := 167) rfl rfl ?_
          refine yy_istore C (L' := [(20, .int (((nI 10) * ((ush (((r4 >>> ((nI 2) &&& 31)).toInt64) * (1717986919)) (nI 34)).toInt32)) + (nI 10))), (19, .int ((nI 10) * ((ush (((r4 >>> ((nI 2) &&& 31)).toInt64) * (1717986919)) (nI 34)).toInt32))), (18, .int (r4 >>> ((nI 2) &&& 31))), (17, .int r6), (16, .int r5), (15, .int r4), (13, .long (r3 + 1)), (12, .int ((q + r2) + (nI 33))), (11, .int r1), (9, .long (((c_ <<< ((nI 2) &&& 31)).toInt64) - (2))), (7, .long (((c_ <<< ((nI 2) &&& 31)).toInt64) + (2))), (5, .long ((c_ <<< ((nI 2) &&& 31)).toInt64)), (4, .int (c_ &&& (nI 1))), (0, .ref (fd)), (1, .int q), (2, .int c_), (3, .int (nI 0))]) dJx40b00_toDecimal_cabcc_167 (pc' := 169) rfl (by decide) rfl ?_
          refine yy_iload C 4 dJx40b00_toDecimal_cabcc_169 (pc' := 171) rfl rfl ?_
          refine yy_iload C 12 dJx40b00_toDecimal_cabcc_171 (pc' := 173) rfl rfl ?_
          refine yy_iadd C (v := (r5 + (c_ &&& (nI 1)))) dJx40b00_toDecimal_cabcc_173 (pc' := 174) rfl rfl ?_
          refine yy_iload C 1 dJx40b00_toDecimal_cabcc_174 (pc' := 176) rfl rfl ?_
          refine yy_iconst C (v := (nI 2)) dJx40b00_toDecimal_cabcc_176 (pc' := 177) rfl (by decide) ?_
          refine yy_ishl C (v := (((nI 10) * ((ush (((r4 >>> ((nI 2) &&& 31)).toInt64) * (1717986919)) (nI 34)).toInt32)) <<< ((nI 2) &&& 31))) dJx40b00_toDecimal_cabcc_177 (pc' := 178) rfl rfl ?_
          refine yy_icmp_gt C dJx40b00_toDecimal_cabcc_178 (pc' := 181) rfl (tgt := 185) (by decide) (fun c_178 => ?_) (fun c_178 => ?_)
          · skip
            refine yy_iconst C (v := (nI 0)) dJx40b00_toDecimal_cabcc_185 (pc' := 186) rfl (by decide) ?_
            refine yy_istore C (L' := [(21, .int (nI 0)), (20, .int (((nI 10) * ((ush (((r4 >>> ((nI 2) &&& 31)).toInt64) * (1717986919)) (nI 34)).toInt32)) + (nI 10))), (19, .int ((nI 10) * ((ush (((r4 >>> ((nI 2) &&& 31)).toInt64) * (1717986919)) (nI 34)).toInt32))), (18, .int (r4 >>> ((nI 2) &&& 31))), (17, .int r6), (16, .int r5), (15, .int r4), (13, .long (r3 + 1)), (12, .int ((q + r2) + (nI 33))), (11, .int r1), (9, .long (((c_ <<< ((nI 2) &&& 31)).toInt64) - (2))), (7, .long (((c_ <<< ((nI 2) &&& 31)).toInt64) + (2))), (5, .long ((c_ <<< ((nI 2) &&& 31)).toInt64)), (4, .int (c_ &&& (nI 1))), (0, .ref (fd)), (1, .int q), (2, .int c_), (3, .int (nI 0))]) dJx40b00_toDecimal_cabcc_186 (pc' := 188) rfl (by decide) rfl ?_
            refine yy_iload C 1 dJx40b00_toDecimal_cabcc_188 (pc' := 190) rfl rfl ?_
            refine yy_iconst C (v := (nI 2)) dJx40b00_toDecimal_cabcc_190 (pc' := 191) rfl (by decide) ?_
            refine yy_ishl C (v := ((((nI 10) * ((ush (((r4 >>> ((nI 2) &&& 31)).toInt64) * (1717986919)) (nI 34)).toInt32)) + (nI 10)) <<< ((nI 2) &&& 31))) dJx40b00_toDecimal_cabcc_191 (pc' := 192) rfl rfl ?_
            refine yy_iload C 13 dJx40b00_toDecimal_cabcc_192 (pc' := 194) rfl rfl ?_
            refine yy_iadd C (v := (((((nI 10) * ((ush (((r4 >>> ((nI 2) &&& 31)).toInt64) * (1717986919)) (nI 34)).toInt32)) + (nI 10)) <<< ((nI 2) &&& 31)) + (c_ &&& (nI 1)))) dJx40b00_toDecimal_cabcc_194 (pc' := 195) rfl rfl ?_
            refine yy_iload C 4 dJx40b00_toDecimal_cabcc_195 (pc' := 197) rfl rfl ?_
            refine yy_icmp_gt C dJx40b00_toDecimal_cabcc_197 (pc' := 200) rfl (tgt := 204) (by decide) (fun c_197 => ?_) (fun c_197 => ?_)
            · skip
              refine yy_iconst C (v := (nI 0)) dJx40b00_toDecimal_cabcc_204 (pc' := 205) rfl (by decide) ?_
              refine yy_istore C (L' := [(22, .int (nI 0)), (21, .int (nI 0)), (20, .int (((nI 10) * ((ush (((r4 >>> ((nI 2) &&& 31)).toInt64) * (1717986919)) (nI 34)).toInt32)) + (nI 10))), (19, .int ((nI 10) * ((ush (((r4 >>> ((nI 2) &&& 31)).toInt64) * (1717986919)) (nI 34)).toInt32))), (18, .int (r4 >>> ((nI 2) &&& 31))), (17, .int r6), (16, .int r5), (15, .int r4), (13, .long (r3 + 1)), (12, .int ((q + r2) + (nI 33))), (11, .int r1), (9, .long (((c_ <<< ((nI 2) &&& 31)).toInt64) - (2))), (7, .long (((c_ <<< ((nI 2) &&& 31)).toInt64) + (2))), (5, .long ((c_ <<< ((nI 2) &&& 31)).toInt64)), (4, .int (c_ &&& (nI 1))), (0, .ref (fd)), (1, .int q), (2, .int c_), (3, .int (nI 0))]) dJx40b00_toDecimal_cabcc_205 (pc' := 207) rfl (by decide) rfl ?_
              refine yy_iload C 1 dJx40b00_toDecimal_cabcc_207 (pc' := 209) rfl rfl ?_
              refine yy_iload C 0 dJx40b00_toDecimal_cabcc_209 (pc' := 211) rfl rfl ?_
              refine yy_icmp_eq C dJx40b00_toDecimal_cabcc_211 (pc' := 214) rfl (tgt := 233) (by decide) (fun c_211 => ?_) (fun c_211 => ?_)
              · skip
                refine yy_iload C 4 dJx40b00_toDecimal_cabcc_233 (pc' := 235) rfl rfl ?_
                refine yy_iconst C (v := (nI 1)) dJx40b00_toDecimal_cabcc_235 (pc' := 236) rfl (by decide) ?_
                refine yy_iadd C (v := ((r4 >>> ((nI 2) &&& 31)) + (nI 1))) dJx40b00_toDecimal_cabcc_236 (pc' := 237) rfl rfl ?_
                refine yy_istore C (L' := [(19, .int ((r4 >>> ((nI 2) &&& 31)) + (nI 1))), (22, .int (nI 0)), (21, .int (nI 0)), (20, .int (((nI 10) * ((ush (((r4 >>> ((nI 2) &&& 31)).toInt64) * (1717986919)) (nI 34)).toInt32)) + (nI 10))), (18, .int (r4 >>> ((nI 2) &&& 31))), (17, .int r6), (16, .int r5), (15, .int r4), (13, .long (r3 + 1)), (12, .int ((q + r2) + (nI 33))), (11, .int r1), (9, .long (((c_ <<< ((nI 2) &&& 31)).toInt64) - (2))), (7, .long (((c_ <<< ((nI 2) &&& 31)).toInt64) + (2))), (5, .long ((c_ <<< ((nI 2) &&& 31)).toInt64)), (4, .int (c_ &&& (nI 1))), (0, .ref (fd)), (1, .int q), (2, .int c_), (3, .int (nI 0))]) dJx40b00_toDecimal_cabcc_237 (pc' := 239) rfl (by decide) rfl ?_
                refine yy_iload C 6 dJx40b00_toDecimal_cabcc_239 (pc' := 241) rfl rfl ?_
                refine yy_iload C 14 dJx40b00_toDecimal_cabcc_241 (pc' := 243) rfl rfl ?_
                refine yy_iadd C (v := (r5 + (c_ &&& (nI 1)))) dJx40b00_toDecimal_cabcc_243 (pc' := 244) rfl rfl ?_
                refine yy_iload C 4 dJx40b00_toDecimal_cabcc_244 (pc' := 246) rfl rfl ?_
                refine yy_iconst C (v := (nI 2)) dJx40b00_toDecimal_cabcc_246 (pc' := 247) rfl (by decide) ?_
                refine yy_ishl C (v := ((r4 >>> ((nI 2) &&& 31)) <<< ((nI 2) &&& 31))) dJx40b00_toDecimal_cabcc_247 (pc' := 248) rfl rfl ?_
                refine yy_icmp_gt C dJx40b00_toDecimal_cabcc_248 (pc' := 251) rfl (tgt := 255) (by decide) (fun c_248 => ?_) (fun c_248 => ?_)
                · skip
                  refine yy_iconst C (v := (nI 0)) dJx40b00_toDecimal_cabcc_255 (pc' := 256) rfl (by decide) ?_
                  refine yy_istore C (L' := [(20, .int (nI 0)), (19, .int ((r4 >>> ((nI 2) &&& 31)) + (nI 1))), (22, .int (nI 0)), (21, .int (nI 0)), (18, .int (r4 >>> ((nI 2) &&& 31))), (17, .int r6), (16, .int r5), (15, .int r4), (13, .long (r3 + 1)), (12, .int ((q + r2) + (nI 33))), (11, .int r1), (9, .long (((c_ <<< ((nI 2) &&& 31)).toInt64) - (2))), (7, .long (((c_ <<< ((nI 2) &&& 31)).toInt64) + (2))), (5, .long ((c_ <<< ((nI 2) &&& 31)).toInt64)), (4, .int (c_ &&& (nI 1))), (0, .ref (fd)), (1, .int q), (2, .int c_), (3, .int (nI 0))]) dJx40b00_toDecimal_cabcc_256 (pc' := 258) rfl (by decide) rfl ?_
                  refine yy_iload C 1 dJx40b00_toDecimal_cabcc_258 (pc' := 260) rfl rfl ?_
                  refine yy_iconst C (v := (nI 2)) dJx40b00_toDecimal_cabcc_260 (pc' := 261) rfl (by decide) ?_
                  refine yy_ishl C (v := (((r4 >>> ((nI 2) &&& 31)) + (nI 1)) <<< ((nI 2) &&& 31))) dJx40b00_toDecimal_cabcc_261 (pc' := 262) rfl rfl ?_
                  refine yy_iload C 14 dJx40b00_toDecimal_cabcc_262 (pc' := 264) rfl rfl ?_
                  refine yy_iadd C (v := ((((r4 >>> ((nI 2) &&& 31)) + (nI 1)) <<< ((nI 2) &&& 31)) + (c_ &&& (nI 1)))) dJx40b00_toDecimal_cabcc_264 (pc' := 265) rfl rfl ?_
                  refine yy_iload C 5 dJx40b00_toDecimal_cabcc_265 (pc' := 267) rfl rfl ?_
                  refine yy_icmp_gt C dJx40b00_toDecimal_cabcc_267 (pc' := 270) rfl (tgt := 274) (by decide) (fun c_267 => ?_) (fun c_267 => ?_)
                  · skip
                    refine yy_iconst C (v := (nI 0)) dJx40b00_toDecimal_cabcc_274 (pc' := 275) rfl (by decide) ?_
                    refine yy_istore C (L' := [(21, .int (nI 0)), (20, .int (nI 0)), (19, .int ((r4 >>> ((nI 2) &&& 31)) + (nI 1))), (22, .int (nI 0)), (18, .int (r4 >>> ((nI 2) &&& 31))), (17, .int r6), (16, .int r5), (15, .int r4), (13, .long (r3 + 1)), (12, .int ((q + r2) + (nI 33))), (11, .int r1), (9, .long (((c_ <<< ((nI 2) &&& 31)).toInt64) - (2))), (7, .long (((c_ <<< ((nI 2) &&& 31)).toInt64) + (2))), (5, .long ((c_ <<< ((nI 2) &&& 31)).toInt64)), (4, .int (c_ &&& (nI 1))), (0, .ref (fd)), (1, .int q), (2, .int c_), (3, .int (nI 0))]) dJx40b00_toDecimal_cabcc_275 (pc' := 277) rfl (by decide) rfl ?_
                    refine yy_iload C 1 dJx40b00_toDecimal_cabcc_277 (pc' := 279) rfl rfl ?_
                    refine yy_iload C 0 dJx40b00_toDecimal_cabcc_279 (pc' := 281) rfl rfl ?_
                    refine yy_icmp_eq C dJx40b00_toDecimal_cabcc_281 (pc' := 284) rfl (tgt := 305) (by decide) (fun c_281 => ?_) (fun c_281 => ?_)
                    · skip
                      refine yy_iload C 7 dJx40b00_toDecimal_cabcc_305 (pc' := 307) rfl rfl ?_
                      refine yy_iload C 4 dJx40b00_toDecimal_cabcc_307 (pc' := 309) rfl rfl ?_
                      refine yy_iload C 2 dJx40b00_toDecimal_cabcc_309 (pc' := 311) rfl rfl ?_
                      refine yy_iadd C (v := ((r4 >>> ((nI 2) &&& 31)) + ((r4 >>> ((nI 2) &&& 31)) + (nI 1)))) dJx40b00_toDecimal_cabcc_311 (pc' := 312) rfl rfl ?_
                      refine yy_iconst C (v := (nI 1)) dJx40b00_toDecimal_cabcc_312 (pc' := 313) rfl (by decide) ?_
                      refine yy_ishl C (v := (((r4 >>> ((nI 2) &&& 31)) + ((r4 >>> ((nI 2) &&& 31)) + (nI 1))) <<< ((nI 1) &&& 31))) dJx40b00_toDecimal_cabcc_313 (pc' := 314) rfl rfl ?_
                      refine yy_isub C (v := (r4 - (((r4 >>> ((nI 2) &&& 31)) + ((r4 >>> ((nI 2) &&& 31)) + (nI 1))) <<< ((nI 1) &&& 31)))) dJx40b00_toDecimal_cabcc_314 (pc' := 315) rfl rfl ?_
                      refine yy_istore C (L' := [(22, .int (r4 - (((r4 >>> ((nI 2) &&& 31)) + ((r4 >>> ((nI 2) &&& 31)) + (nI 1))) <<< ((nI 1) &&& 31)))), (21, .int (nI 0)), (20, .int (nI 0)), (19, .int ((r4 >>> ((nI 2) &&& 31)) + (nI 1))), (18, .int (r4 >>> ((nI 2) &&& 31))), (17, .int r6), (16, .int r5), (15, .int r4), (13, .long (r3 + 1)), (12, .int ((q + r2) + (nI 33))), (11, .int r1), (9, .long (((c_ <<< ((nI 2) &&& 31)).toInt64) - (2))), (7, .long (((c_ <<< ((nI 2) &&& 31)).toInt64) + (2))), (5, .long ((c_ <<< ((nI 2) &&& 31)).toInt64)), (4, .int (c_ &&& (nI 1))), (0, .ref (fd)), (1, .int q), (2, .int c_), (3, .int (nI 0))]) dJx40b00_toDecimal_cabcc_315 (pc' := 317) rfl (by decide) rfl ?_
                      refine yy_aload_n C 15 dJx40b00_toDecimal_cabcc_317 (pc' := 318) rfl rfl rfl ?_
                      refine yy_iload C 0 dJx40b00_toDecimal_cabcc_318 (pc' := 320) rfl rfl ?_
                      refine yy_if_lt C dJx40b00_toDecimal_cabcc_320 (pc' := 323) rfl (tgt := 335) (by decide) (fun c_320 => ?_) (fun c_320 => ?_)
                      · skip
                        refine yy_iload C 4 dJx40b00_toDecimal_cabcc_335 (pc' := 337) rfl rfl ?_
                        refine yy_goto C (tgt := 342) dJx40b00_toDecimal_cabcc_337 (by decide) ?_
                        refine yy_iload C 10 dJx40b00_toDecimal_cabcc_342 (pc' := 344) rfl rfl ?_
                        refine yy_iload_n C 18 dJx40b00_toDecimal_cabcc_344 (pc' := 345) rfl rfl rfl ?_
                        refine yy_iadd C (v := (r1 + (nI 0))) dJx40b00_toDecimal_cabcc_345 (pc' := 346) rfl rfl ?_
                        refine yc_i (yr_V C (n := 2) (As := [.int (r4 >>> ((nI 2) &&& 31)), .int (r1 + (nI 0))]) (rest := []) lk_Jx40b00_73 cd_Jx40b00_toChars_7cf53 im_Jx40b00_toChars_7cf53 se_Jx40b00_toChars_7cf53 (mJx40b00_toChars_7cf53 l G B0 fd fb a F (r4 >>> ((nI 2) &&& 31)) (r1 + (nI 0)) (by have hok' := hok; subst hw1 hw2 hw3 hw4 hw5 hw6; unfold td3 at hok'; dsimp only at hok'; rw [if_neg c_22, if_neg c_143, if_pos c_178, if_pos c_197, if_pos c_248, if_pos c_267, if_pos c_320] at hok'; exact hok')) ⟨by decide, by decide⟩ ⟨by decide, by decide⟩ 0 rfl rfl rfl rfl (Nat.le_of_ble_eq_true rfl) dJx40b00_toDecimal_cabcc_346) (pc' := 349) rfl (fun r7 _ hw7 => ?_)
                        subst hw7
                        subst hQ
                        exact ye_i C hr (vp_nar_int _) () dJx40b00_toDecimal_cabcc_349 (by subst hw1 hw2 hw3 hw4 hw5 hw6; unfold td3; dsimp only; rw [if_neg c_22, if_neg c_143, if_pos c_178, if_pos c_197, if_pos c_248, if_pos c_267, if_pos c_320]) (by decide) (by decide) rfl
                      · skip
                        refine yy_iload C 0 dJx40b00_toDecimal_cabcc_323 (pc' := 325) rfl rfl ?_
                        refine yy_if_ne C dJx40b00_toDecimal_cabcc_325 (pc' := 328) rfl (tgt := 340) (by decide) (fun c_325 => ?_) (fun c_325 => ?_)
                        · skip
                          refine yy_iload C 3 dJx40b00_toDecimal_cabcc_340 (pc' := 342) rfl rfl ?_
                          refine yy_iload C 10 dJx40b00_toDecimal_cabcc_342 (pc' := 344) rfl rfl ?_
                          refine yy_iload_n C 18 dJx40b00_toDecimal_cabcc_344 (pc' := 345) rfl rfl rfl ?_
                          refine yy_iadd C (v := (r1 + (nI 0))) dJx40b00_toDecimal_cabcc_345 (pc' := 346) rfl rfl ?_
                          refine yc_i (yr_V C (n := 2) (As := [.int ((r4 >>> ((nI 2) &&& 31)) + (nI 1)), .int (r1 + (nI 0))]) (rest := []) lk_Jx40b00_73 cd_Jx40b00_toChars_7cf53 im_Jx40b00_toChars_7cf53 se_Jx40b00_toChars_7cf53 (mJx40b00_toChars_7cf53 l G B0 fd fb a F ((r4 >>> ((nI 2) &&& 31)) + (nI 1)) (r1 + (nI 0)) (by have hok' := hok; subst hw1 hw2 hw3 hw4 hw5 hw6; unfold td3 at hok'; dsimp only at hok'; rw [if_neg c_22, if_neg c_143, if_pos c_178, if_pos c_197, if_pos c_248, if_pos c_267, if_neg c_320, if_neg c_325] at hok'; exact hok')) ⟨by decide, by decide⟩ ⟨by decide, by decide⟩ 0 rfl rfl rfl rfl (Nat.le_of_ble_eq_true rfl) dJx40b00_toDecimal_cabcc_346) (pc' := 349) rfl (fun r7 _ hw7 => ?_)
                          subst hw7
                          subst hQ
                          exact ye_i C hr (vp_nar_int _) () dJx40b00_toDecimal_cabcc_349 (by subst hw1 hw2 hw3 hw4 hw5 hw6; unfold td3; dsimp only; rw [if_neg c_22, if_neg c_143, if_pos c_178, if_pos c_197, if_pos c_248, if_pos c_267, if_neg c_320, if_neg c_325]) (by decide) (by decide) rfl
                        · skip
                          refine yy_iload C 4 dJx40b00_toDecimal_cabcc_328 (pc' := 330) rfl rfl ?_
                          refine yy_iconst C (v := (nI 1)) dJx40b00_toDecimal_cabcc_330 (pc' := 331) rfl (by decide) ?_
                          refine yy_iand C (v := ((r4 >>> ((nI 2) &&& 31)) &&& (nI 1))) dJx40b00_toDecimal_cabcc_331 (pc' := 332) rfl rfl ?_
                          refine yy_if_ne C dJx40b00_toDecimal_cabcc_332 (pc' := 335) rfl (tgt := 340) (by decide) (fun c_332 => ?_) (fun c_332 => ?_)
                          · skip
                            refine yy_iload C 3 dJx40b00_toDecimal_cabcc_340 (pc' := 342) rfl rfl ?_
                            refine yy_iload C 10 dJx40b00_toDecimal_cabcc_342 (pc' := 344) rfl rfl ?_
                            refine yy_iload_n C 18 dJx40b00_toDecimal_cabcc_344 (pc' := 345) rfl rfl rfl ?_
                            refine yy_iadd C (v := (r1 + (nI 0))) dJx40b00_toDecimal_cabcc_345 (pc' := 346) rfl rfl ?_
                            refine yc_i (yr_V C (n := 2) (As := [.int ((r4 >>> ((nI 2) &&& 31)) + (nI 1)), .int (r1 + (nI 0))]) (rest := []) lk_Jx40b00_73 cd_Jx40b00_toChars_7cf53 im_Jx40b00_toChars_7cf53 se_Jx40b00_toChars_7cf53 (mJx40b00_toChars_7cf53 l G B0 fd fb a F ((r4 >>> ((nI 2) &&& 31)) + (nI 1)) (r1 + (nI 0)) (by have hok' := hok; subst hw1 hw2 hw3 hw4 hw5 hw6; unfold td3 at hok'; dsimp only at hok'; rw [if_neg c_22, if_neg c_143, if_pos c_178, if_pos c_197, if_pos c_248, if_pos c_267, if_neg c_320, if_pos c_325, if_neg c_332] at hok'; exact hok')) ⟨by decide, by decide⟩ ⟨by decide, by decide⟩ 0 rfl rfl rfl rfl (Nat.le_of_ble_eq_true rfl) dJx40b00_toDecimal_cabcc_346) (pc' := 349) rfl (fun r7 _ hw7 => ?_)
                            subst hw7
                            subst hQ
                            exact ye_i C hr (vp_nar_int _) () dJx40b00_toDecimal_cabcc_349 (by subst hw1 hw2 hw3 hw4 hw5 hw6; unfold td3; dsimp only; rw [if_neg c_22, if_neg c_143, if_pos c_178, if_pos c_197, if_pos c_248, if_pos c_267, if_neg c_320, if_pos c_325, if_neg c_332]) (by decide) (by decide) rfl
                          · skip
                            refine yy_iload C 4 dJx40b00_toDecimal_cabcc_335 (pc' := 337) rfl rfl ?_
                            refine yy_goto C (tgt := 342) dJx40b00_toDecimal_cabcc_337 (by decide) ?_
                            refine yy_iload C 10 dJx40b00_toDecimal_cabcc_342 (pc' := 344) rfl rfl ?_
                            refine yy_iload_n C 18 dJx40b00_toDecimal_cabcc_344 (pc' := 345) rfl rfl rfl ?_
                            refine yy_iadd C (v := (r1 + (nI 0))) dJx40b00_toDecimal_cabcc_345 (pc' := 346) rfl rfl ?_
                            refine yc_i (yr_V C (n := 2) (As := [.int (r4 >>> ((nI 2) &&& 31)), .int (r1 + (nI 0))]) (rest := []) lk_Jx40b00_73 cd_Jx40b00_toChars_7cf53 im_Jx40b00_toChars_7cf53 se_Jx40b00_toChars_7cf53 (mJx40b00_toChars_7cf53 l G B0 fd fb a F (r4 >>> ((nI 2) &&& 31)) (r1 + (nI 0)) (by have hok' := hok; subst hw1 hw2 hw3 hw4 hw5 hw6; unfold td3 at hok'; dsimp only at hok'; rw [if_neg c_22, if_neg c_143, if_pos c_178, if_pos c_197, if_pos c_248, if_pos c_267, if_neg c_320, if_pos c_325, if_pos c_332] at hok'; exact hok')) ⟨by decide, by decide⟩ ⟨by decide, by decide⟩ 0 rfl rfl rfl rfl (Nat.le_of_ble_eq_true rfl) dJx40b00_toDecimal_cabcc_346) (pc' := 349) rfl (fun r7 _ hw7 => ?_)
                            subst hw7
                            subst hQ
                            exact ye_i C hr (vp_nar_int _) () dJx40b00_toDecimal_cabcc_349 (by subst hw1 hw2 hw3 hw4 hw5 hw6; unfold td3; dsimp only; rw [if_neg c_22, if_neg c_143, if_pos c_178, if_pos c_197, if_pos c_248, if_pos c_267, if_neg c_320, if_pos c_325, if_pos c_332]) (by decide) (by decide) rfl
                    · skip
                      exact absurd c_281 (by decide)
                  · skip
                    refine yy_iconst C (v := (nI 1)) dJx40b00_toDecimal_cabcc_270 (pc' := 271) rfl (by decide) ?_
                    refine yy_goto C (tgt := 275) dJx40b00_toDecimal_cabcc_271 (by decide) ?_
                    refine yy_istore C (L' := [(21, .int (nI 1)), (20, .int (nI 0)), (19, .int ((r4 >>> ((nI 2) &&& 31)) + (nI 1))), (22, .int (nI 0)), (18, .int (r4 >>> ((nI 2) &&& 31))), (17, .int r6), (16, .int r5), (15, .int r4), (13, .long (r3 + 1)), (12, .int ((q + r2) + (nI 33))), (11, .int r1), (9, .long (((c_ <<< ((nI 2) &&& 31)).toInt64) - (2))), (7, .long (((c_ <<< ((nI 2) &&& 31)).toInt64) + (2))), (5, .long ((c_ <<< ((nI 2) &&& 31)).toInt64)), (4, .int (c_ &&& (nI 1))), (0, .ref (fd)), (1, .int q), (2, .int c_), (3, .int (nI 0))]) dJx40b00_toDecimal_cabcc_275 (pc' := 277) rfl (by decide) rfl ?_
                    refine yy_iload C 1 dJx40b00_toDecimal_cabcc_277 (pc' := 279) rfl rfl ?_
                    refine yy_iload C 0 dJx40b00_toDecimal_cabcc_279 (pc' := 281) rfl rfl ?_
                    refine yy_icmp_eq C dJx40b00_toDecimal_cabcc_281 (pc' := 284) rfl (tgt := 305) (by decide) (fun c_281 => ?_) (fun c_281 => ?_)
                    · skip
                      exact absurd c_281 (by decide)
                    · skip
                      refine yy_aload_n C 15 dJx40b00_toDecimal_cabcc_284 (pc' := 285) rfl rfl rfl ?_
                      refine yy_iload C 1 dJx40b00_toDecimal_cabcc_285 (pc' := 287) rfl rfl ?_
                      refine yy_if_eq C dJx40b00_toDecimal_cabcc_287 (pc' := 290) rfl (tgt := 295) (by decide) (fun c_287 => ?_) (fun c_287 => ?_)
                      · skip
                        refine yy_iload C 2 dJx40b00_toDecimal_cabcc_295 (pc' := 297) rfl rfl ?_
                        refine yy_iload C 10 dJx40b00_toDecimal_cabcc_297 (pc' := 299) rfl rfl ?_
                        refine yy_iload_n C 18 dJx40b00_toDecimal_cabcc_299 (pc' := 300) rfl rfl rfl ?_
                        refine yy_iadd C (v := (r1 + (nI 0))) dJx40b00_toDecimal_cabcc_300 (pc' := 301) rfl rfl ?_
                        refine yc_i (yr_V C (n := 2) (As := [.int ((r4 >>> ((nI 2) &&& 31)) + (nI 1)), .int (r1 + (nI 0))]) (rest := []) lk_Jx40b00_73 cd_Jx40b00_toChars_7cf53 im_Jx40b00_toChars_7cf53 se_Jx40b00_toChars_7cf53 (mJx40b00_toChars_7cf53 l G B0 fd fb a F ((r4 >>> ((nI 2) &&& 31)) + (nI 1)) (r1 + (nI 0)) (by have hok' := hok; subst hw1 hw2 hw3 hw4 hw5 hw6; unfold td3 at hok'; dsimp only at hok'; rw [if_neg c_22, if_neg c_143, if_pos c_178, if_pos c_197, if_pos c_248, if_neg c_267] at hok'; exact hok')) ⟨by decide, by decide⟩ ⟨by decide, by decide⟩ 0 rfl rfl rfl rfl (Nat.le_of_ble_eq_true rfl) dJx40b00_toDecimal_cabcc_301) (pc' := 304) rfl (fun r7 _ hw7 => ?_)
                        subst hw7
                        subst hQ
                        exact ye_i C hr (vp_nar_int _) () dJx40b00_toDecimal_cabcc_304 (by subst hw1 hw2 hw3 hw4 hw5 hw6; unfold td3; dsimp only; rw [if_neg c_22, if_neg c_143, if_pos c_178, if_pos c_197, if_pos c_248, if_neg c_267]) (by decide) (by decide) rfl
                      · skip
                        exact absurd c_287 (by decide)
                · skip
                  refine yy_iconst C (v := (nI 1)) dJx40b00_toDecimal_cabcc_251 (pc' := 252) rfl (by decide) ?_
                  refine yy_goto C (tgt := 256) dJx40b00_toDecimal_cabcc_252 (by decide) ?_
                  refine yy_istore C (L' := [(20, .int (nI 1)), (19, .int ((r4 >>> ((nI 2) &&& 31)) + (nI 1))), (22, .int (nI 0)), (21, .int (nI 0)), (18, .int (r4 >>> ((nI 2) &&& 31))), (17, .int r6), (16, .int r5), (15, .int r4), (13, .long (r3 + 1)), (12, .int ((q + r2) + (nI 33))), (11, .int r1), (9, .long (((c_ <<< ((nI 2) &&& 31)).toInt64) - (2))), (7, .long (((c_ <<< ((nI 2) &&& 31)).toInt64) + (2))), (5, .long ((c_ <<< ((nI 2) &&& 31)).toInt64)), (4, .int (c_ &&& (nI 1))), (0, .ref (fd)), (1, .int q), (2, .int c_), (3, .int (nI 0))]) dJx40b00_toDecimal_cabcc_256 (pc' := 258) rfl (by decide) rfl ?_
                  refine yy_iload C 1 dJx40b00_toDecimal_cabcc_258 (pc' := 260) rfl rfl ?_
                  refine yy_iconst C (v := (nI 2)) dJx40b00_toDecimal_cabcc_260 (pc' := 261) rfl (by decide) ?_
                  refine yy_ishl C (v := (((r4 >>> ((nI 2) &&& 31)) + (nI 1)) <<< ((nI 2) &&& 31))) dJx40b00_toDecimal_cabcc_261 (pc' := 262) rfl rfl ?_
                  refine yy_iload C 14 dJx40b00_toDecimal_cabcc_262 (pc' := 264) rfl rfl ?_
                  refine yy_iadd C (v := ((((r4 >>> ((nI 2) &&& 31)) + (nI 1)) <<< ((nI 2) &&& 31)) + (c_ &&& (nI 1)))) dJx40b00_toDecimal_cabcc_264 (pc' := 265) rfl rfl ?_
                  refine yy_iload C 5 dJx40b00_toDecimal_cabcc_265 (pc' := 267) rfl rfl ?_
                  refine yy_icmp_gt C dJx40b00_toDecimal_cabcc_267 (pc' := 270) rfl (tgt := 274) (by decide) (fun c_267 => ?_) (fun c_267 => ?_)
                  · skip
                    refine yy_iconst C (v := (nI 0)) dJx40b00_toDecimal_cabcc_274 (pc' := 275) rfl (by decide) ?_
                    refine yy_istore C (L' := [(21, .int (nI 0)), (20, .int (nI 1)), (19, .int ((r4 >>> ((nI 2) &&& 31)) + (nI 1))), (22, .int (nI 0)), (18, .int (r4 >>> ((nI 2) &&& 31))), (17, .int r6), (16, .int r5), (15, .int r4), (13, .long (r3 + 1)), (12, .int ((q + r2) + (nI 33))), (11, .int r1), (9, .long (((c_ <<< ((nI 2) &&& 31)).toInt64) - (2))), (7, .long (((c_ <<< ((nI 2) &&& 31)).toInt64) + (2))), (5, .long ((c_ <<< ((nI 2) &&& 31)).toInt64)), (4, .int (c_ &&& (nI 1))), (0, .ref (fd)), (1, .int q), (2, .int c_), (3, .int (nI 0))]) dJx40b00_toDecimal_cabcc_275 (pc' := 277) rfl (by decide) rfl ?_
                    refine yy_iload C 1 dJx40b00_toDecimal_cabcc_277 (pc' := 279) rfl rfl ?_
                    refine yy_iload C 0 dJx40b00_toDecimal_cabcc_279 (pc' := 281) rfl rfl ?_
                    refine yy_icmp_eq C dJx40b00_toDecimal_cabcc_281 (pc' := 284) rfl (tgt := 305) (by decide) (fun c_281 => ?_) (fun c_281 => ?_)
                    · skip
                      exact absurd c_281 (by decide)
                    · skip
                      refine yy_aload_n C 15 dJx40b00_toDecimal_cabcc_284 (pc' := 285) rfl rfl rfl ?_
                      refine yy_iload C 1 dJx40b00_toDecimal_cabcc_285 (pc' := 287) rfl rfl ?_
                      refine yy_if_eq C dJx40b00_toDecimal_cabcc_287 (pc' := 290) rfl (tgt := 295) (by decide) (fun c_287 => ?_) (fun c_287 => ?_)
                      · skip
                        exact absurd c_287 (by decide)
                      · skip
                        refine yy_iload C 4 dJx40b00_toDecimal_cabcc_290 (pc' := 292) rfl rfl ?_
                        refine yy_goto C (tgt := 297) dJx40b00_toDecimal_cabcc_292 (by decide) ?_
                        refine yy_iload C 10 dJx40b00_toDecimal_cabcc_297 (pc' := 299) rfl rfl ?_
                        refine yy_iload_n C 18 dJx40b00_toDecimal_cabcc_299 (pc' := 300) rfl rfl rfl ?_
                        refine yy_iadd C (v := (r1 + (nI 0))) dJx40b00_toDecimal_cabcc_300 (pc' := 301) rfl rfl ?_
                        refine yc_i (yr_V C (n := 2) (As := [.int (r4 >>> ((nI 2) &&& 31)), .int (r1 + (nI 0))]) (rest := []) lk_Jx40b00_73 cd_Jx40b00_toChars_7cf53 im_Jx40b00_toChars_7cf53 se_Jx40b00_toChars_7cf53 (mJx40b00_toChars_7cf53 l G B0 fd fb a F (r4 >>> ((nI 2) &&& 31)) (r1 + (nI 0)) (by have hok' := hok; subst hw1 hw2 hw3 hw4 hw5 hw6; unfold td3 at hok'; dsimp only at hok'; rw [if_neg c_22, if_neg c_143, if_pos c_178, if_pos c_197, if_neg c_248, if_pos c_267] at hok'; exact hok')) ⟨by decide, by decide⟩ ⟨by decide, by decide⟩ 0 rfl rfl rfl rfl (Nat.le_of_ble_eq_true rfl) dJx40b00_toDecimal_cabcc_301) (pc' := 304) rfl (fun r7 _ hw7 => ?_)
                        subst hw7
                        subst hQ
                        exact ye_i C hr (vp_nar_int _) () dJx40b00_toDecimal_cabcc_304 (by subst hw1 hw2 hw3 hw4 hw5 hw6; unfold td3; dsimp only; rw [if_neg c_22, if_neg c_143, if_pos c_178, if_pos c_197, if_neg c_248, if_pos c_267]) (by decide) (by decide) rfl
                  · skip
                    refine yy_iconst C (v := (nI 1)) dJx40b00_toDecimal_cabcc_270 (pc' := 271) rfl (by decide) ?_
                    refine yy_goto C (tgt := 275) dJx40b00_toDecimal_cabcc_271 (by decide) ?_
                    refine yy_istore C (L' := [(21, .int (nI 1)), (20, .int (nI 1)), (19, .int ((r4 >>> ((nI 2) &&& 31)) + (nI 1))), (22, .int (nI 0)), (18, .int (r4 >>> ((nI 2) &&& 31))), (17, .int r6), (16, .int r5), (15, .int r4), (13, .long (r3 + 1)), (12, .int ((q + r2) + (nI 33))), (11, .int r1), (9, .long (((c_ <<< ((nI 2) &&& 31)).toInt64) - (2))), (7, .long (((c_ <<< ((nI 2) &&& 31)).toInt64) + (2))), (5, .long ((c_ <<< ((nI 2) &&& 31)).toInt64)), (4, .int (c_ &&& (nI 1))), (0, .ref (fd)), (1, .int q), (2, .int c_), (3, .int (nI 0))]) dJx40b00_toDecimal_cabcc_275 (pc' := 277) rfl (by decide) rfl ?_
                    refine yy_iload C 1 dJx40b00_toDecimal_cabcc_277 (pc' := 279) rfl rfl ?_
                    refine yy_iload C 0 dJx40b00_toDecimal_cabcc_279 (pc' := 281) rfl rfl ?_
                    refine yy_icmp_eq C dJx40b00_toDecimal_cabcc_281 (pc' := 284) rfl (tgt := 305) (by decide) (fun c_281 => ?_) (fun c_281 => ?_)
                    · skip
                      refine yy_iload C 7 dJx40b00_toDecimal_cabcc_305 (pc' := 307) rfl rfl ?_
                      refine yy_iload C 4 dJx40b00_toDecimal_cabcc_307 (pc' := 309) rfl rfl ?_
                      refine yy_iload C 2 dJx40b00_toDecimal_cabcc_309 (pc' := 311) rfl rfl ?_
                      refine yy_iadd C (v := ((r4 >>> ((nI 2) &&& 31)) + ((r4 >>> ((nI 2) &&& 31)) + (nI 1)))) dJx40b00_toDecimal_cabcc_311 (pc' := 312) rfl rfl ?_
                      refine yy_iconst C (v := (nI 1)) dJx40b00_toDecimal_cabcc_312 (pc' := 313) rfl (by decide) ?_
                      refine yy_ishl C (v := (((r4 >>> ((nI 2) &&& 31)) + ((r4 >>> ((nI 2) &&& 31)) + (nI 1))) <<< ((nI 1) &&& 31))) dJx40b00_toDecimal_cabcc_313 (pc' := 314) rfl rfl ?_
                      refine yy_isub C (v := (r4 - (((r4 >>> ((nI 2) &&& 31)) + ((r4 >>> ((nI 2) &&& 31)) + (nI 1))) <<< ((nI 1) &&& 31)))) dJx40b00_toDecimal_cabcc_314 (pc' := 315) rfl rfl ?_
                      refine yy_istore C (L' := [(22, .int (r4 - (((r4 >>> ((nI 2) &&& 31)) + ((r4 >>> ((nI 2) &&& 31)) + (nI 1))) <<< ((nI 1) &&& 31)))), (21, .int (nI 1)), (20, .int (nI 1)), (19, .int ((r4 >>> ((nI 2) &&& 31)) + (nI 1))), (18, .int (r4 >>> ((nI 2) &&& 31))), (17, .int r6), (16, .int r5), (15, .int r4), (13, .long (r3 + 1)), (12, .int ((q + r2) + (nI 33))), (11, .int r1), (9, .long (((c_ <<< ((nI 2) &&& 31)).toInt64) - (2))), (7, .long (((c_ <<< ((nI 2) &&& 31)).toInt64) + (2))), (5, .long ((c_ <<< ((nI 2) &&& 31)).toInt64)), (4, .int (c_ &&& (nI 1))), (0, .ref (fd)), (1, .int q), (2, .int c_), (3, .int (nI 0))]) dJx40b00_toDecimal_cabcc_315 (pc' := 317) rfl (by decide) rfl ?_
                      refine yy_aload_n C 15 dJx40b00_toDecimal_cabcc_317 (pc' := 318) rfl rfl rfl ?_
                      refine yy_iload C 0 dJx40b00_toDecimal_cabcc_318 (pc' := 320) rfl rfl ?_
                      refine yy_if_lt C dJx40b00_toDecimal_cabcc_320 (pc' := 323) rfl (tgt := 335) (by decide) (fun c_320 => ?_) (fun c_320 => ?_)
                      · skip
                        refine yy_iload C 4 dJx40b00_toDecimal_cabcc_335 (pc' := 337) rfl rfl ?_
                        refine yy_goto C (tgt := 342) dJx40b00_toDecimal_cabcc_337 (by decide) ?_
                        refine yy_iload C 10 dJx40b00_toDecimal_cabcc_342 (pc' := 344) rfl rfl ?_
                        refine yy_iload_n C 18 dJx40b00_toDecimal_cabcc_344 (pc' := 345) rfl rfl rfl ?_
                        refine yy_iadd C (v := (r1 + (nI 0))) dJx40b00_toDecimal_cabcc_345 (pc' := 346) rfl rfl ?_
                        refine yc_i (yr_V C (n := 2) (As := [.int (r4 >>> ((nI 2) &&& 31)), .int (r1 + (nI 0))]) (rest := []) lk_Jx40b00_73 cd_Jx40b00_toChars_7cf53 im_Jx40b00_toChars_7cf53 se_Jx40b00_toChars_7cf53 (mJx40b00_toChars_7cf53 l G B0 fd fb a F (r4 >>> ((nI 2) &&& 31)) (r1 + (nI 0)) (by have hok' := hok; subst hw1 hw2 hw3 hw4 hw5 hw6; unfold td3 at hok'; dsimp only at hok'; rw [if_neg c_22, if_neg c_143, if_pos c_178, if_pos c_197, if_neg c_248, if_neg c_267, if_pos c_320] at hok'; exact hok')) ⟨by decide, by decide⟩ ⟨by decide, by decide⟩ 0 rfl rfl rfl rfl (Nat.le_of_ble_eq_true rfl) dJx40b00_toDecimal_cabcc_346) (pc' := 349) rfl (fun r7 _ hw7 => ?_)
                        subst hw7
                        subst hQ
                        exact ye_i C hr (vp_nar_int _) () dJx40b00_toDecimal_cabcc_349 (by subst hw1 hw2 hw3 hw4 hw5 hw6; unfold td3; dsimp only; rw [if_neg c_22, if_neg c_143, if_pos c_178, if_pos c_197, if_neg c_248, if_neg c_267, if_pos c_320]) (by decide) (by decide) rfl
                      · skip
                        refine yy_iload C 0 dJx40b00_toDecimal_cabcc_323 (pc' := 325) rfl rfl ?_
                        refine yy_if_ne C dJx40b00_toDecimal_cabcc_325 (pc' := 328) rfl (tgt := 340) (by decide) (fun c_325 => ?_) (fun c_325 => ?_)
                        · skip
                          refine yy_iload C 3 dJx40b00_toDecimal_cabcc_340 (pc' := 342) rfl rfl ?_
                          refine yy_iload C 10 dJx40b00_toDecimal_cabcc_342 (pc' := 344) rfl rfl ?_
                          refine yy_iload_n C 18 dJx40b00_toDecimal_cabcc_344 (pc' := 345) rfl rfl rfl ?_
                          refine yy_iadd C (v := (r1 + (nI 0))) dJx40b00_toDecimal_cabcc_345 (pc' := 346) rfl rfl ?_
                          refine yc_i (yr_V C (n := 2) (As := [.int ((r4 >>> ((nI 2) &&& 31)) + (nI 1)), .int (r1 + (nI 0))]) (rest := []) lk_Jx40b00_73 cd_Jx40b00_toChars_7cf53 im_Jx40b00_toChars_7cf53 se_Jx40b00_toChars_7cf53 (mJx40b00_toChars_7cf53 l G B0 fd fb a F ((r4 >>> ((nI 2) &&& 31)) + (nI 1)) (r1 + (nI 0)) (by have hok' := hok; subst hw1 hw2 hw3 hw4 hw5 hw6; unfold td3 at hok'; dsimp only at hok'; rw [if_neg c_22, if_neg c_143, if_pos c_178, if_pos c_197, if_neg c_248, if_neg c_267, if_neg c_320, if_neg c_325] at hok'; exact hok')) ⟨by decide, by decide⟩ ⟨by decide, by decide⟩ 0 rfl rfl rfl rfl (Nat.le_of_ble_eq_true rfl) dJx40b00_toDecimal_cabcc_346) (pc' := 349) rfl (fun r7 _ hw7 => ?_)
                          subst hw7
                          subst hQ
                          exact ye_i C hr (vp_nar_int _) () dJx40b00_toDecimal_cabcc_349 (by subst hw1 hw2 hw3 hw4 hw5 hw6; unfold td3; dsimp only; rw [if_neg c_22, if_neg c_143, if_pos c_178, if_pos c_197, if_neg c_248, if_neg c_267, if_neg c_320, if_neg c_325]) (by decide) (by decide) rfl
                        · skip
                          refine yy_iload C 4 dJx40b00_toDecimal_cabcc_328 (pc' := 330) rfl rfl ?_
                          refine yy_iconst C (v := (nI 1)) dJx40b00_toDecimal_cabcc_330 (pc' := 331) rfl (by decide) ?_
                          refine yy_iand C (v := ((r4 >>> ((nI 2) &&& 31)) &&& (nI 1))) dJx40b00_toDecimal_cabcc_331 (pc' := 332) rfl rfl ?_
                          refine yy_if_ne C dJx40b00_toDecimal_cabcc_332 (pc' := 335) rfl (tgt := 340) (by decide) (fun c_332 => ?_) (fun c_332 => ?_)
                          · skip
                            refine yy_iload C 3 dJx40b00_toDecimal_cabcc_340 (pc' := 342) rfl rfl ?_
                            refine yy_iload C 10 dJx40b00_toDecimal_cabcc_342 (pc' := 344) rfl rfl ?_
                            refine yy_iload_n C 18 dJx40b00_toDecimal_cabcc_344 (pc' := 345) rfl rfl rfl ?_
                            refine yy_iadd C (v := (r1 + (nI 0))) dJx40b00_toDecimal_cabcc_345 (pc' := 346) rfl rfl ?_
                            refine yc_i (yr_V C (n := 2) (As := [.int ((r4 >>> ((nI 2) &&& 31)) + (nI 1)), .int (r1 + (nI 0))]) (rest := []) lk_Jx40b00_73 cd_Jx40b00_toChars_7cf53 im_Jx40b00_toChars_7cf53 se_Jx40b00_toChars_7cf53 (mJx40b00_toChars_7cf53 l G B0 fd fb a F ((r4 >>> ((nI 2) &&& 31)) + (nI 1)) (r1 + (nI 0)) (by have hok' := hok; subst hw1 hw2 hw3 hw4 hw5 hw6; unfold td3 at hok'; dsimp only at hok'; rw [if_neg c_22, if_neg c_143, if_pos c_178, if_pos c_197, if_neg c_248, if_neg c_267, if_neg c_320, if_pos c_325, if_neg c_332] at hok'; exact hok')) ⟨by decide, by decide⟩ ⟨by decide, by decide⟩ 0 rfl rfl rfl rfl (Nat.le_of_ble_eq_true rfl) dJx40b00_toDecimal_cabcc_346) (pc' := 349) rfl (fun r7 _ hw7 => ?_)
                            subst hw7
                            subst hQ
                            exact ye_i C hr (vp_nar_int _) () dJx40b00_toDecimal_cabcc_349 (by subst hw1 hw2 hw3 hw4 hw5 hw6; unfold td3; dsimp only; rw [if_neg c_22, if_neg c_143, if_pos c_178, if_pos c_197, if_neg c_248, if_neg c_267, if_neg c_320, if_pos c_325, if_neg c_332]) (by decide) (by decide) rfl
                          · skip
                            refine yy_iload C 4 dJx40b00_toDecimal_cabcc_335 (pc' := 337) rfl rfl ?_
                            refine yy_goto C (tgt := 342) dJx40b00_toDecimal_cabcc_337 (by decide) ?_
                            refine yy_iload C 10 dJx40b00_toDecimal_cabcc_342 (pc' := 344) rfl rfl ?_
                            refine yy_iload_n C 18 dJx40b00_toDecimal_cabcc_344 (pc' := 345) rfl rfl rfl ?_
                            refine yy_iadd C (v := (r1 + (nI 0))) dJx40b00_toDecimal_cabcc_345 (pc' := 346) rfl rfl ?_
                            refine yc_i (yr_V C (n := 2) (As := [.int (r4 >>> ((nI 2) &&& 31)), .int (r1 + (nI 0))]) (rest := []) lk_Jx40b00_73 cd_Jx40b00_toChars_7cf53 im_Jx40b00_toChars_7cf53 se_Jx40b00_toChars_7cf53 (mJx40b00_toChars_7cf53 l G B0 fd fb a F (r4 >>> ((nI 2) &&& 31)) (r1 + (nI 0)) (by have hok' := hok; subst hw1 hw2 hw3 hw4 hw5 hw6; unfold td3 at hok'; dsimp only at hok'; rw [if_neg c_22, if_neg c_143, if_pos c_178, if_pos c_197, if_neg c_248, if_neg c_267, if_neg c_320, if_pos c_325, if_pos c_332] at hok'; exact hok')) ⟨by decide, by decide⟩ ⟨by decide, by decide⟩ 0 rfl rfl rfl rfl (Nat.le_of_ble_eq_true rfl) dJx40b00_toDecimal_cabcc_346) (pc' := 349) rfl (fun r7 _ hw7 => ?_)
                            subst hw7
                            subst hQ
                            exact ye_i C hr (vp_nar_int _) () dJx40b00_toDecimal_cabcc_349 (by subst hw1 hw2 hw3 hw4 hw5 hw6; unfold td3; dsimp only; rw [if_neg c_22, if_neg c_143, if_pos c_178, if_pos c_197, if_neg c_248, if_neg c_267, if_neg c_320, if_pos c_325, if_pos c_332]) (by decide) (by decide) rfl
                    · skip
                      exact absurd c_281 (by decide)
              · skip
                exact absurd c_211 (by decide)
            · skip
              refine yy_iconst C (v := (nI 1)) dJx40b00_toDecimal_cabcc_200 (pc' := 201) rfl (by decide) ?_
              refine yy_goto C (tgt := 205) dJx40b00_toDecimal_cabcc_201 (by decide) ?_
              refine yy_istore C (L' := [(22, .int (nI 1)), (21, .int (nI 0)), (20, .int (((nI 10) * ((ush (((r4 >>> ((nI 2) &&& 31)).toInt64) * (1717986919)) (nI 34)).toInt32)) + (nI 10))), (19, .int ((nI 10) * ((ush (((r4 >>> ((nI 2) &&& 31)).toInt64) * (1717986919)) (nI 34)).toInt32))), (18, .int (r4 >>> ((nI 2) &&& 31))), (17, .int r6), (16, .int r5), (15, .int r4), (13, .long (r3 + 1)), (12, .int ((q + r2) + (nI 33))), (11, .int r1), (9, .long (((c_ <<< ((nI 2) &&& 31)).toInt64) - (2))), (7, .long (((c_ <<< ((nI 2) &&& 31)).toInt64) + (2))), (5, .long ((c_ <<< ((nI 2) &&& 31)).toInt64)), (4, .int (c_ &&& (nI 1))), (0, .ref (fd)), (1, .int q), (2, .int c_), (3, .int (nI 0))]) dJx40b00_toDecimal_cabcc_205 (pc' := 207) rfl (by decide) rfl ?_
              refine yy_iload C 1 dJx40b00_toDecimal_cabcc_207 (pc' := 209) rfl rfl ?_
              refine yy_iload C 0 dJx40b00_toDecimal_cabcc_209 (pc' := 211) rfl rfl ?_
              refine yy_icmp_eq C dJx40b00_toDecimal_cabcc_211 (pc' := 214) rfl (tgt := 233) (by decide) (fun c_211 => ?_) (fun c_211 => ?_)
              · skip
                exact absurd c_211 (by decide)
              · skip
                refine yy_aload_n C 15 dJx40b00_toDecimal_cabcc_214 (pc' := 215) rfl rfl rfl ?_
                refine yy_iload C 1 dJx40b00_toDecimal_cabcc_215 (pc' := 217) rfl rfl ?_
                refine yy_if_eq C dJx40b00_toDecimal_cabcc_217 (pc' := 220) rfl (tgt := 225) (by decide) (fun c_217 => ?_) (fun c_217 => ?_)
                · skip
                  refine yy_iload C 2 dJx40b00_toDecimal_cabcc_225 (pc' := 227) rfl rfl ?_
                  refine yy_iload C 10 dJx40b00_toDecimal_cabcc_227 (pc' := 229) rfl rfl ?_
                  refine yc_i (yr_V C (n := 2) (As := [.int (((nI 10) * ((ush (((r4 >>> ((nI 2) &&& 31)).toInt64) * (1717986919)) (nI 34)).toInt32)) + (nI 10)), .int r1]) (rest := []) lk_Jx40b00_73 cd_Jx40b00_toChars_7cf53 im_Jx40b00_toChars_7cf53 se_Jx40b00_toChars_7cf53 (mJx40b00_toChars_7cf53 l G B0 fd fb a F (((nI 10) * ((ush (((r4 >>> ((nI 2) &&& 31)).toInt64) * (1717986919)) (nI 34)).toInt32)) + (nI 10)) r1 (by have hok' := hok; subst hw1 hw2 hw3 hw4 hw5 hw6; unfold td3 at hok'; dsimp only at hok'; rw [if_neg c_22, if_neg c_143, if_pos c_178, if_neg c_197] at hok'; exact hok')) ⟨by decide, by decide⟩ ⟨by decide, by decide⟩ 0 rfl rfl rfl rfl (Nat.le_of_ble_eq_true rfl) dJx40b00_toDecimal_cabcc_229) (pc' := 232) rfl (fun r7 _ hw7 => ?_)
                  subst hw7
                  subst hQ
                  exact ye_i C hr (vp_nar_int _) () dJx40b00_toDecimal_cabcc_232 (by subst hw1 hw2 hw3 hw4 hw5 hw6; unfold td3; dsimp only; rw [if_neg c_22, if_neg c_143, if_pos c_178, if_neg c_197]) (by decide) (by decide) rfl
                · skip
                  exact absurd c_217 (by decide)
          · skip
            refine yy_iconst C (v := (nI 1)) dJx40b00_toDecimal_cabcc_181 (pc' := 182) rfl (by decide) ?_
            refine yy_goto C (tgt := 186) dJx40b00_toDecimal_cabcc_182 (by decide) ?_
            refine yy_istore C (L' := [(21, .int (nI 1)), (20, .int (((nI 10) * ((ush (((r4 >>> ((nI 2) &&& 31)).toInt64) * (1717986919)) (nI 34)).toInt32)) + (nI 10))), (19, .int ((nI 10) * ((ush (((r4 >>> ((nI 2) &&& 31)).toInt64) * (1717986919)) (nI 34)).toInt32))), (18, .int (r4 >>> ((nI 2) &&& 31))), (17, .int r6), (16, .int r5), (15, .int r4), (13, .long (r3 + 1)), (12, .int ((q + r2) + (nI 33))), (11, .int r1), (9, .long (((c_ <<< ((nI 2) &&& 31)).toInt64) - (2))), (7, .long (((c_ <<< ((nI 2) &&& 31)).toInt64) + (2))), (5, .long ((c_ <<< ((nI 2) &&& 31)).toInt64)), (4, .int (c_ &&& (nI 1))), (0, .ref (fd)), (1, .int q), (2, .int c_), (3, .int (nI 0))]) dJx40b00_toDecimal_cabcc_186 (pc' := 188) rfl (by decide) rfl ?_
            refine yy_iload C 1 dJx40b00_toDecimal_cabcc_188 (pc' := 190) rfl rfl ?_
            refine yy_iconst C (v := (nI 2)) dJx40b00_toDecimal_cabcc_190 (pc' := 191) rfl (by decide) ?_
            refine yy_ishl C (v := ((((nI 10) * ((ush (((r4 >>> ((nI 2) &&& 31)).toInt64) * (1717986919)) (nI 34)).toInt32)) + (nI 10)) <<< ((nI 2) &&& 31))) dJx40b00_toDecimal_cabcc_191 (pc' := 192) rfl rfl ?_
            refine yy_iload C 13 dJx40b00_toDecimal_cabcc_192 (pc' := 194) rfl rfl ?_
            refine yy_iadd C (v := (((((nI 10) * ((ush (((r4 >>> ((nI 2) &&& 31)).toInt64) * (1717986919)) (nI 34)).toInt32)) + (nI 10)) <<< ((nI 2) &&& 31)) + (c_ &&& (nI 1)))) dJx40b00_toDecimal_cabcc_194 (pc' := 195) rfl rfl ?_
            refine yy_iload C 4 dJx40b00_toDecimal_cabcc_195 (pc' := 197) rfl rfl ?_
            refine yy_icmp_gt C dJx40b00_toDecimal_cabcc_197 (pc' := 200) rfl (tgt := 204) (by decide) (fun c_197 => ?_) (fun c_197 => ?_)
            · skip
              refine yy_iconst C (v := (nI 0)) dJx40b00_toDecimal_cabcc_204 (pc' := 205) rfl (by decide) ?_
              refine yy_istore C (L' := [(22, .int (nI 0)), (21, .int (nI 1)), (20, .int (((nI 10) * ((ush (((r4 >>> ((nI 2) &&& 31)).toInt64) * (1717986919)) (nI 34)).toInt32)) + (nI 10))), (19, .int ((nI 10) * ((ush (((r4 >>> ((nI 2) &&& 31)).toInt64) * (1717986919)) (nI 34)).toInt32))), (18, .int (r4 >>> ((nI 2) &&& 31))), (17, .int r6), (16, .int r5), (15, .int r4), (13, .long (r3 + 1)), (12, .int ((q + r2) + (nI 33))), (11, .int r1), (9, .long (((c_ <<< ((nI 2) &&& 31)).toInt64) - (2))), (7, .long (((c_ <<< ((nI 2) &&& 31)).toInt64) + (2))), (5, .long ((c_ <<< ((nI 2) &&& 31)).toInt64)), (4, .int (c_ &&& (nI 1))), (0, .ref (fd)), (1, .int q), (2, .int c_), (3, .int (nI 0))]) dJx40b00_toDecimal_cabcc_205 (pc' := 207) rfl (by decide) rfl ?_
              refine yy_iload C 1 dJx40b00_toDecimal_cabcc_207 (pc' := 209) rfl rfl ?_
              refine yy_iload C 0 dJx40b00_toDecimal_cabcc_209 (pc' := 211) rfl rfl ?_
              refine yy_icmp_eq C dJx40b00_toDecimal_cabcc_211 (pc' := 214) rfl (tgt := 233) (by decide) (fun c_211 => ?_) (fun c_211 => ?_)
              · skip
                exact absurd c_211 (by decide)
              · skip
                refine yy_aload_n C 15 dJx40b00_toDecimal_cabcc_214 (pc' := 215) rfl rfl rfl ?_
                refine yy_iload C 1 dJx40b00_toDecimal_cabcc_215 (pc' := 217) rfl rfl ?_
                refine yy_if_eq C dJx40b00_toDecimal_cabcc_217 (pc' := 220) rfl (tgt := 225) (by decide) (fun c_217 => ?_) (fun c_217 => ?_)
                · skip
                  exact absurd c_217 (by decide)
                · skip
                  refine yy_iload C 3 dJx40b00_toDecimal_cabcc_220 (pc' := 222) rfl rfl ?_
                  refine yy_goto C (tgt := 227) dJx40b00_toDecimal_cabcc_222 (by decide) ?_
                  refine yy_iload C 10 dJx40b00_toDecimal_cabcc_227 (pc' := 229) rfl rfl ?_
                  refine yc_i (yr_V C (n := 2) (As := [.int ((nI 10) * ((ush (((r4 >>> ((nI 2) &&& 31)).toInt64) * (1717986919)) (nI 34)).toInt32)), .int r1]) (rest := []) lk_Jx40b00_73 cd_Jx40b00_toChars_7cf53 im_Jx40b00_toChars_7cf53 se_Jx40b00_toChars_7cf53 (mJx40b00_toChars_7cf53 l G B0 fd fb a F ((nI 10) * ((ush (((r4 >>> ((nI 2) &&& 31)).toInt64) * (1717986919)) (nI 34)).toInt32)) r1 (by have hok' := hok; subst hw1 hw2 hw3 hw4 hw5 hw6; unfold td3 at hok'; dsimp only at hok'; rw [if_neg c_22, if_neg c_143, if_neg c_178, if_pos c_197] at hok'; exact hok')) ⟨by decide, by decide⟩ ⟨by decide, by decide⟩ 0 rfl rfl rfl rfl (Nat.le_of_ble_eq_true rfl) dJx40b00_toDecimal_cabcc_229) (pc' := 232) rfl (fun r7 _ hw7 => ?_)
                  subst hw7
                  subst hQ
                  exact ye_i C hr (vp_nar_int _) () dJx40b00_toDecimal_cabcc_232 (by subst hw1 hw2 hw3 hw4 hw5 hw6; unfold td3; dsimp only; rw [if_neg c_22, if_neg c_143, if_neg c_178, if_pos c_197]) (by decide) (by decide) rfl
            · skip
              refine yy_iconst C (v := (nI 1)) dJx40b00_toDecimal_cabcc_200 (pc' := 201) rfl (by decide) ?_
              refine yy_goto C (tgt := 205) dJx40b00_toDecimal_cabcc_201 (by decide) ?_
              refine yy_istore C (L' := [(22, .int (nI 1)), (21, .int (nI 1)), (20, .int (((nI 10) * ((ush (((r4 >>> ((nI 2) &&& 31)).toInt64) * (1717986919)) (nI 34)).toInt32)) + (nI 10))), (19, .int ((nI 10) * ((ush (((r4 >>> ((nI 2) &&& 31)).toInt64) * (1717986919)) (nI 34)).toInt32))), (18, .int (r4 >>> ((nI 2) &&& 31))), (17, .int r6), (16, .int r5), (15, .int r4), (13, .long (r3 + 1)), (12, .int ((q + r2) + (nI 33))), (11, .int r1), (9, .long (((c_ <<< ((nI 2) &&& 31)).toInt64) - (2))), (7, .long (((c_ <<< ((nI 2) &&& 31)).toInt64) + (2))), (5, .long ((c_ <<< ((nI 2) &&& 31)).toInt64)), (4, .int (c_ &&& (nI 1))), (0, .ref (fd)), (1, .int q), (2, .int c_), (3, .int (nI 0))]) dJx40b00_toDecimal_cabcc_205 (pc' := 207) rfl (by decide) rfl ?_
              refine yy_iload C 1 dJx40b00_toDecimal_cabcc_207 (pc' := 209) rfl rfl ?_
              refine yy_iload C 0 dJx40b00_toDecimal_cabcc_209 (pc' := 211) rfl rfl ?_
              refine yy_icmp_eq C dJx40b00_toDecimal_cabcc_211 (pc' := 214) rfl (tgt := 233) (by decide) (fun c_211 => ?_) (fun c_211 => ?_)
              · skip
                refine yy_iload C 4 dJx40b00_toDecimal_cabcc_233 (pc' := 235) rfl rfl ?_
                refine yy_iconst C (v := (nI 1)) dJx40b00_toDecimal_cabcc_235 (pc' := 236) rfl (by decide) ?_
                refine yy_iadd C (v := ((r4 >>> ((nI 2) &&& 31)) + (nI 1))) dJx40b00_toDecimal_cabcc_236 (pc' := 237) rfl rfl ?_
                refine yy_istore C (L' := [(19, .int ((r4 >>> ((nI 2) &&& 31)) + (nI 1))), (22, .int (nI 1)), (21, .int (nI 1)), (20, .int (((nI 10) * ((ush (((r4 >>> ((nI 2) &&& 31)).toInt64) * (1717986919)) (nI 34)).toInt32)) + (nI 10))), (18, .int (r4 >>> ((nI 2) &&& 31))), (17, .int r6), (16, .int r5), (15, .int r4), (13, .long (r3 + 1)), (12, .int ((q + r2) + (nI 33))), (11, .int r1), (9, .long (((c_ <<< ((nI 2) &&& 31)).toInt64) - (2))), (7, .long (((c_ <<< ((nI 2) &&& 31)).toInt64) + (2))), (5, .long ((c_ <<< ((nI 2) &&& 31)).toInt64)), (4, .int (c_ &&& (nI 1))), (0, .ref (fd)), (1, .int q), (2, .int c_), (3, .int (nI 0))]) dJx40b00_toDecimal_cabcc_237 (pc' := 239) rfl (by decide) rfl ?_
                refine yy_iload C 6 dJx40b00_toDecimal_cabcc_239 (pc' := 241) rfl rfl ?_
                refine yy_iload C 14 dJx40b00_toDecimal_cabcc_241 (pc' := 243) rfl rfl ?_
                refine yy_iadd C (v := (r5 + (c_ &&& (nI 1)))) dJx40b00_toDecimal_cabcc_243 (pc' := 244) rfl rfl ?_
                refine yy_iload C 4 dJx40b00_toDecimal_cabcc_244 (pc' := 246) rfl rfl ?_
                refine yy_iconst C (v := (nI 2)) dJx40b00_toDecimal_cabcc_246 (pc' := 247) rfl (by decide) ?_
                refine yy_ishl C (v := ((r4 >>> ((nI 2) &&& 31)) <<< ((nI 2) &&& 31))) dJx40b00_toDecimal_cabcc_247 (pc' := 248) rfl rfl ?_
                refine yy_icmp_gt C dJx40b00_toDecimal_cabcc_248 (pc' := 251) rfl (tgt := 255) (by decide) (fun c_248 => ?_) (fun c_248 => ?_)
                · skip
                  refine yy_iconst C (v := (nI 0)) dJx40b00_toDecimal_cabcc_255 (pc' := 256) rfl (by decide) ?_
                  refine yy_istore C (L' := [(20, .int (nI 0)), (19, .int ((r4 >>> ((nI 2) &&& 31)) + (nI 1))), (22, .int (nI 1)), (21, .int (nI 1)), (18, .int (r4 >>> ((nI 2) &&& 31))), (17, .int r6), (16, .int r5), (15, .int r4), (13, .long (r3 + 1)), (12, .int ((q + r2) + (nI 33))), (11, .int r1), (9, .long (((c_ <<< ((nI 2) &&& 31)).toInt64) - (2))), (7, .long (((c_ <<< ((nI 2) &&& 31)).toInt64) + (2))), (5, .long ((c_ <<< ((nI 2) &&& 31)).toInt64)), (4, .int (c_ &&& (nI 1))), (0, .ref (fd)), (1, .int q), (2, .int c_), (3, .int (nI 0))]) dJx40b00_toDecimal_cabcc_256 (pc' := 258) rfl (by decide) rfl ?_
                  refine yy_iload C 1 dJx40b00_toDecimal_cabcc_258 (pc' := 260) rfl rfl ?_
                  refine yy_iconst C (v := (nI 2)) dJx40b00_toDecimal_cabcc_260 (pc' := 261) rfl (by decide) ?_
                  refine yy_ishl C (v := (((r4 >>> ((nI 2) &&& 31)) + (nI 1)) <<< ((nI 2) &&& 31))) dJx40b00_toDecimal_cabcc_261 (pc' := 262) rfl rfl ?_
                  refine yy_iload C 14 dJx40b00_toDecimal_cabcc_262 (pc' := 264) rfl rfl ?_
                  refine yy_iadd C (v := ((((r4 >>> ((nI 2) &&& 31)) + (nI 1)) <<< ((nI 2) &&& 31)) + (c_ &&& (nI 1)))) dJx40b00_toDecimal_cabcc_264 (pc' := 265) rfl rfl ?_
                  refine yy_iload C 5 dJx40b00_toDecimal_cabcc_265 (pc' := 267) rfl rfl ?_
                  refine yy_icmp_gt C dJx40b00_toDecimal_cabcc_267 (pc' := 270) rfl (tgt := 274) (by decide) (fun c_267 => ?_) (fun c_267 => ?_)
                  · skip
                    refine yy_iconst C (v := (nI 0)) dJx40b00_toDecimal_cabcc_274 (pc' := 275) rfl (by decide) ?_
                    refine yy_istore C (L' := [(21, .int (nI 0)), (20, .int (nI 0)), (19, .int ((r4 >>> ((nI 2) &&& 31)) + (nI 1))), (22, .int (nI 1)), (18, .int (r4 >>> ((nI 2) &&& 31))), (17, .int r6), (16, .int r5), (15, .int r4), (13, .long (r3 + 1)), (12, .int ((q + r2) + (nI 33))), (11, .int r1), (9, .long (((c_ <<< ((nI 2) &&& 31)).toInt64) - (2))), (7, .long (((c_ <<< ((nI 2) &&& 31)).toInt64) + (2))), (5, .long ((c_ <<< ((nI 2) &&& 31)).toInt64)), (4, .int (c_ &&& (nI 1))), (0, .ref (fd)), (1, .int q), (2, .int c_), (3, .int (nI 0))]) dJx40b00_toDecimal_cabcc_275 (pc' := 277) rfl (by decide) rfl ?_
                    refine yy_iload C 1 dJx40b00_toDecimal_cabcc_277 (pc' := 279) rfl rfl ?_
                    refine yy_iload C 0 dJx40b00_toDecimal_cabcc_279 (pc' := 281) rfl rfl ?_
                    refine yy_icmp_eq C dJx40b00_toDecimal_cabcc_281 (pc' := 284) rfl (tgt := 305) (by decide) (fun c_281 => ?_) (fun c_281 => ?_)
                    · skip
                      refine yy_iload C 7 dJx40b00_toDecimal_cabcc_305 (pc' := 307) rfl rfl ?_
                      refine yy_iload C 4 dJx40b00_toDecimal_cabcc_307 (pc' := 309) rfl rfl ?_
                      refine yy_iload C 2 dJx40b00_toDecimal_cabcc_309 (pc' := 311) rfl rfl ?_
                      refine yy_iadd C (v := ((r4 >>> ((nI 2) &&& 31)) + ((r4 >>> ((nI 2) &&& 31)) + (nI 1)))) dJx40b00_toDecimal_cabcc_311 (pc' := 312) rfl rfl ?_
                      refine yy_iconst C (v := (nI 1)) dJx40b00_toDecimal_cabcc_312 (pc' := 313) rfl (by decide) ?_
                      refine yy_ishl C (v := (((r4 >>> ((nI 2) &&& 31)) + ((r4 >>> ((nI 2) &&& 31)) + (nI 1))) <<< ((nI 1) &&& 31))) dJx40b00_toDecimal_cabcc_313 (pc' := 314) rfl rfl ?_
                      refine yy_isub C (v := (r4 - (((r4 >>> ((nI 2) &&& 31)) + ((r4 >>> ((nI 2) &&& 31)) + (nI 1))) <<< ((nI 1) &&& 31)))) dJx40b00_toDecimal_cabcc_314 (pc' := 315) rfl rfl ?_
                      refine yy_istore C (L' := [(22, .int (r4 - (((r4 >>> ((nI 2) &&& 31)) + ((r4 >>> ((nI 2) &&& 31)) + (nI 1))) <<< ((nI 1) &&& 31)))), (21, .int (nI 0)), (20, .int (nI 0)), (19, .int ((r4 >>> ((nI 2) &&& 31)) + (nI 1))), (18, .int (r4 >>> ((nI 2) &&& 31))), (17, .int r6), (16, .int r5), (15, .int r4), (13, .long (r3 + 1)), (12, .int ((q + r2) + (nI 33))), (11, .int r1), (9, .long (((c_ <<< ((nI 2) &&& 31)).toInt64) - (2))), (7, .long (((c_ <<< ((nI 2) &&& 31)).toInt64) + (2))), (5, .long ((c_ <<< ((nI 2) &&& 31)).toInt64)), (4, .int (c_ &&& (nI 1))), (0, .ref (fd)), (1, .int q), (2, .int c_), (3, .int (nI 0))]) dJx40b00_toDecimal_cabcc_315 (pc' := 317) rfl (by decide) rfl ?_
                      refine yy_aload_n C 15 dJx40b00_toDecimal_cabcc_317 (pc' := 318) rfl rfl rfl ?_
                      refine yy_iload C 0 dJx40b00_toDecimal_cabcc_318 (pc' := 320) rfl rfl ?_
                      refine yy_if_lt C dJx40b00_toDecimal_cabcc_320 (pc' := 323) rfl (tgt := 335) (by decide) (fun c_320 => ?_) (fun c_320 => ?_)
                      · skip
                        refine yy_iload C 4 dJx40b00_toDecimal_cabcc_335 (pc' := 337) rfl rfl ?_
                        refine yy_goto C (tgt := 342) dJx40b00_toDecimal_cabcc_337 (by decide) ?_
                        refine yy_iload C 10 dJx40b00_toDecimal_cabcc_342 (pc' := 344) rfl rfl ?_
                        refine yy_iload_n C 18 dJx40b00_toDecimal_cabcc_344 (pc' := 345) rfl rfl rfl ?_
                        refine yy_iadd C (v := (r1 + (nI 0))) dJx40b00_toDecimal_cabcc_345 (pc' := 346) rfl rfl ?_
                        refine yc_i (yr_V C (n := 2) (As := [.int (r4 >>> ((nI 2) &&& 31)), .int (r1 + (nI 0))]) (rest := []) lk_Jx40b00_73 cd_Jx40b00_toChars_7cf53 im_Jx40b00_toChars_7cf53 se_Jx40b00_toChars_7cf53 (mJx40b00_toChars_7cf53 l G B0 fd fb a F (r4 >>> ((nI 2) &&& 31)) (r1 + (nI 0)) (by have hok' := hok; subst hw1 hw2 hw3 hw4 hw5 hw6; unfold td3 at hok'; dsimp only at hok'; rw [if_neg c_22, if_neg c_143, if_neg c_178, if_neg c_197, if_pos c_248, if_pos c_267, if_pos c_320] at hok'; exact hok')) ⟨by decide, by decide⟩ ⟨by decide, by decide⟩ 0 rfl rfl rfl rfl (Nat.le_of_ble_eq_true rfl) dJx40b00_toDecimal_cabcc_346) (pc' := 349) rfl (fun r7 _ hw7 => ?_)
                        subst hw7
                        subst hQ
                        exact ye_i C hr (vp_nar_int _) () dJx40b00_toDecimal_cabcc_349 (by subst hw1 hw2 hw3 hw4 hw5 hw6; unfold td3; dsimp only; rw [if_neg c_22, if_neg c_143, if_neg c_178, if_neg c_197, if_pos c_248, if_pos c_267, if_pos c_320]) (by decide) (by decide) rfl
                      · skip
                        refine yy_iload C 0 dJx40b00_toDecimal_cabcc_323 (pc' := 325) rfl rfl ?_
                        refine yy_if_ne C dJx40b00_toDecimal_cabcc_325 (pc' := 328) rfl (tgt := 340) (by decide) (fun c_325 => ?_) (fun c_325 => ?_)
                        · skip
                          refine yy_iload C 3 dJx40b00_toDecimal_cabcc_340 (pc' := 342) rfl rfl ?_
                          refine yy_iload C 10 dJx40b00_toDecimal_cabcc_342 (pc' := 344) rfl rfl ?_
                          refine yy_iload_n C 18 dJx40b00_toDecimal_cabcc_344 (pc' := 345) rfl rfl rfl ?_
                          refine yy_iadd C (v := (r1 + (nI 0))) dJx40b00_toDecimal_cabcc_345 (pc' := 346) rfl rfl ?_
                          refine yc_i (yr_V C (n := 2) (As := [.int ((r4 >>> ((nI 2) &&& 31)) + (nI 1)), .int (r1 + (nI 0))]) (rest := []) lk_Jx40b00_73 cd_Jx40b00_toChars_7cf53 im_Jx40b00_toChars_7cf53 se_Jx40b00_toChars_7cf53 (mJx40b00_toChars_7cf53 l G B0 fd fb a F ((r4 >>> ((nI 2) &&& 31)) + (nI 1)) (r1 + (nI 0)) (by have hok' := hok; subst hw1 hw2 hw3 hw4 hw5 hw6; unfold td3 at hok'; dsimp only at hok'; rw [if_neg c_22, if_neg c_143, if_neg c_178, if_neg c_197, if_pos c_248, if_pos c_267, if_neg c_320, if_neg c_325] at hok'; exact hok')) ⟨by decide, by decide⟩ ⟨by decide, by decide⟩ 0 rfl rfl rfl rfl (Nat.le_of_ble_eq_true rfl) dJx40b00_toDecimal_cabcc_346) (pc' := 349) rfl (fun r7 _ hw7 => ?_)
                          subst hw7
                          subst hQ
                          exact ye_i C hr (vp_nar_int _) () dJx40b00_toDecimal_cabcc_349 (by subst hw1 hw2 hw3 hw4 hw5 hw6; unfold td3; dsimp only; rw [if_neg c_22, if_neg c_143, if_neg c_178, if_neg c_197, if_pos c_248, if_pos c_267, if_neg c_320, if_neg c_325]) (by decide) (by decide) rfl
                        · skip
                          refine yy_iload C 4 dJx40b00_toDecimal_cabcc_328 (pc' := 330) rfl rfl ?_
                          refine yy_iconst C (v := (nI 1)) dJx40b00_toDecimal_cabcc_330 (pc' := 331) rfl (by decide) ?_
                          refine yy_iand C (v := ((r4 >>> ((nI 2) &&& 31)) &&& (nI 1))) dJx40b00_toDecimal_cabcc_331 (pc' := 332) rfl rfl ?_
                          refine yy_if_ne C dJx40b00_toDecimal_cabcc_332 (pc' := 335) rfl (tgt := 340) (by decide) (fun c_332 => ?_) (fun c_332 => ?_)
                          · skip
                            refine yy_iload C 3 dJx40b00_toDecimal_cabcc_340 (pc' := 342) rfl rfl ?_
                            refine yy_iload C 10 dJx40b00_toDecimal_cabcc_342 (pc' := 344) rfl rfl ?_
                            refine yy_iload_n C 18 dJx40b00_toDecimal_cabcc_344 (pc' := 345) rfl rfl rfl ?_
                            refine yy_iadd C (v := (r1 + (nI 0))) dJx40b00_toDecimal_cabcc_345 (pc' := 346) rfl rfl ?_
                            refine yc_i (yr_V C (n := 2) (As := [.int ((r4 >>> ((nI 2) &&& 31)) + (nI 1)), .int (r1 + (nI 0))]) (rest := []) lk_Jx40b00_73 cd_Jx40b00_toChars_7cf53 im_Jx40b00_toChars_7cf53 se_Jx40b00_toChars_7cf53 (mJx40b00_toChars_7cf53 l G B0 fd fb a F ((r4 >>> ((nI 2) &&& 31)) + (nI 1)) (r1 + (nI 0)) (by have hok' := hok; subst hw1 hw2 hw3 hw4 hw5 hw6; unfold td3 at hok'; dsimp only at hok'; rw [if_neg c_22, if_neg c_143, if_neg c_178, if_neg c_197, if_pos c_248, if_pos c_267, if_neg c_320, if_pos c_325, if_neg c_332] at hok'; exact hok')) ⟨by decide, by decide⟩ ⟨by decide, by decide⟩ 0 rfl rfl rfl rfl (Nat.le_of_ble_eq_true rfl) dJx40b00_toDecimal_cabcc_346) (pc' := 349) rfl (fun r7 _ hw7 => ?_)
                            subst hw7
                            subst hQ
                            exact ye_i C hr (vp_nar_int _) () dJx40b00_toDecimal_cabcc_349 (by subst hw1 hw2 hw3 hw4 hw5 hw6; unfold td3; dsimp only; rw [if_neg c_22, if_neg c_143, if_neg c_178, if_neg c_197, if_pos c_248, if_pos c_267, if_neg c_320, if_pos c_325, if_neg c_332]) (by decide) (by decide) rfl
                          · skip
                            refine yy_iload C 4 dJx40b00_toDecimal_cabcc_335 (pc' := 337) rfl rfl ?_
                            refine yy_goto C (tgt := 342) dJx40b00_toDecimal_cabcc_337 (by decide) ?_
                            refine yy_iload C 10 dJx40b00_toDecimal_cabcc_342 (pc' := 344) rfl rfl ?_
                            refine yy_iload_n C 18 dJx40b00_toDecimal_cabcc_344 (pc' := 345) rfl rfl rfl ?_
                            refine yy_iadd C (v := (r1 + (nI 0))) dJx40b00_toDecimal_cabcc_345 (pc' := 346) rfl rfl ?_
                            refine yc_i (yr_V C (n := 2) (As := [.int (r4 >>> ((nI 2) &&& 31)), .int (r1 + (nI 0))]) (rest := []) lk_Jx40b00_73 cd_Jx40b00_toChars_7cf53 im_Jx40b00_toChars_7cf53 se_Jx40b00_toChars_7cf53 (mJx40b00_toChars_7cf53 l G B0 fd fb a F (r4 >>> ((nI 2) &&& 31)) (r1 + (nI 0)) (by have hok' := hok; subst hw1 hw2 hw3 hw4 hw5 hw6; unfold td3 at hok'; dsimp only at hok'; rw [if_neg c_22, if_neg c_143, if_neg c_178, if_neg c_197, if_pos c_248, if_pos c_267, if_neg c_320, if_pos c_325, if_pos c_332] at hok'; exact hok')) ⟨by decide, by decide⟩ ⟨by decide, by decide⟩ 0 rfl rfl rfl rfl (Nat.le_of_ble_eq_true rfl) dJx40b00_toDecimal_cabcc_346) (pc' := 349) rfl (fun r7 _ hw7 => ?_)
                            subst hw7
                            subst hQ
                            exact ye_i C hr (vp_nar_int _) () dJx40b00_toDecimal_cabcc_349 (by subst hw1 hw2 hw3 hw4 hw5 hw6; unfold td3; dsimp only; rw [if_neg c_22, if_neg c_143, if_neg c_178, if_neg c_197, if_pos c_248, if_pos c_267, if_neg c_320, if_pos c_325, if_pos c_332]) (by decide) (by decide) rfl
                    · skip
                      exact absurd c_281 (by decide)
                  · skip
                    refine yy_iconst C (v := (nI 1)) dJx40b00_toDecimal_cabcc_270 (pc' := 271) rfl (by decide) ?_
                    refine yy_goto C (tgt := 275) dJx40b00_toDecimal_cabcc_271 (by decide) ?_
                    refine yy_istore C (L' := [(21, .int (nI 1)), (20, .int (nI 0)), (19, .int ((r4 >>> ((nI 2) &&& 31)) + (nI 1))), (22, .int (nI 1)), (18, .int (r4 >>> ((nI 2) &&& 31))), (17, .int r6), (16, .int r5), (15, .int r4), (13, .long (r3 + 1)), (12, .int ((q + r2) + (nI 33))), (11, .int r1), (9, .long (((c_ <<< ((nI 2) &&& 31)).toInt64) - (2))), (7, .long (((c_ <<< ((nI 2) &&& 31)).toInt64) + (2))), (5, .long ((c_ <<< ((nI 2) &&& 31)).toInt64)), (4, .int (c_ &&& (nI 1))), (0, .ref (fd)), (1, .int q), (2, .int c_), (3, .int (nI 0))]) dJx40b00_toDecimal_cabcc_275 (pc' := 277) rfl (by decide) rfl ?_
                    refine yy_iload C 1 dJx40b00_toDecimal_cabcc_277 (pc' := 279) rfl rfl ?_
                    refine yy_iload C 0 dJx40b00_toDecimal_cabcc_279 (pc' := 281) rfl rfl ?_
                    refine yy_icmp_eq C dJx40b00_toDecimal_cabcc_281 (pc' := 284) rfl (tgt := 305) (by decide) (fun c_281 => ?_) (fun c_281 => ?_)
                    · skip
                      exact absurd c_281 (by decide)
                    · skip
                      refine yy_aload_n C 15 dJx40b00_toDecimal_cabcc_284 (pc' := 285) rfl rfl rfl ?_
                      refine yy_iload C 1 dJx40b00_toDecimal_cabcc_285 (pc' := 287) rfl rfl ?_
                      refine yy_if_eq C dJx40b00_toDecimal_cabcc_287 (pc' := 290) rfl (tgt := 295) (by decide) (fun c_287 => ?_) (fun c_287 => ?_)
                      · skip
                        refine yy_iload C 2 dJx40b00_toDecimal_cabcc_295 (pc' := 297) rfl rfl ?_
                        refine yy_iload C 10 dJx40b00_toDecimal_cabcc_297 (pc' := 299) rfl rfl ?_
                        refine yy_iload_n C 18 dJx40b00_toDecimal_cabcc_299 (pc' := 300) rfl rfl rfl ?_
                        refine yy_iadd C (v := (r1 + (nI 0))) dJx40b00_toDecimal_cabcc_300 (pc' := 301) rfl rfl ?_
                        refine yc_i (yr_V C (n := 2) (As := [.int ((r4 >>> ((nI 2) &&& 31)) + (nI 1)), .int (r1 + (nI 0))]) (rest := []) lk_Jx40b00_73 cd_Jx40b00_toChars_7cf53 im_Jx40b00_toChars_7cf53 se_Jx40b00_toChars_7cf53 (mJx40b00_toChars_7cf53 l G B0 fd fb a F ((r4 >>> ((nI 2) &&& 31)) + (nI 1)) (r1 + (nI 0)) (by have hok' := hok; subst hw1 hw2 hw3 hw4 hw5 hw6; unfold td3 at hok'; dsimp only at hok'; rw [if_neg c_22, if_neg c_143, if_neg c_178, if_neg c_197, if_pos c_248, if_neg c_267] at hok'; exact hok')) ⟨by decide, by decide⟩ ⟨by decide, by decide⟩ 0 rfl rfl rfl rfl (Nat.le_of_ble_eq_true rfl) dJx40b00_toDecimal_cabcc_301) (pc' := 304) rfl (fun r7 _ hw7 => ?_)
                        subst hw7
                        subst hQ
                        exact ye_i C hr (vp_nar_int _) () dJx40b00_toDecimal_cabcc_304 (by subst hw1 hw2 hw3 hw4 hw5 hw6; unfold td3; dsimp only; rw [if_neg c_22, if_neg c_143, if_neg c_178, if_neg c_197, if_pos c_248, if_neg c_267]) (by decide) (by decide) rfl
                      · skip
                        exact absurd c_287 (by decide)
                · skip
                  refine yy_iconst C (v := (nI 1)) dJx40b00_toDecimal_cabcc_251 (pc' := 252) rfl (by decide) ?_
                  refine yy_goto C (tgt := 256) dJx40b00_toDecimal_cabcc_252 (by decide) ?_
                  refine yy_istore C (L' := [(20, .int (nI 1)), (19, .int ((r4 >>> ((nI 2) &&& 31)) + (nI 1))), (22, .int (nI 1)), (21, .int (nI 1)), (18, .int (r4 >>> ((nI 2) &&& 31))), (17, .int r6), (16, .int r5), (15, .int r4), (13, .long (r3 + 1)), (12, .int ((q + r2) + (nI 33))), (11, .int r1), (9, .long (((c_ <<< ((nI 2) &&& 31)).toInt64) - (2))), (7, .long (((c_ <<< ((nI 2) &&& 31)).toInt64) + (2))), (5, .long ((c_ <<< ((nI 2) &&& 31)).toInt64)), (4, .int (c_ &&& (nI 1))), (0, .ref (fd)), (1, .int q), (2, .int c_), (3, .int (nI 0))]) dJx40b00_toDecimal_cabcc_256 (pc' := 258) rfl (by decide) rfl ?_
                  refine yy_iload C 1 dJx40b00_toDecimal_cabcc_258 (pc' := 260) rfl rfl ?_
                  refine yy_iconst C (v := (nI 2)) dJx40b00_toDecimal_cabcc_260 (pc' := 261) rfl (by decide) ?_
                  refine yy_ishl C (v := (((r4 >>> ((nI 2) &&& 31)) + (nI 1)) <<< ((nI 2) &&& 31))) dJx40b00_toDecimal_cabcc_261 (pc' := 262) rfl rfl ?_
                  refine yy_iload C 14 dJx40b00_toDecimal_cabcc_262 (pc' := 264) rfl rfl ?_
                  refine yy_iadd C (v := ((((r4 >>> ((nI 2) &&& 31)) + (nI 1)) <<< ((nI 2) &&& 31)) + (c_ &&& (nI 1)))) dJx40b00_toDecimal_cabcc_264 (pc' := 265) rfl rfl ?_
                  refine yy_iload C 5 dJx40b00_toDecimal_cabcc_265 (pc' := 267) rfl rfl ?_
                  refine yy_icmp_gt C dJx40b00_toDecimal_cabcc_267 (pc' := 270) rfl (tgt := 274) (by decide) (fun c_267 => ?_) (fun c_267 => ?_)
                  · skip
                    refine yy_iconst C (v := (nI 0)) dJx40b00_toDecimal_cabcc_274 (pc' := 275) rfl (by decide) ?_
                    refine yy_istore C (L' := [(21, .int (nI 0)), (20, .int (nI 1)), (19, .int ((r4 >>> ((nI 2) &&& 31)) + (nI 1))), (22, .int (nI 1)), (18, .int (r4 >>> ((nI 2) &&& 31))), (17, .int r6), (16, .int r5), (15, .int r4), (13, .long (r3 + 1)), (12, .int ((q + r2) + (nI 33))), (11, .int r1), (9, .long (((c_ <<< ((nI 2) &&& 31)).toInt64) - (2))), (7, .long (((c_ <<< ((nI 2) &&& 31)).toInt64) + (2))), (5, .long ((c_ <<< ((nI 2) &&& 31)).toInt64)), (4, .int (c_ &&& (nI 1))), (0, .ref (fd)), (1, .int q), (2, .int c_), (3, .int (nI 0))]) dJx40b00_toDecimal_cabcc_275 (pc' := 277) rfl (by decide) rfl ?_
                    refine yy_iload C 1 dJx40b00_toDecimal_cabcc_277 (pc' := 279) rfl rfl ?_
                    refine yy_iload C 0 dJx40b00_toDecimal_cabcc_279 (pc' := 281) rfl rfl ?_
                    refine yy_icmp_eq C dJx40b00_toDecimal_cabcc_281 (pc' := 284) rfl (tgt := 305) (by decide) (fun c_281 => ?_) (fun c_281 => ?_)
                    · skip
                      exact absurd c_281 (by decide)
                    · skip
                      refine yy_aload_n C 15 dJx40b00_toDecimal_cabcc_284 (pc' := 285) rfl rfl rfl ?_
                      refine yy_iload C 1 dJx40b00_toDecimal_cabcc_285 (pc' := 287) rfl rfl ?_
                      refine yy_if_eq C dJx40b00_toDecimal_cabcc_287 (pc' := 290) rfl (tgt := 295) (by decide) (fun c_287 => ?_) (fun c_287 => ?_)
                      · skip
                        exact absurd c_287 (by decide)
                      · skip
                        refine yy_iload C 4 dJx40b00_toDecimal_cabcc_290 (pc' := 292) rfl rfl ?_
                        refine yy_goto C (tgt := 297) dJx40b00_toDecimal_cabcc_292 (by decide) ?_
                        refine yy_iload C 10 dJx40b00_toDecimal_cabcc_297 (pc' := 299) rfl rfl ?_
                        refine yy_iload_n C 18 dJx40b00_toDecimal_cabcc_299 (pc' := 300) rfl rfl rfl ?_
                        refine yy_iadd C (v := (r1 + (nI 0))) dJx40b00_toDecimal_cabcc_300 (pc' := 301) rfl rfl ?_
                        refine yc_i (yr_V C (n := 2) (As := [.int (r4 >>> ((nI 2) &&& 31)), .int (r1 + (nI 0))]) (rest := []) lk_Jx40b00_73 cd_Jx40b00_toChars_7cf53 im_Jx40b00_toChars_7cf53 se_Jx40b00_toChars_7cf53 (mJx40b00_toChars_7cf53 l G B0 fd fb a F (r4 >>> ((nI 2) &&& 31)) (r1 + (nI 0)) (by have hok' := hok; subst hw1 hw2 hw3 hw4 hw5 hw6; unfold td3 at hok'; dsimp only at hok'; rw [if_neg c_22, if_neg c_143, if_neg c_178, if_neg c_197, if_neg c_248, if_pos c_267] at hok'; exact hok')) ⟨by decide, by decide⟩ ⟨by decide, by decide⟩ 0 rfl rfl rfl rfl (Nat.le_of_ble_eq_true rfl) dJx40b00_toDecimal_cabcc_301) (pc' := 304) rfl (fun r7 _ hw7 => ?_)
                        subst hw7
                        subst hQ
                        exact ye_i C hr (vp_nar_int _) () dJx40b00_toDecimal_cabcc_304 (by subst hw1 hw2 hw3 hw4 hw5 hw6; unfold td3; dsimp only; rw [if_neg c_22, if_neg c_143, if_neg c_178, if_neg c_197, if_neg c_248, if_pos c_267]) (by decide) (by decide) rfl
                  · skip
                    refine yy_iconst C (v := (nI 1)) dJx40b00_toDecimal_cabcc_270 (pc' := 271) rfl (by decide) ?_
                    refine yy_goto C (tgt := 275) dJx40b00_toDecimal_cabcc_271 (by decide) ?_
                    refine yy_istore C (L' := [(21, .int (nI 1)), (20, .int (nI 1)), (19, .int ((r4 >>> ((nI 2) &&& 31)) + (nI 1))), (22, .int (nI 1)), (18, .int (r4 >>> ((nI 2) &&& 31))), (17, .int r6), (16, .int r5), (15, .int r4), (13, .long (r3 + 1)), (12, .int ((q + r2) + (nI 33))), (11, .int r1), (9, .long (((c_ <<< ((nI 2) &&& 31)).toInt64) - (2))), (7, .long (((c_ <<< ((nI 2) &&& 31)).toInt64) + (2))), (5, .long ((c_ <<< ((nI 2) &&& 31)).toInt64)), (4, .int (c_ &&& (nI 1))), (0, .ref (fd)), (1, .int q), (2, .int c_), (3, .int (nI 0))]) dJx40b00_toDecimal_cabcc_275 (pc' := 277) rfl (by decide) rfl ?_
                    refine yy_iload C 1 dJx40b00_toDecimal_cabcc_277 (pc' := 279) rfl rfl ?_
                    refine yy_iload C 0 dJx40b00_toDecimal_cabcc_279 (pc' := 281) rfl rfl ?_
                    refine yy_icmp_eq C dJx40b00_toDecimal_cabcc_281 (pc' := 284) rfl (tgt := 305) (by decide) (fun c_281 => ?_) (fun c_281 => ?_)
                    · skip
                      refine yy_iload C 7 dJx40b00_toDecimal_cabcc_305 (pc' := 307) rfl rfl ?_
                      refine yy_iload C 4 dJx40b00_toDecimal_cabcc_307 (pc' := 309) rfl rfl ?_
                      refine yy_iload C 2 dJx40b00_toDecimal_cabcc_309 (pc' := 311) rfl rfl ?_
                      refine yy_iadd C (v := ((r4 >>> ((nI 2) &&& 31)) + ((r4 >>> ((nI 2) &&& 31)) + (nI 1)))) dJx40b00_toDecimal_cabcc_311 (pc' := 312) rfl rfl ?_
                      refine yy_iconst C (v := (nI 1)) dJx40b00_toDecimal_cabcc_312 (pc' := 313) rfl (by decide) ?_
                      refine yy_ishl C (v := (((r4 >>> ((nI 2) &&& 31)) + ((r4 >>> ((nI 2) &&& 31)) + (nI 1))) <<< ((nI 1) &&& 31))) dJx40b00_toDecimal_cabcc_313 (pc' := 314) rfl rfl ?_
                      refine yy_isub C (v := (r4 - (((r4 >>> ((nI 2) &&& 31)) + ((r4 >>> ((nI 2) &&& 31)) + (nI 1))) <<< ((nI 1) &&& 31)))) dJx40b00_toDecimal_cabcc_314 (pc' := 315) rfl rfl ?_
                      refine yy_istore C (L' := [(22, .int (r4 - (((r4 >>> ((nI 2) &&& 31)) + ((r4 >>> ((nI 2) &&& 31)) + (nI 1))) <<< ((nI 1) &&& 31)))), (21, .int (nI 1)), (20, .int (nI 1)), (19, .int ((r4 >>> ((nI 2) &&& 31)) + (nI 1))), (18, .int (r4 >>> ((nI 2) &&& 31))), (17, .int r6), (16, .int r5), (15, .int r4), (13, .long (r3 + 1)), (12, .int ((q + r2) + (nI 33))), (11, .int r1), (9, .long (((c_ <<< ((nI 2) &&& 31)).toInt64) - (2))), (7, .long (((c_ <<< ((nI 2) &&& 31)).toInt64) + (2))), (5, .long ((c_ <<< ((nI 2) &&& 31)).toInt64)), (4, .int (c_ &&& (nI 1))), (0, .ref (fd)), (1, .int q), (2, .int c_), (3, .int (nI 0))]) dJx40b00_toDecimal_cabcc_315 (pc' := 317) rfl (by decide) rfl ?_
                      refine yy_aload_n C 15 dJx40b00_toDecimal_cabcc_317 (pc' := 318) rfl rfl rfl ?_
                      refine yy_iload C 0 dJx40b00_toDecimal_cabcc_318 (pc' := 320) rfl rfl ?_
                      refine yy_if_lt C dJx40b00_toDecimal_cabcc_320 (pc' := 323) rfl (tgt := 335) (by decide) (fun c_320 => ?_) (fun c_320 => ?_)
                      · skip
                        refine yy_iload C 4 dJx40b00_toDecimal_cabcc_335 (pc' := 337) rfl rfl ?_
                        refine yy_goto C (tgt := 342) dJx40b00_toDecimal_cabcc_337 (by decide) ?_
                        refine yy_iload C 10 dJx40b00_toDecimal_cabcc_342 (pc' := 344) rfl rfl ?_
                        refine yy_iload_n C 18 dJx40b00_toDecimal_cabcc_344 (pc' := 345) rfl rfl rfl ?_
                        refine yy_iadd C (v := (r1 + (nI 0))) dJx40b00_toDecimal_cabcc_345 (pc' := 346) rfl rfl ?_
                        refine yc_i (yr_V C (n := 2) (As := [.int (r4 >>> ((nI 2) &&& 31)), .int (r1 + (nI 0))]) (rest := []) lk_Jx40b00_73 cd_Jx40b00_toChars_7cf53 im_Jx40b00_toChars_7cf53 se_Jx40b00_toChars_7cf53 (mJx40b00_toChars_7cf53 l G B0 fd fb a F (r4 >>> ((nI 2) &&& 31)) (r1 + (nI 0)) (by have hok' := hok; subst hw1 hw2 hw3 hw4 hw5 hw6; unfold td3 at hok'; dsimp only at hok'; rw [if_neg c_22, if_neg c_143, if_neg c_178, if_neg c_197, if_neg c_248, if_neg c_267, if_pos c_320] at hok'; exact hok')) ⟨by decide, by decide⟩ ⟨by decide, by decide⟩ 0 rfl rfl rfl rfl (Nat.le_of_ble_eq_true rfl) dJx40b00_toDecimal_cabcc_346) (pc' := 349) rfl (fun r7 _ hw7 => ?_)
                        subst hw7
                        subst hQ
                        exact ye_i C hr (vp_nar_int _) () dJx40b00_toDecimal_cabcc_349 (by subst hw1 hw2 hw3 hw4 hw5 hw6; unfold td3; dsimp only; rw [if_neg c_22, if_neg c_143, if_neg c_178, if_neg c_197, if_neg c_248, if_neg c_267, if_pos c_320]) (by decide) (by decide) rfl
                      · skip
                        refine yy_iload C 0 dJx40b00_toDecimal_cabcc_323 (pc' := 325) rfl rfl ?_
                        refine yy_if_ne C dJx40b00_toDecimal_cabcc_325 (pc' := 328) rfl (tgt := 340) (by decide) (fun c_325 => ?_) (fun c_325 => ?_)
                        · skip
                          refine yy_iload C 3 dJx40b00_toDecimal_cabcc_340 (pc' := 342) rfl rfl ?_
                          refine yy_iload C 10 dJx40b00_toDecimal_cabcc_342 (pc' := 344) rfl rfl ?_
                          refine yy_iload_n C 18 dJx40b00_toDecimal_cabcc_344 (pc' := 345) rfl rfl rfl ?_
                          refine yy_iadd C (v := (r1 + (nI 0))) dJx40b00_toDecimal_cabcc_345 (pc' := 346) rfl rfl ?_
                          refine yc_i (yr_V C (n := 2) (As := [.int ((r4 >>> ((nI 2) &&& 31)) + (nI 1)), .int (r1 + (nI 0))]) (rest := []) lk_Jx40b00_73 cd_Jx40b00_toChars_7cf53 im_Jx40b00_toChars_7cf53 se_Jx40b00_toChars_7cf53 (mJx40b00_toChars_7cf53 l G B0 fd fb a F ((r4 >>> ((nI 2) &&& 31)) + (nI 1)) (r1 + (nI 0)) (by have hok' := hok; subst hw1 hw2 hw3 hw4 hw5 hw6; unfold td3 at hok'; dsimp only at hok'; rw [if_neg c_22, if_neg c_143, if_neg c_178, if_neg c_197, if_neg c_248, if_neg c_267, if_neg c_320, if_neg c_325] at hok'; exact hok')) ⟨by decide, by decide⟩ ⟨by decide, by decide⟩ 0 rfl rfl rfl rfl (Nat.le_of_ble_eq_true rfl) dJx40b00_toDecimal_cabcc_346) (pc' := 349) rfl (fun r7 _ hw7 => ?_)
                          subst hw7
                          subst hQ
                          exact ye_i C hr (vp_nar_int _) () dJx40b00_toDecimal_cabcc_349 (by subst hw1 hw2 hw3 hw4 hw5 hw6; unfold td3; dsimp only; rw [if_neg c_22, if_neg c_143, if_neg c_178, if_neg c_197, if_neg c_248, if_neg c_267, if_neg c_320, if_neg c_325]) (by decide) (by decide) rfl
                        · skip
                          refine yy_iload C 4 dJx40b00_toDecimal_cabcc_328 (pc' := 330) rfl rfl ?_
                          refine yy_iconst C (v := (nI 1)) dJx40b00_toDecimal_cabcc_330 (pc' := 331) rfl (by decide) ?_
                          refine yy_iand C (v := ((r4 >>> ((nI 2) &&& 31)) &&& (nI 1))) dJx40b00_toDecimal_cabcc_331 (pc' := 332) rfl rfl ?_
                          refine yy_if_ne C dJx40b00_toDecimal_cabcc_332 (pc' := 335) rfl (tgt := 340) (by decide) (fun c_332 => ?_) (fun c_332 => ?_)
                          · skip
                            refine yy_iload C 3 dJx40b00_toDecimal_cabcc_340 (pc' := 342) rfl rfl ?_
                            refine yy_iload C 10 dJx40b00_toDecimal_cabcc_342 (pc' := 344) rfl rfl ?_
                            refine yy_iload_n C 18 dJx40b00_toDecimal_cabcc_344 (pc' := 345) rfl rfl rfl ?_
                            refine yy_iadd C (v := (r1 + (nI 0))) dJx40b00_toDecimal_cabcc_345 (pc' := 346) rfl rfl ?_
                            refine yc_i (yr_V C (n := 2) (As := [.int ((r4 >>> ((nI 2) &&& 31)) + (nI 1)), .int (r1 + (nI 0))]) (rest := []) lk_Jx40b00_73 cd_Jx40b00_toChars_7cf53 im_Jx40b00_toChars_7cf53 se_Jx40b00_toChars_7cf53 (mJx40b00_toChars_7cf53 l G B0 fd fb a F ((r4 >>> ((nI 2) &&& 31)) + (nI 1)) (r1 + (nI 0)) (by have hok' := hok; subst hw1 hw2 hw3 hw4 hw5 hw6; unfold td3 at hok'; dsimp only at hok'; rw [if_neg c_22, if_neg c_143, if_neg c_178, if_neg c_197, if_neg c_248, if_neg c_267, if_neg c_320, if_pos c_325, if_neg c_332] at hok'; exact hok')) ⟨by decide, by decide⟩ ⟨by decide, by decide⟩ 0 rfl rfl rfl rfl (Nat.le_of_ble_eq_true rfl) dJx40b00_toDecimal_cabcc_346) (pc' := 349) rfl (fun r7 _ hw7 => ?_)
                            subst hw7
                            subst hQ
                            exact ye_i C hr (vp_nar_int _) () dJx40b00_toDecimal_cabcc_349 (by subst hw1 hw2 hw3 hw4 hw5 hw6; unfold td3; dsimp only; rw [if_neg c_22, if_neg c_143, if_neg c_178, if_neg c_197, if_neg c_248, if_neg c_267, if_neg c_320, if_pos c_325, if_neg c_332]) (by decide) (by decide) rfl
                          · skip
                            refine yy_iload C 4 dJx40b00_toDecimal_cabcc_335 (pc' := 337) rfl rfl ?_
                            refine yy_goto C (tgt := 342) dJx40b00_toDecimal_cabcc_337 (by decide) ?_
                            refine yy_iload C 10 dJx40b00_toDecimal_cabcc_342 (pc' := 344) rfl rfl ?_
                            refine yy_iload_n C 18 dJx40b00_toDecimal_cabcc_344 (pc' := 345) rfl rfl rfl ?_
                            refine yy_iadd C (v := (r1 + (nI 0))) dJx40b00_toDecimal_cabcc_345 (pc' := 346) rfl rfl ?_
                            refine yc_i (yr_V C (n := 2) (As := [.int (r4 >>> ((nI 2) &&& 31)), .int (r1 + (nI 0))]) (rest := []) lk_Jx40b00_73 cd_Jx40b00_toChars_7cf53 im_Jx40b00_toChars_7cf53 se_Jx40b00_toChars_7cf53 (mJx40b00_toChars_7cf53 l G B0 fd fb a F (r4 >>> ((nI 2) &&& 31)) (r1 + (nI 0)) (by have hok' := hok; subst hw1 hw2 hw3 hw4 hw5 hw6; unfold td3 at hok'; dsimp only at hok'; rw [if_neg c_22, if_neg c_143, if_neg c_178, if_neg c_197, if_neg c_248, if_neg c_267, if_neg c_320, if_pos c_325, if_pos c_332] at hok'; exact hok')) ⟨by decide, by decide⟩ ⟨by decide, by decide⟩ 0 rfl rfl rfl rfl (Nat.le_of_ble_eq_true rfl) dJx40b00_toDecimal_cabcc_346) (pc' := 349) rfl (fun r7 _ hw7 => ?_)
                            subst hw7
                            subst hQ
                            exact ye_i C hr (vp_nar_int _) () dJx40b00_toDecimal_cabcc_349 (by subst hw1 hw2 hw3 hw4 hw5 hw6; unfold td3; dsimp only; rw [if_neg c_22, if_neg c_143, if_neg c_178, if_neg c_197, if_neg c_248, if_neg c_267, if_neg c_320, if_pos c_325, if_pos c_332]) (by decide) (by decide) rfl
                    · skip
                      exact absurd c_281 (by decide)
              · skip
                exact absurd c_211 (by decide)
    · skip
      exact absurd c_34 hq
