def ush32 (x y : Int32) : Int32 := (x.toUInt32 >>> (y.toUInt32 &&& Int32.toUInt32 31)).toInt32
def fl10 (x : Int32) : Int32 := ((x.toInt64 * (661971961083)) >>> ((nI 41).toInt64 &&& 63)).toInt32
def fl34 (x : Int32) : Int32 := ((x.toInt64 * (661971961083) + (-274743187321)) >>> ((nI 41).toInt64 &&& 63)).toInt32
def fl2 (x : Int32) : Int32 := ((x.toInt64 * (913124641741)) >>> ((nI 38).toInt64 &&& 63)).toInt32
def gIx (x : Int32) : Nat := ix ((x - (-324)) <<< (nI 1 &&& 31))
def mulHi (x y : Int64) : Int64 :=
  let x1 := x >>> ((nI 32).toInt64 &&& 63)
  let x2 := x &&& (4294967295)
  let y1 := y >>> ((nI 32).toInt64 &&& 63)
  let y2 := y &&& (4294967295)
  let t := x1 * y2 + ush (x2 * y2) (nI 32)
  x1 * y1 + t >>> ((nI 32).toInt64 &&& 63) + ((t &&& (4294967295)) + x2 * y1) >>> ((nI 32).toInt64 &&& 63)
def ropF (g cp : Int64) : Int32 := (ush (mulHi g cp) (nI 31) ||| ush ((mulHi g cp &&& (4294967295)) + (4294967295)) (nI 32)).toInt32
def yF (a : Int32) : Int32 := (ush (mulHi ((a + nI 1).toInt64 <<< ((nI 28).toInt64 &&& 63)) (193428131138340668)) (nI 20)).toInt32 - nI 1
def dgB (d : Int32) : Int32 := (nI 48 + d).toInt8.toInt32
/-- n digits of y from place j + 1 on -/
def a8 : Nat → (Nat → Int32) → Nat → Int32 → (Nat → Int32)
  | 0, a, _, _ => a
  | n + 1, a, j, y => a8 n (upd a (j + 1) (dgB (ush32 (nI 10 * y) (nI 28)))) (j + 1) ((nI 10 * y) &&& nI 268435455)
/-- the place of the last byte that isn't a trailing zero (one more where that is the point) -/
def rtz (a : Nat → Int32) : Nat → Nat
  | 0 => 0
  | k + 1 => if a (k + 1) = nI 48 then rtz a k else if a (k + 1) = nI 46 then k + 2 else k + 1
theorem ix_of {z : Int32} {n : Nat} (h : z = nI n) (hn : n < 2 ^ 32) : ix z = n := by rw [h, ix_nI hn]
abbrev rJ9_multiplyHigh_f86c9 : Room := { frames := 0, cells := 0, slots := 0, locals := 0 }
set_option maxHeartbeats 4000000 in
set_option maxRecDepth 100000 in
theorem mJ9_multiplyHigh_f86c9 (l : Launch) (G : gG) (B0 : Nat) (w : va_W) (x y : Int64) : Met l yJ9_multiplyHigh_f86c9 (Cond.code yJ9_multiplyHigh_f86c9 cJ9_multiplyHigh_f86c9 20 (some .long) :: WG) rJ9_multiplyHigh_f86c9 (va_Pc [.long x, .long y] (PR G B0 (w))) (va_Ql (fun (r : Int64) (_ : Unit) => r = mulHi x y) (fun (_ : Unit) (t_ : State) => va_P G.1 vwCl (w) t_.heap ∧ va_D (fun q => B0 ≤ q) (w)) (fun q => B0 ≤ q)) rJ9_multiplyHigh_f86c9.cells rJ9_multiplyHigh_f86c9.slots (fun q => B0 ≤ q) := by
  refine metF_of RJ9 [(0, .long x), (2, .long y)] rfl (by decide +kernel) (Nat.le_of_ble_eq_true rfl) rfl ?_
  intro p e s m args below meth c C hr hnm
  refine yq ?_
  intro QQ hQ
  refine yy_lload_n C 0 dJ9_multiplyHigh_f86c9_0 (pc' := 1) rfl rfl rfl ?_
  refine yy_bipush C (v := (nI 32)) dJ9_multiplyHigh_f86c9_1 (pc' := 3) rfl (by decide) ?_
  refine yy_lshr C (v := (x >>> ((nI 32).toInt64 &&& 63))) dJ9_multiplyHigh_f86c9_3 (pc' := 4) rfl rfl ?_
  refine yy_lstore C (L' := [(4, .long (x >>> ((nI 32).toInt64 &&& 63))), (0, .long x), (2, .long y)]) dJ9_multiplyHigh_f86c9_4 (pc' := 6) rfl (by decide) rfl ?_
  refine yy_lload_n C 1 dJ9_multiplyHigh_f86c9_6 (pc' := 7) rfl rfl rfl ?_
  refine yy_ldc2 C dJ9_multiplyHigh_f86c9_7 (pc' := 10) rfl lg_J9_138 ?_
  refine yy_land C (v := (x &&& (4294967295))) dJ9_multiplyHigh_f86c9_10 (pc' := 11) rfl rfl ?_
  refine yy_lstore C (L' := [(6, .long (x &&& (4294967295))), (4, .long (x >>> ((nI 32).toInt64 &&& 63))), (0, .long x), (2, .long y)]) dJ9_multiplyHigh_f86c9_11 (pc' := 13) rfl (by decide) rfl ?_
  refine yy_lload_n C 3 dJ9_multiplyHigh_f86c9_13 (pc' := 14) rfl rfl rfl ?_
  refine yy_bipush C (v := (nI 32)) dJ9_multiplyHigh_f86c9_14 (pc' := 16) rfl (by decide) ?_
  refine yy_lshr C (v := (y >>> ((nI 32).toInt64 &&& 63))) dJ9_multiplyHigh_f86c9_16 (pc' := 17) rfl rfl ?_
  refine yy_lstore C (L' := [(8, .long (y >>> ((nI 32).toInt64 &&& 63))), (6, .long (x &&& (4294967295))), (4, .long (x >>> ((nI 32).toInt64 &&& 63))), (0, .long x), (2, .long y)]) dJ9_multiplyHigh_f86c9_17 (pc' := 19) rfl (by decide) rfl ?_
  refine yy_lload_n C 4 dJ9_multiplyHigh_f86c9_19 (pc' := 20) rfl rfl rfl ?_
  refine yy_ldc2 C dJ9_multiplyHigh_f86c9_20 (pc' := 23) rfl lg_J9_138 ?_
  refine yy_land C (v := (y &&& (4294967295))) dJ9_multiplyHigh_f86c9_23 (pc' := 24) rfl rfl ?_
  refine yy_lstore C (L' := [(10, .long (y &&& (4294967295))), (8, .long (y >>> ((nI 32).toInt64 &&& 63))), (6, .long (x &&& (4294967295))), (4, .long (x >>> ((nI 32).toInt64 &&& 63))), (0, .long x), (2, .long y)]) dJ9_multiplyHigh_f86c9_24 (pc' := 26) rfl (by decide) rfl ?_
  refine yy_lload C 2 dJ9_multiplyHigh_f86c9_26 (pc' := 28) rfl rfl ?_
  refine yy_lload C 0 dJ9_multiplyHigh_f86c9_28 (pc' := 30) rfl rfl ?_
  refine yy_lmul C (v := ((x &&& (4294967295)) * (y &&& (4294967295)))) dJ9_multiplyHigh_f86c9_30 (pc' := 31) rfl rfl ?_
  refine yy_lstore C (L' := [(12, .long ((x &&& (4294967295)) * (y &&& (4294967295)))), (10, .long (y &&& (4294967295))), (8, .long (y >>> ((nI 32).toInt64 &&& 63))), (6, .long (x &&& (4294967295))), (4, .long (x >>> ((nI 32).toInt64 &&& 63))), (0, .long x), (2, .long y)]) dJ9_multiplyHigh_f86c9_31 (pc' := 33) rfl (by decide) rfl ?_
  refine yy_lload C 4 dJ9_multiplyHigh_f86c9_33 (pc' := 35) rfl rfl ?_
  refine yy_lload C 1 dJ9_multiplyHigh_f86c9_35 (pc' := 37) rfl rfl ?_
  refine yy_lmul C (v := ((x >>> ((nI 32).toInt64 &&& 63)) * (y &&& (4294967295)))) dJ9_multiplyHigh_f86c9_37 (pc' := 38) rfl rfl ?_
  refine yy_lload C 0 dJ9_multiplyHigh_f86c9_38 (pc' := 40) rfl rfl ?_
  refine yy_bipush C (v := (nI 32)) dJ9_multiplyHigh_f86c9_40 (pc' := 42) rfl (by decide) ?_
  refine yy_lushr C (v := (ush ((x &&& (4294967295)) * (y &&& (4294967295))) (nI 32))) dJ9_multiplyHigh_f86c9_42 (pc' := 43) rfl rfl ?_
  refine yy_ladd C (v := (((x >>> ((nI 32).toInt64 &&& 63)) * (y &&& (4294967295))) + (ush ((x &&& (4294967295)) * (y &&& (4294967295))) (nI 32)))) dJ9_multiplyHigh_f86c9_43 (pc' := 44) rfl rfl ?_
  refine yy_lstore C (L' := [(14, .long (((x >>> ((nI 32).toInt64 &&& 63)) * (y &&& (4294967295))) + (ush ((x &&& (4294967295)) * (y &&& (4294967295))) (nI 32)))), (12, .long ((x &&& (4294967295)) * (y &&& (4294967295)))), (10, .long (y &&& (4294967295))), (8, .long (y >>> ((nI 32).toInt64 &&& 63))), (6, .long (x &&& (4294967295))), (4, .long (x >>> ((nI 32).toInt64 &&& 63))), (0, .long x), (2, .long y)]) dJ9_multiplyHigh_f86c9_44 (pc' := 46) rfl (by decide) rfl ?_
  refine yy_lload C 0 dJ9_multiplyHigh_f86c9_46 (pc' := 48) rfl rfl ?_
  refine yy_ldc2 C dJ9_multiplyHigh_f86c9_48 (pc' := 51) rfl lg_J9_138 ?_
  refine yy_land C (v := ((((x >>> ((nI 32).toInt64 &&& 63)) * (y &&& (4294967295))) + (ush ((x &&& (4294967295)) * (y &&& (4294967295))) (nI 32))) &&& (4294967295))) dJ9_multiplyHigh_f86c9_51 (pc' := 52) rfl rfl ?_
  refine yy_lstore C (L' := [(16, .long ((((x >>> ((nI 32).toInt64 &&& 63)) * (y &&& (4294967295))) + (ush ((x &&& (4294967295)) * (y &&& (4294967295))) (nI 32))) &&& (4294967295))), (14, .long (((x >>> ((nI 32).toInt64 &&& 63)) * (y &&& (4294967295))) + (ush ((x &&& (4294967295)) * (y &&& (4294967295))) (nI 32)))), (12, .long ((x &&& (4294967295)) * (y &&& (4294967295)))), (10, .long (y &&& (4294967295))), (8, .long (y >>> ((nI 32).toInt64 &&& 63))), (6, .long (x &&& (4294967295))), (4, .long (x >>> ((nI 32).toInt64 &&& 63))), (0, .long x), (2, .long y)]) dJ9_multiplyHigh_f86c9_52 (pc' := 54) rfl (by decide) rfl ?_
  refine yy_lload C 1 dJ9_multiplyHigh_f86c9_54 (pc' := 56) rfl rfl ?_
  refine yy_bipush C (v := (nI 32)) dJ9_multiplyHigh_f86c9_56 (pc' := 58) rfl (by decide) ?_
  refine yy_lshr C (v := ((((x >>> ((nI 32).toInt64 &&& 63)) * (y &&& (4294967295))) + (ush ((x &&& (4294967295)) * (y &&& (4294967295))) (nI 32))) >>> ((nI 32).toInt64 &&& 63))) dJ9_multiplyHigh_f86c9_58 (pc' := 59) rfl rfl ?_
  refine yy_lstore C (L' := [(18, .long ((((x >>> ((nI 32).toInt64 &&& 63)) * (y &&& (4294967295))) + (ush ((x &&& (4294967295)) * (y &&& (4294967295))) (nI 32))) >>> ((nI 32).toInt64 &&& 63))), (16, .long ((((x >>> ((nI 32).toInt64 &&& 63)) * (y &&& (4294967295))) + (ush ((x &&& (4294967295)) * (y &&& (4294967295))) (nI 32))) &&& (4294967295))), (14, .long (((x >>> ((nI 32).toInt64 &&& 63)) * (y &&& (4294967295))) + (ush ((x &&& (4294967295)) * (y &&& (4294967295))) (nI 32)))), (12, .long ((x &&& (4294967295)) * (y &&& (4294967295)))), (10, .long (y &&& (4294967295))), (8, .long (y >>> ((nI 32).toInt64 &&& 63))), (6, .long (x &&& (4294967295))), (4, .long (x >>> ((nI 32).toInt64 &&& 63))), (0, .long x), (2, .long y)]) dJ9_multiplyHigh_f86c9_59 (pc' := 61) rfl (by decide) rfl ?_
  refine yy_lload C 1 dJ9_multiplyHigh_f86c9_61 (pc' := 63) rfl rfl ?_
  refine yy_lload C 6 dJ9_multiplyHigh_f86c9_63 (pc' := 65) rfl rfl ?_
  refine yy_lload C 5 dJ9_multiplyHigh_f86c9_65 (pc' := 67) rfl rfl ?_
  refine yy_lmul C (v := ((x &&& (4294967295)) * (y >>> ((nI 32).toInt64 &&& 63)))) dJ9_multiplyHigh_f86c9_67 (pc' := 68) rfl rfl ?_
  refine yy_ladd C (v := (((((x >>> ((nI 32).toInt64 &&& 63)) * (y &&& (4294967295))) + (ush ((x &&& (4294967295)) * (y &&& (4294967295))) (nI 32))) &&& (4294967295)) + ((x &&& (4294967295)) * (y >>> ((nI 32).toInt64 &&& 63))))) dJ9_multiplyHigh_f86c9_68 (pc' := 69) rfl rfl ?_
  refine yy_lstore C (L' := [(16, .long (((((x >>> ((nI 32).toInt64 &&& 63)) * (y &&& (4294967295))) + (ush ((x &&& (4294967295)) * (y &&& (4294967295))) (nI 32))) &&& (4294967295)) + ((x &&& (4294967295)) * (y >>> ((nI 32).toInt64 &&& 63))))), (18, .long ((((x >>> ((nI 32).toInt64 &&& 63)) * (y &&& (4294967295))) + (ush ((x &&& (4294967295)) * (y &&& (4294967295))) (nI 32))) >>> ((nI 32).toInt64 &&& 63))), (14, .long (((x >>> ((nI 32).toInt64 &&& 63)) * (y &&& (4294967295))) + (ush ((x &&& (4294967295)) * (y &&& (4294967295))) (nI 32)))), (12, .long ((x &&& (4294967295)) * (y &&& (4294967295)))), (10, .long (y &&& (4294967295))), (8, .long (y >>> ((nI 32).toInt64 &&& 63))), (6, .long (x &&& (4294967295))), (4, .long (x >>> ((nI 32).toInt64 &&& 63))), (0, .long x), (2, .long y)]) dJ9_multiplyHigh_f86c9_69 (pc' := 71) rfl (by decide) rfl ?_
  refine yy_lload C 7 dJ9_multiplyHigh_f86c9_71 (pc' := 73) rfl rfl ?_
  refine yy_lload C 5 dJ9_multiplyHigh_f86c9_73 (pc' := 75) rfl rfl ?_
  refine yy_lmul C (v := ((x >>> ((nI 32).toInt64 &&& 63)) * (y >>> ((nI 32).toInt64 &&& 63)))) dJ9_multiplyHigh_f86c9_75 (pc' := 76) rfl rfl ?_
  refine yy_lload C 1 dJ9_multiplyHigh_f86c9_76 (pc' := 78) rfl rfl ?_
  refine yy_ladd C (v := (((x >>> ((nI 32).toInt64 &&& 63)) * (y >>> ((nI 32).toInt64 &&& 63))) + ((((x >>> ((nI 32).toInt64 &&& 63)) * (y &&& (4294967295))) + (ush ((x &&& (4294967295)) * (y &&& (4294967295))) (nI 32))) >>> ((nI 32).toInt64 &&& 63)))) dJ9_multiplyHigh_f86c9_78 (pc' := 79) rfl rfl ?_
  refine yy_lload C 0 dJ9_multiplyHigh_f86c9_79 (pc' := 81) rfl rfl ?_
  refine yy_bipush C (v := (nI 32)) dJ9_multiplyHigh_f86c9_81 (pc' := 83) rfl (by decide) ?_
  refine yy_lshr C (v := ((((((x >>> ((nI 32).toInt64 &&& 63)) * (y &&& (4294967295))) + (ush ((x &&& (4294967295)) * (y &&& (4294967295))) (nI 32))) &&& (4294967295)) + ((x &&& (4294967295)) * (y >>> ((nI 32).toInt64 &&& 63)))) >>> ((nI 32).toInt64 &&& 63))) dJ9_multiplyHigh_f86c9_83 (pc' := 84) rfl rfl ?_
  refine yy_ladd C (v := ((((x >>> ((nI 32).toInt64 &&& 63)) * (y >>> ((nI 32).toInt64 &&& 63))) + ((((x >>> ((nI 32).toInt64 &&& 63)) * (y &&& (4294967295))) + (ush ((x &&& (4294967295)) * (y &&& (4294967295))) (nI 32))) >>> ((nI 32).toInt64 &&& 63))) + ((((((x >>> ((nI 32).toInt64 &&& 63)) * (y &&& (4294967295))) + (ush ((x &&& (4294967295)) * (y &&& (4294967295))) (nI 32))) &&& (4294967295)) + ((x &&& (4294967295)) * (y >>> ((nI 32).toInt64 &&& 63)))) >>> ((nI 32).toInt64 &&& 63)))) dJ9_multiplyHigh_f86c9_84 (pc' := 85) rfl rfl ?_
  subst hQ
  exact ye_l C hr () dJ9_multiplyHigh_f86c9_85 rfl (by decide) (by decide) rfl

abbrev rJx25f51_flog10pow2_0f7a4 : Room := { frames := 0, cells := 0, slots := 0, locals := 0 }
set_option maxHeartbeats 4000000 in
set_option maxRecDepth 100000 in
theorem mJx25f51_flog10pow2_0f7a4 (l : Launch) (G : gG) (B0 : Nat) (w : va_W) (x : Int32) : Met l yJx25f51_flog10pow2_0f7a4 (Cond.code yJx25f51_flog10pow2_0f7a4 cJx25f51_flog10pow2_0f7a4 1 (some .int) :: WG) rJx25f51_flog10pow2_0f7a4 (va_Pc [.int x] (PR G B0 (w))) (va_Qi (fun (r : Int32) (_ : Unit) => r = fl10 x) (fun (_ : Unit) (t_ : State) => va_P G.1 vwCl (w) t_.heap ∧ va_D (fun q => B0 ≤ q) (w)) (fun q => B0 ≤ q)) rJx25f51_flog10pow2_0f7a4.cells rJx25f51_flog10pow2_0f7a4.slots (fun q => B0 ≤ q) := by
  refine met_of RJx25f51 [(0, .int x)] rfl (by decide) (Nat.le_of_ble_eq_true rfl) rfl ?_
  intro p e s m args below meth c C hr hnm
  refine yq ?_
  intro QQ hQ
  refine yy_iload_n C 0 dJx25f51_flog10pow2_0f7a4_0 (pc' := 1) rfl rfl rfl ?_
  refine yy_i2l C (v := x.toInt64) dJx25f51_flog10pow2_0f7a4_1 (pc' := 2) rfl rfl ?_
  refine yy_ldc2 C dJx25f51_flog10pow2_0f7a4_2 (pc' := 5) rfl lg_Jx25f51_20 ?_
  refine yy_lmul C (v := (x.toInt64 * (661971961083))) dJx25f51_flog10pow2_0f7a4_5 (pc' := 6) rfl rfl ?_
  refine yy_bipush C (v := (nI 41)) dJx25f51_flog10pow2_0f7a4_6 (pc' := 8) rfl (by decide) ?_
  refine yy_lshr C (v := ((x.toInt64 * (661971961083)) >>> ((nI 41).toInt64 &&& 63))) dJx25f51_flog10pow2_0f7a4_8 (pc' := 9) rfl rfl ?_
  refine yy_l2i C (v := (((x.toInt64 * (661971961083)) >>> ((nI 41).toInt64 &&& 63)).toInt32)) dJx25f51_flog10pow2_0f7a4_9 (pc' := 10) rfl rfl ?_
  subst hQ
  exact ye_i C hr (vp_nar_int _) () dJx25f51_flog10pow2_0f7a4_10 rfl (by decide) (by decide) rfl

abbrev rJx25f51_flog10threeQuartersPow2_0f7a4 : Room := { frames := 0, cells := 0, slots := 0, locals := 0 }
set_option maxHeartbeats 4000000 in
set_option maxRecDepth 100000 in
theorem mJx25f51_flog10threeQuartersPow2_0f7a4 (l : Launch) (G : gG) (B0 : Nat) (w : va_W) (x : Int32) : Met l yJx25f51_flog10threeQuartersPow2_0f7a4 (Cond.code yJx25f51_flog10threeQuartersPow2_0f7a4 cJx25f51_flog10threeQuartersPow2_0f7a4 1 (some .int) :: WG) rJx25f51_flog10threeQuartersPow2_0f7a4 (va_Pc [.int x] (PR G B0 (w))) (va_Qi (fun (r : Int32) (_ : Unit) => r = fl34 x) (fun (_ : Unit) (t_ : State) => va_P G.1 vwCl (w) t_.heap ∧ va_D (fun q => B0 ≤ q) (w)) (fun q => B0 ≤ q)) rJx25f51_flog10threeQuartersPow2_0f7a4.cells rJx25f51_flog10threeQuartersPow2_0f7a4.slots (fun q => B0 ≤ q) := by
  refine met_of RJx25f51 [(0, .int x)] rfl (by decide) (Nat.le_of_ble_eq_true rfl) rfl ?_
  intro p e s m args below meth c C hr hnm
  refine yq ?_
  intro QQ hQ
  refine yy_iload_n C 0 dJx25f51_flog10threeQuartersPow2_0f7a4_0 (pc' := 1) rfl rfl rfl ?_
  refine yy_i2l C (v := x.toInt64) dJx25f51_flog10threeQuartersPow2_0f7a4_1 (pc' := 2) rfl rfl ?_
  refine yy_ldc2 C dJx25f51_flog10threeQuartersPow2_0f7a4_2 (pc' := 5) rfl lg_Jx25f51_20 ?_
  refine yy_lmul C (v := (x.toInt64 * (661971961083))) dJx25f51_flog10threeQuartersPow2_0f7a4_5 (pc' := 6) rfl rfl ?_
  refine yy_ldc2 C dJx25f51_flog10threeQuartersPow2_0f7a4_6 (pc' := 9) rfl lg_Jx25f51_22 ?_
  refine yy_ladd C (v := ((x.toInt64 * (661971961083)) + (-274743187321))) dJx25f51_flog10threeQuartersPow2_0f7a4_9 (pc' := 10) rfl rfl ?_
  refine yy_bipush C (v := (nI 41)) dJx25f51_flog10threeQuartersPow2_0f7a4_10 (pc' := 12) rfl (by decide) ?_
  refine yy_lshr C (v := (((x.toInt64 * (661971961083)) + (-274743187321)) >>> ((nI 41).toInt64 &&& 63))) dJx25f51_flog10threeQuartersPow2_0f7a4_12 (pc' := 13) rfl rfl ?_
  refine yy_l2i C (v := ((((x.toInt64 * (661971961083)) + (-274743187321)) >>> ((nI 41).toInt64 &&& 63)).toInt32)) dJx25f51_flog10threeQuartersPow2_0f7a4_13 (pc' := 14) rfl rfl ?_
  subst hQ
  exact ye_i C hr (vp_nar_int _) () dJx25f51_flog10threeQuartersPow2_0f7a4_14 rfl (by decide) (by decide) rfl

abbrev rJx25f51_flog2pow10_0f7a4 : Room := { frames := 0, cells := 0, slots := 0, locals := 0 }
set_option maxHeartbeats 4000000 in
set_option maxRecDepth 100000 in
theorem mJx25f51_flog2pow10_0f7a4 (l : Launch) (G : gG) (B0 : Nat) (w : va_W) (x : Int32) : Met l yJx25f51_flog2pow10_0f7a4 (Cond.code yJx25f51_flog2pow10_0f7a4 cJx25f51_flog2pow10_0f7a4 1 (some .int) :: WG) rJx25f51_flog2pow10_0f7a4 (va_Pc [.int x] (PR G B0 (w))) (va_Qi (fun (r : Int32) (_ : Unit) => r = fl2 x) (fun (_ : Unit) (t_ : State) => va_P G.1 vwCl (w) t_.heap ∧ va_D (fun q => B0 ≤ q) (w)) (fun q => B0 ≤ q)) rJx25f51_flog2pow10_0f7a4.cells rJx25f51_flog2pow10_0f7a4.slots (fun q => B0 ≤ q) := by
  refine met_of RJx25f51 [(0, .int x)] rfl (by decide) (Nat.le_of_ble_eq_true rfl) rfl ?_
  intro p e s m args below meth c C hr hnm
  refine yq ?_
  intro QQ hQ
  refine yy_iload_n C 0 dJx25f51_flog2pow10_0f7a4_0 (pc' := 1) rfl rfl rfl ?_
  refine yy_i2l C (v := x.toInt64) dJx25f51_flog2pow10_0f7a4_1 (pc' := 2) rfl rfl ?_
  refine yy_ldc2 C dJx25f51_flog2pow10_0f7a4_2 (pc' := 5) rfl lg_Jx25f51_24 ?_
  refine yy_lmul C (v := (x.toInt64 * (913124641741))) dJx25f51_flog2pow10_0f7a4_5 (pc' := 6) rfl rfl ?_
  refine yy_bipush C (v := (nI 38)) dJx25f51_flog2pow10_0f7a4_6 (pc' := 8) rfl (by decide) ?_
  refine yy_lshr C (v := ((x.toInt64 * (913124641741)) >>> ((nI 38).toInt64 &&& 63))) dJx25f51_flog2pow10_0f7a4_8 (pc' := 9) rfl rfl ?_
  refine yy_l2i C (v := (((x.toInt64 * (913124641741)) >>> ((nI 38).toInt64 &&& 63)).toInt32)) dJx25f51_flog2pow10_0f7a4_9 (pc' := 10) rfl rfl ?_
  subst hQ
  exact ye_i C hr (vp_nar_int _) () dJx25f51_flog2pow10_0f7a4_10 rfl (by decide) (by decide) rfl

abbrev rJx25f51_pow10_3e8ac : Room := { frames := 0, cells := 0, slots := 0, locals := 0 }
set_option maxHeartbeats 4000000 in
set_option maxRecDepth 100000 in
theorem mJx25f51_pow10_3e8ac (l : Launch) (G : gG) (B0 : Nat) (w : va_W) (x : Int32) (hx : ix x < 18) : Met l yJx25f51_pow10_3e8ac (Cond.code yJx25f51_pow10_3e8ac cJx25f51_pow10_3e8ac 1 (some .long) :: WG) rJx25f51_pow10_3e8ac (va_Pc [.int x] (PR G B0 (w))) (va_Ql (fun (r : Int64) (_ : Unit) => r = tbP (ix x)) (fun (_ : Unit) (t_ : State) => va_P G.1 vwCl (w) t_.heap ∧ va_D (fun q => B0 ≤ q) (w)) (fun q => B0 ≤ q)) rJx25f51_pow10_3e8ac.cells rJx25f51_pow10_3e8ac.slots (fun q => B0 ≤ q) := by
  refine met_of RJx25f51 [(0, .int x)] rfl (by decide) (Nat.le_of_ble_eq_true rfl) rfl ?_
  intro p e s m args below meth c C hr hnm
  refine yq ?_
  intro QQ hQ
  obtain ⟨tt1, hZtt1, hTtt1⟩ := (cSV C).2.2.2.2
  refine yy_gets C (v := .ref tt1) hZtt1 sk_Jx25f51_14 rfl dJx25f51_pow10_3e8ac_0 (pc' := 3) rfl ?_
  refine yy_iload_n C 0 dJx25f51_pow10_3e8ac_3 (pc' := 4) rfl rfl rfl ?_
  refine yy_ix ?_
  refine yy_tl C hTtt1 dJx25f51_pow10_3e8ac_4 (pc' := 5) rfl hx (by decide) ?_
  subst hQ
  exact ye_l C hr () dJx25f51_pow10_3e8ac_5 rfl (by decide) (by decide) rfl

abbrev rJx25f51_g1_3e8ac : Room := { frames := 0, cells := 0, slots := 0, locals := 0 }
set_option maxHeartbeats 4000000 in
set_option maxRecDepth 100000 in
theorem mJx25f51_g1_3e8ac (l : Launch) (G : gG) (B0 : Nat) (w : va_W) (x : Int32) (hx : gIx x < 1234) : Met l yJx25f51_g1_3e8ac (Cond.code yJx25f51_g1_3e8ac cJx25f51_g1_3e8ac 1 (some .long) :: WG) rJx25f51_g1_3e8ac (va_Pc [.int x] (PR G B0 (w))) (va_Ql (fun (r : Int64) (_ : Unit) => r = tbG (gIx x)) (fun (_ : Unit) (t_ : State) => va_P G.1 vwCl (w) t_.heap ∧ va_D (fun q => B0 ≤ q) (w)) (fun q => B0 ≤ q)) rJx25f51_g1_3e8ac.cells rJx25f51_g1_3e8ac.slots (fun q => B0 ≤ q) := by
  refine met_of RJx25f51 [(0, .int x)] rfl (by decide) (Nat.le_of_ble_eq_true rfl) rfl ?_
  intro p e s m args below meth c C hr hnm
  refine yq ?_
  intro QQ hQ
  obtain ⟨tt1, hZtt1, hTtt1⟩ := (cSV C).2.2.2.1
  refine yy_gets C (v := .ref tt1) hZtt1 sk_Jx25f51_26 rfl dJx25f51_g1_3e8ac_0 (pc' := 3) rfl ?_
  refine yy_iload_n C 0 dJx25f51_g1_3e8ac_3 (pc' := 4) rfl rfl rfl ?_
  refine yy_sipush C (v := (-324)) dJx25f51_g1_3e8ac_4 (pc' := 7) rfl (by decide) ?_
  refine yy_isub C (v := (x - (-324))) dJx25f51_g1_3e8ac_7 (pc' := 8) rfl rfl ?_
  refine yy_iconst C (v := (nI 1)) dJx25f51_g1_3e8ac_8 (pc' := 9) rfl (by decide) ?_
  refine yy_ishl C (v := ((x - (-324)) <<< ((nI 1) &&& 31))) dJx25f51_g1_3e8ac_9 (pc' := 10) rfl rfl ?_
  refine yy_ix ?_
  refine yy_tl C hTtt1 dJx25f51_g1_3e8ac_10 (pc' := 11) rfl hx (by decide) ?_
  subst hQ
  exact ye_l C hr () dJx25f51_g1_3e8ac_11 rfl (by decide) (by decide) rfl

abbrev rJx40b00_rop_74951 : Room := { frames := 1, cells := 0, slots := 0, locals := 39 }
set_option maxHeartbeats 4000000 in
set_option maxRecDepth 100000 in
theorem mJx40b00_rop_74951 (l : Launch) (G : gG) (B0 : Nat) (w : va_W) (x y : Int64) : Met l yJx40b00_rop_74951 (Cond.code yJx40b00_rop_74951 cJx40b00_rop_74951 8 (some .int) :: WG) rJx40b00_rop_74951 (va_Pc [.long x, .long y] (PR G B0 (w))) (va_Qi (fun (r : Int32) (_ : Unit) => r = ropF x y) (fun (_ : Unit) (t_ : State) => va_P G.1 vwCl (w) t_.heap ∧ va_D (fun q => B0 ≤ q) (w)) (fun q => B0 ≤ q)) rJx40b00_rop_74951.cells rJx40b00_rop_74951.slots (fun q => B0 ≤ q) := by
  refine met_of RJx40b00 [(0, .long x), (2, .long y)] rfl (by decide) (Nat.le_of_ble_eq_true rfl) rfl ?_
  intro p e s m args below meth c C hr hnm
  refine yq ?_
  intro QQ hQ
  refine yy_lload_n C 0 dJx40b00_rop_74951_0 (pc' := 1) rfl rfl rfl ?_
  refine yy_lload_n C 1 dJx40b00_rop_74951_1 (pc' := 2) rfl rfl rfl ?_
  refine yc_l (yr_S C (n := 2) (As := [.long x, .long y]) (rest := []) lk_Jx40b00_104 cd_J9_multiplyHigh_f86c9 st_J9_multiplyHigh_f86c9 (mJ9_multiplyHigh_f86c9 l G B0 w x y) ⟨by decide, by decide⟩ ⟨by decide, by decide⟩ rfl rfl (Nat.le_of_ble_eq_true rfl) dJx40b00_rop_74951_2) (pc' := 5) rfl (fun r1 _ hw1 => ?_)
  subst hw1
  refine yy_lstore C (L' := [(4, .long (mulHi x y)), (0, .long x), (2, .long y)]) dJx40b00_rop_74951_5 (pc' := 7) rfl (by decide) rfl ?_
  refine yy_lload C 0 dJx40b00_rop_74951_7 (pc' := 9) rfl rfl ?_
  refine yy_bipush C (v := (nI 31)) dJx40b00_rop_74951_9 (pc' := 11) rfl (by decide) ?_
  refine yy_lushr C (v := (ush (mulHi x y) (nI 31))) dJx40b00_rop_74951_11 (pc' := 12) rfl rfl ?_
  refine yy_lstore C (L' := [(6, .long (ush (mulHi x y) (nI 31))), (4, .long (mulHi x y)), (0, .long x), (2, .long y)]) dJx40b00_rop_74951_12 (pc' := 14) rfl (by decide) rfl ?_
  refine yy_lload C 0 dJx40b00_rop_74951_14 (pc' := 16) rfl rfl ?_
  refine yy_lload C 1 dJx40b00_rop_74951_16 (pc' := 18) rfl rfl ?_
  refine yy_ldc2 C dJx40b00_rop_74951_18 (pc' := 21) rfl lg_Jx40b00_110 ?_
  refine yy_land C (v := ((mulHi x y) &&& (4294967295))) dJx40b00_rop_74951_21 (pc' := 22) rfl rfl ?_
  refine yy_ldc2 C dJx40b00_rop_74951_22 (pc' := 25) rfl lg_Jx40b00_110 ?_
  refine yy_ladd C (v := (((mulHi x y) &&& (4294967295)) + (4294967295))) dJx40b00_rop_74951_25 (pc' := 26) rfl rfl ?_
  refine yy_bipush C (v := (nI 32)) dJx40b00_rop_74951_26 (pc' := 28) rfl (by decide) ?_
  refine yy_lushr C (v := (ush (((mulHi x y) &&& (4294967295)) + (4294967295)) (nI 32))) dJx40b00_rop_74951_28 (pc' := 29) rfl rfl ?_
  refine yy_lor C (v := ((ush (mulHi x y) (nI 31)) ||| (ush (((mulHi x y) &&& (4294967295)) + (4294967295)) (nI 32)))) dJx40b00_rop_74951_29 (pc' := 30) rfl rfl ?_
  refine yy_l2i C (v := (((ush (mulHi x y) (nI 31)) ||| (ush (((mulHi x y) &&& (4294967295)) + (4294967295)) (nI 32))).toInt32)) dJx40b00_rop_74951_30 (pc' := 31) rfl rfl ?_
  subst hQ
  exact ye_i C hr (vp_nar_int _) () dJx40b00_rop_74951_31 rfl (by decide) (by decide) rfl

abbrev rJx40b00_y_0f7a4 : Room := { frames := 1, cells := 0, slots := 0, locals := 39 }
set_option maxHeartbeats 4000000 in
set_option maxRecDepth 100000 in
theorem mJx40b00_y_0f7a4 (l : Launch) (G : gG) (B0 : Nat) (fd fb : Nat) (iv : Int32) (a : Nat → Int32) (F : va_W) (x : Int32) : Met l yJx40b00_y_0f7a4 (Cond.code yJx40b00_y_0f7a4 cJx40b00_y_0f7a4 2 (some .int) :: WG) rJx40b00_y_0f7a4 (va_Pc [.ref (fd), .int x] (PR G B0 (((fd, .inr (2, [.ref (fb), .int iv])) :: (fb, .inl (G.2.2.2.1, 15, .inl a)) :: F)))) (va_Qi (fun (r : Int32) (_ : Unit) => r = yF x) (fun (_ : Unit) (t_ : State) => va_P G.1 vwCl (((fd, .inr (2, [.ref (fb), .int iv])) :: (fb, .inl (G.2.2.2.1, 15, .inl a)) :: F)) t_.heap ∧ va_D (fun q => B0 ≤ q) (((fd, .inr (2, [.ref (fb), .int iv])) :: (fb, .inl (G.2.2.2.1, 15, .inl a)) :: F))) (fun q => B0 ≤ q)) rJx40b00_y_0f7a4.cells rJx40b00_y_0f7a4.slots (fun q => B0 ≤ q) := by
  refine met_of RJx40b00 [(0, .ref (fd)), (1, .int x)] rfl (by decide) (Nat.le_of_ble_eq_true rfl) rfl ?_
  intro p e s m args below meth c C hr hnm
  refine yq ?_
  intro QQ hQ
  refine yy_iload_n C 1 dJx40b00_y_0f7a4_0 (pc' := 1) rfl rfl rfl ?_
  refine yy_iconst C (v := (nI 1)) dJx40b00_y_0f7a4_1 (pc' := 2) rfl (by decide) ?_
  refine yy_iadd C (v := (x + (nI 1))) dJx40b00_y_0f7a4_2 (pc' := 3) rfl rfl ?_
  refine yy_i2l C (v := ((x + (nI 1)).toInt64)) dJx40b00_y_0f7a4_3 (pc' := 4) rfl rfl ?_
  refine yy_bipush C (v := (nI 28)) dJx40b00_y_0f7a4_4 (pc' := 6) rfl (by decide) ?_
  refine yy_lshl C (v := (((x + (nI 1)).toInt64) <<< ((nI 28).toInt64 &&& 63))) dJx40b00_y_0f7a4_6 (pc' := 7) rfl rfl ?_
  refine yy_ldc2 C dJx40b00_y_0f7a4_7 (pc' := 10) rfl lg_Jx40b00_148 ?_
  refine yc_l (yr_S C (n := 2) (As := [.long (((x + (nI 1)).toInt64) <<< ((nI 28).toInt64 &&& 63)), .long (193428131138340668)]) (rest := []) lk_Jx40b00_104 cd_J9_multiplyHigh_f86c9 st_J9_multiplyHigh_f86c9 (mJ9_multiplyHigh_f86c9 l G B0 ((fd, .inr (2, [.ref (fb), .int iv])) :: (fb, .inl (G.2.2.2.1, 15, .inl a)) :: F) (((x + (nI 1)).toInt64) <<< ((nI 28).toInt64 &&& 63)) (193428131138340668)) ⟨by decide, by decide⟩ ⟨by decide, by decide⟩ rfl rfl (Nat.le_of_ble_eq_true rfl) dJx40b00_y_0f7a4_10) (pc' := 13) rfl (fun r1 _ hw1 => ?_)
  subst hw1
  refine yy_bipush C (v := (nI 20)) dJx40b00_y_0f7a4_13 (pc' := 15) rfl (by decide) ?_
  refine yy_lushr C (v := (ush (mulHi (((x + (nI 1)).toInt64) <<< ((nI 28).toInt64 &&& 63)) (193428131138340668)) (nI 20))) dJx40b00_y_0f7a4_15 (pc' := 16) rfl rfl ?_
  refine yy_l2i C (v := ((ush (mulHi (((x + (nI 1)).toInt64) <<< ((nI 28).toInt64 &&& 63)) (193428131138340668)) (nI 20)).toInt32)) dJx40b00_y_0f7a4_16 (pc' := 17) rfl rfl ?_
  refine yy_iconst C (v := (nI 1)) dJx40b00_y_0f7a4_17 (pc' := 18) rfl (by decide) ?_
  refine yy_isub C (v := (((ush (mulHi (((x + (nI 1)).toInt64) <<< ((nI 28).toInt64 &&& 63)) (193428131138340668)) (nI 20)).toInt32) - (nI 1))) dJx40b00_y_0f7a4_18 (pc' := 19) rfl rfl ?_
  subst hQ
  exact ye_i C hr (vp_nar_int _) () dJx40b00_y_0f7a4_19 rfl (by decide) (by decide) rfl

def nlzF (x : Int32) : Int32 :=
  if 0 < x then (if x < (nI 65536) then (if x < (nI 256) then (if x < (nI 16) then (if x < (nI 4) then (((nI 31) - (ush32 x (nI 1)))) else (((nI 29) - (ush32 (ush32 x (nI 2)) (nI 1))))) else (if (ush32 x (nI 4)) < (nI 4) then (((nI 27) - (ush32 (ush32 x (nI 4)) (nI 1)))) else (((nI 25) - (ush32 (ush32 (ush32 x (nI 4)) (nI 2)) (nI 1)))))) else (if (ush32 x (nI 8)) < (nI 16) then (if (ush32 x (nI 8)) < (nI 4) then (((nI 23) - (ush32 (ush32 x (nI 8)) (nI 1)))) else (((nI 21) - (ush32 (ush32 (ush32 x (nI 8)) (nI 2)) (nI 1))))) else (if (ush32 (ush32 x (nI 8)) (nI 4)) < (nI 4) then (((nI 19) - (ush32 (ush32 (ush32 x (nI 8)) (nI 4)) (nI 1)))) else (((nI 17) - (ush32 (ush32 (ush32 (ush32 x (nI 8)) (nI 4)) (nI 2)) (nI 1))))))) else (if (ush32 x (nI 16)) < (nI 256) then (if (ush32 x (nI 16)) < (nI 16) then (if (ush32 x (nI 16)) < (nI 4) then (((nI 15) - (ush32 (ush32 x (nI 16)) (nI 1)))) else (((nI 13) - (ush32 (ush32 (ush32 x (nI 16)) (nI 2)) (nI 1))))) else (if (ush32 (ush32 x (nI 16)) (nI 4)) < (nI 4) then (((nI 11) - (ush32 (ush32 (ush32 x (nI 16)) (nI 4)) (nI 1)))) else (((nI 9) - (ush32 (ush32 (ush32 (ush32 x (nI 16)) (nI 4)) (nI 2)) (nI 1)))))) else (if (ush32 (ush32 x (nI 16)) (nI 8)) < (nI 16) then (if (ush32 (ush32 x (nI 16)) (nI 8)) < (nI 4) then (((nI 7) - (ush32 (ush32 (ush32 x (nI 16)) (nI 8)) (nI 1)))) else (((nI 5) - (ush32 (ush32 (ush32 (ush32 x (nI 16)) (nI 8)) (nI 2)) (nI 1))))) else (if (ush32 (ush32 (ush32 x (nI 16)) (nI 8)) (nI 4)) < (nI 4) then (((nI 3) - (ush32 (ush32 (ush32 (ush32 x (nI 16)) (nI 8)) (nI 4)) (nI 1)))) else (((nI 1) - (ush32 (ush32 (ush32 (ush32 (ush32 x (nI 16)) (nI 8)) (nI 4)) (nI 2)) (nI 1)))))))) else (if x = 0 then ((nI 32)) else ((nI 0)))
abbrev rJ6_numberOfLeadingZeros_0f7a4 : Room := { frames := 0, cells := 0, slots := 0, locals := 0 }
set_option maxHeartbeats 4000000 in
set_option maxRecDepth 100000 in
theorem mJ6_numberOfLeadingZeros_0f7a4 (l : Launch) (G : gG) (B0 : Nat) (w : va_W) (x : Int32) : Met l yJ6_numberOfLeadingZeros_0f7a4 (Cond.code yJ6_numberOfLeadingZeros_0f7a4 cJ6_numberOfLeadingZeros_0f7a4 2 (some .int) :: WG) rJ6_numberOfLeadingZeros_0f7a4 (va_Pc [.int x] (PR G B0 (w))) (va_Qi (fun (r : Int32) (_ : Unit) => r = nlzF x) (fun (_ : Unit) (t_ : State) => va_P G.1 vwCl (w) t_.heap ∧ va_D (fun q => B0 ≤ q) (w)) (fun q => B0 ≤ q)) rJ6_numberOfLeadingZeros_0f7a4.cells rJ6_numberOfLeadingZeros_0f7a4.slots (fun q => B0 ≤ q) := by
  refine met_of RJ6 [(0, .int x)] rfl (by decide) (Nat.le_of_ble_eq_true rfl) rfl ?_
  intro p e s m args below meth c C hr hnm
  refine yq ?_
  intro QQ hQ
  refine yy_iload_n C 0 dJ6_numberOfLeadingZeros_0f7a4_0 (pc' := 1) rfl rfl rfl ?_
  refine yy_if_gt C dJ6_numberOfLeadingZeros_0f7a4_1 (pc' := 4) rfl (tgt := 15) (by decide) (fun c_1 => ?_) (fun c_1 => ?_)
  · skip
    refine yy_bipush C (v := (nI 31)) dJ6_numberOfLeadingZeros_0f7a4_15 (pc' := 17) rfl (by decide) ?_
    refine yy_istore_n C (L' := [(1, .int (nI 31)), (0, .int x)]) dJ6_numberOfLeadingZeros_0f7a4_17 (pc' := 18) rfl rfl (by decide) rfl ?_
    refine yy_iload_n C 1 dJ6_numberOfLeadingZeros_0f7a4_18 (pc' := 19) rfl rfl rfl ?_
    refine yy_ldcw C (v := (nI 65536)) dJ6_numberOfLeadingZeros_0f7a4_19 (pc' := 22) rfl li_J6_264 ?_
    refine yy_icmp_lt C dJ6_numberOfLeadingZeros_0f7a4_22 (pc' := 25) rfl (tgt := 33) (by decide) (fun c_22 => ?_) (fun c_22 => ?_)
    · skip
      refine yy_iload_n C 1 dJ6_numberOfLeadingZeros_0f7a4_33 (pc' := 34) rfl rfl rfl ?_
      refine yy_sipush C (v := (nI 256)) dJ6_numberOfLeadingZeros_0f7a4_34 (pc' := 37) rfl (by decide) ?_
      refine yy_icmp_lt C dJ6_numberOfLeadingZeros_0f7a4_37 (pc' := 40) rfl (tgt := 48) (by decide) (fun c_37 => ?_) (fun c_37 => ?_)
      · skip
        refine yy_iload_n C 1 dJ6_numberOfLeadingZeros_0f7a4_48 (pc' := 49) rfl rfl rfl ?_
        refine yy_bipush C (v := (nI 16)) dJ6_numberOfLeadingZeros_0f7a4_49 (pc' := 51) rfl (by decide) ?_
        refine yy_icmp_lt C dJ6_numberOfLeadingZeros_0f7a4_51 (pc' := 54) rfl (tgt := 61) (by decide) (fun c_51 => ?_) (fun c_51 => ?_)
        · skip
          refine yy_iload_n C 1 dJ6_numberOfLeadingZeros_0f7a4_61 (pc' := 62) rfl rfl rfl ?_
          refine yy_iconst C (v := (nI 4)) dJ6_numberOfLeadingZeros_0f7a4_62 (pc' := 63) rfl (by decide) ?_
          refine yy_icmp_lt C dJ6_numberOfLeadingZeros_0f7a4_63 (pc' := 66) rfl (tgt := 73) (by decide) (fun c_63 => ?_) (fun c_63 => ?_)
          · skip
            refine yy_iload_n C 0 dJ6_numberOfLeadingZeros_0f7a4_73 (pc' := 74) rfl rfl rfl ?_
            refine yy_iload_n C 1 dJ6_numberOfLeadingZeros_0f7a4_74 (pc' := 75) rfl rfl rfl ?_
            refine yy_iconst C (v := (nI 1)) dJ6_numberOfLeadingZeros_0f7a4_75 (pc' := 76) rfl (by decide) ?_
            refine yy_iushr C (v := (ush32 x (nI 1))) dJ6_numberOfLeadingZeros_0f7a4_76 (pc' := 77) rfl rfl ?_
            refine yy_isub C (v := ((nI 31) - (ush32 x (nI 1)))) dJ6_numberOfLeadingZeros_0f7a4_77 (pc' := 78) rfl rfl ?_
            subst hQ
            exact ye_i C hr (vp_nar_int _) () dJ6_numberOfLeadingZeros_0f7a4_78 rfl (by decide) (by decide) (by unfold nlzF; rw [if_pos c_1, if_pos c_22, if_pos c_37, if_pos c_51, if_pos c_63])
          · skip
            refine yy_iinc C (v := (nI 29)) (L' := [(1, .int (nI 29)), (0, .int x)]) 0 dJ6_numberOfLeadingZeros_0f7a4_66 (pc' := 69) rfl rfl (by decide) (by decide) rfl ?_
            refine yy_iload_n C 1 dJ6_numberOfLeadingZeros_0f7a4_69 (pc' := 70) rfl rfl rfl ?_
            refine yy_iconst C (v := (nI 2)) dJ6_numberOfLeadingZeros_0f7a4_70 (pc' := 71) rfl (by decide) ?_
            refine yy_iushr C (v := (ush32 x (nI 2))) dJ6_numberOfLeadingZeros_0f7a4_71 (pc' := 72) rfl rfl ?_
            refine yy_istore_n C (L' := [(0, .int (ush32 x (nI 2))), (1, .int (nI 29))]) dJ6_numberOfLeadingZeros_0f7a4_72 (pc' := 73) rfl rfl (by decide) rfl ?_
            refine yy_iload_n C 1 dJ6_numberOfLeadingZeros_0f7a4_73 (pc' := 74) rfl rfl rfl ?_
            refine yy_iload_n C 0 dJ6_numberOfLeadingZeros_0f7a4_74 (pc' := 75) rfl rfl rfl ?_
            refine yy_iconst C (v := (nI 1)) dJ6_numberOfLeadingZeros_0f7a4_75 (pc' := 76) rfl (by decide) ?_
            refine yy_iushr C (v := (ush32 (ush32 x (nI 2)) (nI 1))) dJ6_numberOfLeadingZeros_0f7a4_76 (pc' := 77) rfl rfl ?_
            refine yy_isub C (v := ((nI 29) - (ush32 (ush32 x (nI 2)) (nI 1)))) dJ6_numberOfLeadingZeros_0f7a4_77 (pc' := 78) rfl rfl ?_
            subst hQ
            exact ye_i C hr (vp_nar_int _) () dJ6_numberOfLeadingZeros_0f7a4_78 rfl (by decide) (by decide) (by unfold nlzF; rw [if_pos c_1, if_pos c_22, if_pos c_37, if_pos c_51, if_neg c_63])
        · skip
          refine yy_iinc C (v := (nI 27)) (L' := [(1, .int (nI 27)), (0, .int x)]) 0 dJ6_numberOfLeadingZeros_0f7a4_54 (pc' := 57) rfl rfl (by decide) (by decide) rfl ?_
          refine yy_iload_n C 1 dJ6_numberOfLeadingZeros_0f7a4_57 (pc' := 58) rfl rfl rfl ?_
          refine yy_iconst C (v := (nI 4)) dJ6_numberOfLeadingZeros_0f7a4_58 (pc' := 59) rfl (by decide) ?_
          refine yy_iushr C (v := (ush32 x (nI 4))) dJ6_numberOfLeadingZeros_0f7a4_59 (pc' := 60) rfl rfl ?_
          refine yy_istore_n C (L' := [(0, .int (ush32 x (nI 4))), (1, .int (nI 27))]) dJ6_numberOfLeadingZeros_0f7a4_60 (pc' := 61) rfl rfl (by decide) rfl ?_
          refine yy_iload_n C 0 dJ6_numberOfLeadingZeros_0f7a4_61 (pc' := 62) rfl rfl rfl ?_
          refine yy_iconst C (v := (nI 4)) dJ6_numberOfLeadingZeros_0f7a4_62 (pc' := 63) rfl (by decide) ?_
          refine yy_icmp_lt C dJ6_numberOfLeadingZeros_0f7a4_63 (pc' := 66) rfl (tgt := 73) (by decide) (fun c_63 => ?_) (fun c_63 => ?_)
          · skip
            refine yy_iload_n C 1 dJ6_numberOfLeadingZeros_0f7a4_73 (pc' := 74) rfl rfl rfl ?_
            refine yy_iload_n C 0 dJ6_numberOfLeadingZeros_0f7a4_74 (pc' := 75) rfl rfl rfl ?_
            refine yy_iconst C (v := (nI 1)) dJ6_numberOfLeadingZeros_0f7a4_75 (pc' := 76) rfl (by decide) ?_
            refine yy_iushr C (v := (ush32 (ush32 x (nI 4)) (nI 1))) dJ6_numberOfLeadingZeros_0f7a4_76 (pc' := 77) rfl rfl ?_
            refine yy_isub C (v := ((nI 27) - (ush32 (ush32 x (nI 4)) (nI 1)))) dJ6_numberOfLeadingZeros_0f7a4_77 (pc' := 78) rfl rfl ?_
            subst hQ
            exact ye_i C hr (vp_nar_int _) () dJ6_numberOfLeadingZeros_0f7a4_78 rfl (by decide) (by decide) (by unfold nlzF; rw [if_pos c_1, if_pos c_22, if_pos c_37, if_neg c_51, if_pos c_63])
          · skip
            refine yy_iinc C (v := (nI 25)) (L' := [(1, .int (nI 25)), (0, .int (ush32 x (nI 4)))]) 1 dJ6_numberOfLeadingZeros_0f7a4_66 (pc' := 69) rfl rfl (by decide) (by decide) rfl ?_
            refine yy_iload_n C 1 dJ6_numberOfLeadingZeros_0f7a4_69 (pc' := 70) rfl rfl rfl ?_
            refine yy_iconst C (v := (nI 2)) dJ6_numberOfLeadingZeros_0f7a4_70 (pc' := 71) rfl (by decide) ?_
            refine yy_iushr C (v := (ush32 (ush32 x (nI 4)) (nI 2))) dJ6_numberOfLeadingZeros_0f7a4_71 (pc' := 72) rfl rfl ?_
            refine yy_istore_n C (L' := [(0, .int (ush32 (ush32 x (nI 4)) (nI 2))), (1, .int (nI 25))]) dJ6_numberOfLeadingZeros_0f7a4_72 (pc' := 73) rfl rfl (by decide) rfl ?_
            refine yy_iload_n C 1 dJ6_numberOfLeadingZeros_0f7a4_73 (pc' := 74) rfl rfl rfl ?_
            refine yy_iload_n C 0 dJ6_numberOfLeadingZeros_0f7a4_74 (pc' := 75) rfl rfl rfl ?_
            refine yy_iconst C (v := (nI 1)) dJ6_numberOfLeadingZeros_0f7a4_75 (pc' := 76) rfl (by decide) ?_
            refine yy_iushr C (v := (ush32 (ush32 (ush32 x (nI 4)) (nI 2)) (nI 1))) dJ6_numberOfLeadingZeros_0f7a4_76 (pc' := 77) rfl rfl ?_
            refine yy_isub C (v := ((nI 25) - (ush32 (ush32 (ush32 x (nI 4)) (nI 2)) (nI 1)))) dJ6_numberOfLeadingZeros_0f7a4_77 (pc' := 78) rfl rfl ?_
            subst hQ
            exact ye_i C hr (vp_nar_int _) () dJ6_numberOfLeadingZeros_0f7a4_78 rfl (by decide) (by decide) (by unfold nlzF; rw [if_pos c_1, if_pos c_22, if_pos c_37, if_neg c_51, if_neg c_63])
      · skip
        refine yy_iinc C (v := (nI 23)) (L' := [(1, .int (nI 23)), (0, .int x)]) 0 dJ6_numberOfLeadingZeros_0f7a4_40 (pc' := 43) rfl rfl (by decide) (by decide) rfl ?_
        refine yy_iload_n C 1 dJ6_numberOfLeadingZeros_0f7a4_43 (pc' := 44) rfl rfl rfl ?_
        refine yy_bipush C (v := (nI 8)) dJ6_numberOfLeadingZeros_0f7a4_44 (pc' := 46) rfl (by decide) ?_
        refine yy_iushr C (v := (ush32 x (nI 8))) dJ6_numberOfLeadingZeros_0f7a4_46 (pc' := 47) rfl rfl ?_
        refine yy_istore_n C (L' := [(0, .int (ush32 x (nI 8))), (1, .int (nI 23))]) dJ6_numberOfLeadingZeros_0f7a4_47 (pc' := 48) rfl rfl (by decide) rfl ?_
        refine yy_iload_n C 0 dJ6_numberOfLeadingZeros_0f7a4_48 (pc' := 49) rfl rfl rfl ?_
        refine yy_bipush C (v := (nI 16)) dJ6_numberOfLeadingZeros_0f7a4_49 (pc' := 51) rfl (by decide) ?_
        refine yy_icmp_lt C dJ6_numberOfLeadingZeros_0f7a4_51 (pc' := 54) rfl (tgt := 61) (by decide) (fun c_51 => ?_) (fun c_51 => ?_)
        · skip
          refine yy_iload_n C 0 dJ6_numberOfLeadingZeros_0f7a4_61 (pc' := 62) rfl rfl rfl ?_
          refine yy_iconst C (v := (nI 4)) dJ6_numberOfLeadingZeros_0f7a4_62 (pc' := 63) rfl (by decide) ?_
          refine yy_icmp_lt C dJ6_numberOfLeadingZeros_0f7a4_63 (pc' := 66) rfl (tgt := 73) (by decide) (fun c_63 => ?_) (fun c_63 => ?_)
          · skip
            refine yy_iload_n C 1 dJ6_numberOfLeadingZeros_0f7a4_73 (pc' := 74) rfl rfl rfl ?_
            refine yy_iload_n C 0 dJ6_numberOfLeadingZeros_0f7a4_74 (pc' := 75) rfl rfl rfl ?_
            refine yy_iconst C (v := (nI 1)) dJ6_numberOfLeadingZeros_0f7a4_75 (pc' := 76) rfl (by decide) ?_
            refine yy_iushr C (v := (ush32 (ush32 x (nI 8)) (nI 1))) dJ6_numberOfLeadingZeros_0f7a4_76 (pc' := 77) rfl rfl ?_
            refine yy_isub C (v := ((nI 23) - (ush32 (ush32 x (nI 8)) (nI 1)))) dJ6_numberOfLeadingZeros_0f7a4_77 (pc' := 78) rfl rfl ?_
            subst hQ
            exact ye_i C hr (vp_nar_int _) () dJ6_numberOfLeadingZeros_0f7a4_78 rfl (by decide) (by decide) (by unfold nlzF; rw [if_pos c_1, if_pos c_22, if_neg c_37, if_pos c_51, if_pos c_63])
          · skip
            refine yy_iinc C (v := (nI 21)) (L' := [(1, .int (nI 21)), (0, .int (ush32 x (nI 8)))]) 1 dJ6_numberOfLeadingZeros_0f7a4_66 (pc' := 69) rfl rfl (by decide) (by decide) rfl ?_
            refine yy_iload_n C 1 dJ6_numberOfLeadingZeros_0f7a4_69 (pc' := 70) rfl rfl rfl ?_
            refine yy_iconst C (v := (nI 2)) dJ6_numberOfLeadingZeros_0f7a4_70 (pc' := 71) rfl (by decide) ?_
            refine yy_iushr C (v := (ush32 (ush32 x (nI 8)) (nI 2))) dJ6_numberOfLeadingZeros_0f7a4_71 (pc' := 72) rfl rfl ?_
            refine yy_istore_n C (L' := [(0, .int (ush32 (ush32 x (nI 8)) (nI 2))), (1, .int (nI 21))]) dJ6_numberOfLeadingZeros_0f7a4_72 (pc' := 73) rfl rfl (by decide) rfl ?_
            refine yy_iload_n C 1 dJ6_numberOfLeadingZeros_0f7a4_73 (pc' := 74) rfl rfl rfl ?_
            refine yy_iload_n C 0 dJ6_numberOfLeadingZeros_0f7a4_74 (pc' := 75) rfl rfl rfl ?_
            refine yy_iconst C (v := (nI 1)) dJ6_numberOfLeadingZeros_0f7a4_75 (pc' := 76) rfl (by decide) ?_
            refine yy_iushr C (v := (ush32 (ush32 (ush32 x (nI 8)) (nI 2)) (nI 1))) dJ6_numberOfLeadingZeros_0f7a4_76 (pc' := 77) rfl rfl ?_
            refine yy_isub C (v := ((nI 21) - (ush32 (ush32 (ush32 x (nI 8)) (nI 2)) (nI 1)))) dJ6_numberOfLeadingZeros_0f7a4_77 (pc' := 78) rfl rfl ?_
            subst hQ
            exact ye_i C hr (vp_nar_int _) () dJ6_numberOfLeadingZeros_0f7a4_78 rfl (by decide) (by decide) (by unfold nlzF; rw [if_pos c_1, if_pos c_22, if_neg c_37, if_pos c_51, if_neg c_63])
        · skip
          refine yy_iinc C (v := (nI 19)) (L' := [(1, .int (nI 19)), (0, .int (ush32 x (nI 8)))]) 1 dJ6_numberOfLeadingZeros_0f7a4_54 (pc' := 57) rfl rfl (by decide) (by decide) rfl ?_
          refine yy_iload_n C 1 dJ6_numberOfLeadingZeros_0f7a4_57 (pc' := 58) rfl rfl rfl ?_
          refine yy_iconst C (v := (nI 4)) dJ6_numberOfLeadingZeros_0f7a4_58 (pc' := 59) rfl (by decide) ?_
          refine yy_iushr C (v := (ush32 (ush32 x (nI 8)) (nI 4))) dJ6_numberOfLeadingZeros_0f7a4_59 (pc' := 60) rfl rfl ?_
          refine yy_istore_n C (L' := [(0, .int (ush32 (ush32 x (nI 8)) (nI 4))), (1, .int (nI 19))]) dJ6_numberOfLeadingZeros_0f7a4_60 (pc' := 61) rfl rfl (by decide) rfl ?_
          refine yy_iload_n C 0 dJ6_numberOfLeadingZeros_0f7a4_61 (pc' := 62) rfl rfl rfl ?_
          refine yy_iconst C (v := (nI 4)) dJ6_numberOfLeadingZeros_0f7a4_62 (pc' := 63) rfl (by decide) ?_
          refine yy_icmp_lt C dJ6_numberOfLeadingZeros_0f7a4_63 (pc' := 66) rfl (tgt := 73) (by decide) (fun c_63 => ?_) (fun c_63 => ?_)
          · skip
            refine yy_iload_n C 1 dJ6_numberOfLeadingZeros_0f7a4_73 (pc' := 74) rfl rfl rfl ?_
            refine yy_iload_n C 0 dJ6_numberOfLeadingZeros_0f7a4_74 (pc' := 75) rfl rfl rfl ?_
            refine yy_iconst C (v := (nI 1)) dJ6_numberOfLeadingZeros_0f7a4_75 (pc' := 76) rfl (by decide) ?_
            refine yy_iushr C (v := (ush32 (ush32 (ush32 x (nI 8)) (nI 4)) (nI 1))) dJ6_numberOfLeadingZeros_0f7a4_76 (pc' := 77) rfl rfl ?_
            refine yy_isub C (v := ((nI 19) - (ush32 (ush32 (ush32 x (nI 8)) (nI 4)) (nI 1)))) dJ6_numberOfLeadingZeros_0f7a4_77 (pc' := 78) rfl rfl ?_
            subst hQ
            exact ye_i C hr (vp_nar_int _) () dJ6_numberOfLeadingZeros_0f7a4_78 rfl (by decide) (by decide) (by unfold nlzF; rw [if_pos c_1, if_pos c_22, if_neg c_37, if_neg c_51, if_pos c_63])
          · skip
            refine yy_iinc C (v := (nI 17)) (L' := [(1, .int (nI 17)), (0, .int (ush32 (ush32 x (nI 8)) (nI 4)))]) 1 dJ6_numberOfLeadingZeros_0f7a4_66 (pc' := 69) rfl rfl (by decide) (by decide) rfl ?_
            refine yy_iload_n C 1 dJ6_numberOfLeadingZeros_0f7a4_69 (pc' := 70) rfl rfl rfl ?_
            refine yy_iconst C (v := (nI 2)) dJ6_numberOfLeadingZeros_0f7a4_70 (pc' := 71) rfl (by decide) ?_
            refine yy_iushr C (v := (ush32 (ush32 (ush32 x (nI 8)) (nI 4)) (nI 2))) dJ6_numberOfLeadingZeros_0f7a4_71 (pc' := 72) rfl rfl ?_
            refine yy_istore_n C (L' := [(0, .int (ush32 (ush32 (ush32 x (nI 8)) (nI 4)) (nI 2))), (1, .int (nI 17))]) dJ6_numberOfLeadingZeros_0f7a4_72 (pc' := 73) rfl rfl (by decide) rfl ?_
            refine yy_iload_n C 1 dJ6_numberOfLeadingZeros_0f7a4_73 (pc' := 74) rfl rfl rfl ?_
            refine yy_iload_n C 0 dJ6_numberOfLeadingZeros_0f7a4_74 (pc' := 75) rfl rfl rfl ?_
            refine yy_iconst C (v := (nI 1)) dJ6_numberOfLeadingZeros_0f7a4_75 (pc' := 76) rfl (by decide) ?_
            refine yy_iushr C (v := (ush32 (ush32 (ush32 (ush32 x (nI 8)) (nI 4)) (nI 2)) (nI 1))) dJ6_numberOfLeadingZeros_0f7a4_76 (pc' := 77) rfl rfl ?_
            refine yy_isub C (v := ((nI 17) - (ush32 (ush32 (ush32 (ush32 x (nI 8)) (nI 4)) (nI 2)) (nI 1)))) dJ6_numberOfLeadingZeros_0f7a4_77 (pc' := 78) rfl rfl ?_
            subst hQ
            exact ye_i C hr (vp_nar_int _) () dJ6_numberOfLeadingZeros_0f7a4_78 rfl (by decide) (by decide) (by unfold nlzF; rw [if_pos c_1, if_pos c_22, if_neg c_37, if_neg c_51, if_neg c_63])
    · skip
      refine yy_iinc C (v := (nI 15)) (L' := [(1, .int (nI 15)), (0, .int x)]) 0 dJ6_numberOfLeadingZeros_0f7a4_25 (pc' := 28) rfl rfl (by decide) (by decide) rfl ?_
      refine yy_iload_n C 1 dJ6_numberOfLeadingZeros_0f7a4_28 (pc' := 29) rfl rfl rfl ?_
      refine yy_bipush C (v := (nI 16)) dJ6_numberOfLeadingZeros_0f7a4_29 (pc' := 31) rfl (by decide) ?_
      refine yy_iushr C (v := (ush32 x (nI 16))) dJ6_numberOfLeadingZeros_0f7a4_31 (pc' := 32) rfl rfl ?_
      refine yy_istore_n C (L' := [(0, .int (ush32 x (nI 16))), (1, .int (nI 15))]) dJ6_numberOfLeadingZeros_0f7a4_32 (pc' := 33) rfl rfl (by decide) rfl ?_
      refine yy_iload_n C 0 dJ6_numberOfLeadingZeros_0f7a4_33 (pc' := 34) rfl rfl rfl ?_
      refine yy_sipush C (v := (nI 256)) dJ6_numberOfLeadingZeros_0f7a4_34 (pc' := 37) rfl (by decide) ?_
      refine yy_icmp_lt C dJ6_numberOfLeadingZeros_0f7a4_37 (pc' := 40) rfl (tgt := 48) (by decide) (fun c_37 => ?_) (fun c_37 => ?_)
      · skip
        refine yy_iload_n C 0 dJ6_numberOfLeadingZeros_0f7a4_48 (pc' := 49) rfl rfl rfl ?_
        refine yy_bipush C (v := (nI 16)) dJ6_numberOfLeadingZeros_0f7a4_49 (pc' := 51) rfl (by decide) ?_
        refine yy_icmp_lt C dJ6_numberOfLeadingZeros_0f7a4_51 (pc' := 54) rfl (tgt := 61) (by decide) (fun c_51 => ?_) (fun c_51 => ?_)
        · skip
          refine yy_iload_n C 0 dJ6_numberOfLeadingZeros_0f7a4_61 (pc' := 62) rfl rfl rfl ?_
          refine yy_iconst C (v := (nI 4)) dJ6_numberOfLeadingZeros_0f7a4_62 (pc' := 63) rfl (by decide) ?_
          refine yy_icmp_lt C dJ6_numberOfLeadingZeros_0f7a4_63 (pc' := 66) rfl (tgt := 73) (by decide) (fun c_63 => ?_) (fun c_63 => ?_)
          · skip
            refine yy_iload_n C 1 dJ6_numberOfLeadingZeros_0f7a4_73 (pc' := 74) rfl rfl rfl ?_
            refine yy_iload_n C 0 dJ6_numberOfLeadingZeros_0f7a4_74 (pc' := 75) rfl rfl rfl ?_
            refine yy_iconst C (v := (nI 1)) dJ6_numberOfLeadingZeros_0f7a4_75 (pc' := 76) rfl (by decide) ?_
            refine yy_iushr C (v := (ush32 (ush32 x (nI 16)) (nI 1))) dJ6_numberOfLeadingZeros_0f7a4_76 (pc' := 77) rfl rfl ?_
            refine yy_isub C (v := ((nI 15) - (ush32 (ush32 x (nI 16)) (nI 1)))) dJ6_numberOfLeadingZeros_0f7a4_77 (pc' := 78) rfl rfl ?_
            subst hQ
            exact ye_i C hr (vp_nar_int _) () dJ6_numberOfLeadingZeros_0f7a4_78 rfl (by decide) (by decide) (by unfold nlzF; rw [if_pos c_1, if_neg c_22, if_pos c_37, if_pos c_51, if_pos c_63])
          · skip
            refine yy_iinc C (v := (nI 13)) (L' := [(1, .int (nI 13)), (0, .int (ush32 x (nI 16)))]) 1 dJ6_numberOfLeadingZeros_0f7a4_66 (pc' := 69) rfl rfl (by decide) (by decide) rfl ?_
            refine yy_iload_n C 1 dJ6_numberOfLeadingZeros_0f7a4_69 (pc' := 70) rfl rfl rfl ?_
            refine yy_iconst C (v := (nI 2)) dJ6_numberOfLeadingZeros_0f7a4_70 (pc' := 71) rfl (by decide) ?_
            refine yy_iushr C (v := (ush32 (ush32 x (nI 16)) (nI 2))) dJ6_numberOfLeadingZeros_0f7a4_71 (pc' := 72) rfl rfl ?_
            refine yy_istore_n C (L' := [(0, .int (ush32 (ush32 x (nI 16)) (nI 2))), (1, .int (nI 13))]) dJ6_numberOfLeadingZeros_0f7a4_72 (pc' := 73) rfl rfl (by decide) rfl ?_
            refine yy_iload_n C 1 dJ6_numberOfLeadingZeros_0f7a4_73 (pc' := 74) rfl rfl rfl ?_
            refine yy_iload_n C 0 dJ6_numberOfLeadingZeros_0f7a4_74 (pc' := 75) rfl rfl rfl ?_
            refine yy_iconst C (v := (nI 1)) dJ6_numberOfLeadingZeros_0f7a4_75 (pc' := 76) rfl (by decide) ?_
            refine yy_iushr C (v := (ush32 (ush32 (ush32 x (nI 16)) (nI 2)) (nI 1))) dJ6_numberOfLeadingZeros_0f7a4_76 (pc' := 77) rfl rfl ?_
            refine yy_isub C (v := ((nI 13) - (ush32 (ush32 (ush32 x (nI 16)) (nI 2)) (nI 1)))) dJ6_numberOfLeadingZeros_0f7a4_77 (pc' := 78) rfl rfl ?_
            subst hQ
            exact ye_i C hr (vp_nar_int _) () dJ6_numberOfLeadingZeros_0f7a4_78 rfl (by decide) (by decide) (by unfold nlzF; rw [if_pos c_1, if_neg c_22, if_pos c_37, if_pos c_51, if_neg c_63])
        · skip
          refine yy_iinc C (v := (nI 11)) (L' := [(1, .int (nI 11)), (0, .int (ush32 x (nI 16)))]) 1 dJ6_numberOfLeadingZeros_0f7a4_54 (pc' := 57) rfl rfl (by decide) (by decide) rfl ?_
          refine yy_iload_n C 1 dJ6_numberOfLeadingZeros_0f7a4_57 (pc' := 58) rfl rfl rfl ?_
          refine yy_iconst C (v := (nI 4)) dJ6_numberOfLeadingZeros_0f7a4_58 (pc' := 59) rfl (by decide) ?_
          refine yy_iushr C (v := (ush32 (ush32 x (nI 16)) (nI 4))) dJ6_numberOfLeadingZeros_0f7a4_59 (pc' := 60) rfl rfl ?_
          refine yy_istore_n C (L' := [(0, .int (ush32 (ush32 x (nI 16)) (nI 4))), (1, .int (nI 11))]) dJ6_numberOfLeadingZeros_0f7a4_60 (pc' := 61) rfl rfl (by decide) rfl ?_
          refine yy_iload_n C 0 dJ6_numberOfLeadingZeros_0f7a4_61 (pc' := 62) rfl rfl rfl ?_
          refine yy_iconst C (v := (nI 4)) dJ6_numberOfLeadingZeros_0f7a4_62 (pc' := 63) rfl (by decide) ?_
          refine yy_icmp_lt C dJ6_numberOfLeadingZeros_0f7a4_63 (pc' := 66) rfl (tgt := 73) (by decide) (fun c_63 => ?_) (fun c_63 => ?_)
          · skip
            refine yy_iload_n C 1 dJ6_numberOfLeadingZeros_0f7a4_73 (pc' := 74) rfl rfl rfl ?_
            refine yy_iload_n C 0 dJ6_numberOfLeadingZeros_0f7a4_74 (pc' := 75) rfl rfl rfl ?_
            refine yy_iconst C (v := (nI 1)) dJ6_numberOfLeadingZeros_0f7a4_75 (pc' := 76) rfl (by decide) ?_
            refine yy_iushr C (v := (ush32 (ush32 (ush32 x (nI 16)) (nI 4)) (nI 1))) dJ6_numberOfLeadingZeros_0f7a4_76 (pc' := 77) rfl rfl ?_
            refine yy_isub C (v := ((nI 11) - (ush32 (ush32 (ush32 x (nI 16)) (nI 4)) (nI 1)))) dJ6_numberOfLeadingZeros_0f7a4_77 (pc' := 78) rfl rfl ?_
            subst hQ
            exact ye_i C hr (vp_nar_int _) () dJ6_numberOfLeadingZeros_0f7a4_78 rfl (by decide) (by decide) (by unfold nlzF; rw [if_pos c_1, if_neg c_22, if_pos c_37, if_neg c_51, if_pos c_63])
          · skip
            refine yy_iinc C (v := (nI 9)) (L' := [(1, .int (nI 9)), (0, .int (ush32 (ush32 x (nI 16)) (nI 4)))]) 1 dJ6_numberOfLeadingZeros_0f7a4_66 (pc' := 69) rfl rfl (by decide) (by decide) rfl ?_
            refine yy_iload_n C 1 dJ6_numberOfLeadingZeros_0f7a4_69 (pc' := 70) rfl rfl rfl ?_
            refine yy_iconst C (v := (nI 2)) dJ6_numberOfLeadingZeros_0f7a4_70 (pc' := 71) rfl (by decide) ?_
            refine yy_iushr C (v := (ush32 (ush32 (ush32 x (nI 16)) (nI 4)) (nI 2))) dJ6_numberOfLeadingZeros_0f7a4_71 (pc' := 72) rfl rfl ?_
            refine yy_istore_n C (L' := [(0, .int (ush32 (ush32 (ush32 x (nI 16)) (nI 4)) (nI 2))), (1, .int (nI 9))]) dJ6_numberOfLeadingZeros_0f7a4_72 (pc' := 73) rfl rfl (by decide) rfl ?_
            refine yy_iload_n C 1 dJ6_numberOfLeadingZeros_0f7a4_73 (pc' := 74) rfl rfl rfl ?_
            refine yy_iload_n C 0 dJ6_numberOfLeadingZeros_0f7a4_74 (pc' := 75) rfl rfl rfl ?_
            refine yy_iconst C (v := (nI 1)) dJ6_numberOfLeadingZeros_0f7a4_75 (pc' := 76) rfl (by decide) ?_
            refine yy_iushr C (v := (ush32 (ush32 (ush32 (ush32 x (nI 16)) (nI 4)) (nI 2)) (nI 1))) dJ6_numberOfLeadingZeros_0f7a4_76 (pc' := 77) rfl rfl ?_
            refine yy_isub C (v := ((nI 9) - (ush32 (ush32 (ush32 (ush32 x (nI 16)) (nI 4)) (nI 2)) (nI 1)))) dJ6_numberOfLeadingZeros_0f7a4_77 (pc' := 78) rfl rfl ?_
            subst hQ
            exact ye_i C hr (vp_nar_int _) () dJ6_numberOfLeadingZeros_0f7a4_78 rfl (by decide) (by decide) (by unfold nlzF; rw [if_pos c_1, if_neg c_22, if_pos c_37, if_neg c_51, if_neg c_63])
      · skip
        refine yy_iinc C (v := (nI 7)) (L' := [(1, .int (nI 7)), (0, .int (ush32 x (nI 16)))]) 1 dJ6_numberOfLeadingZeros_0f7a4_40 (pc' := 43) rfl rfl (by decide) (by decide) rfl ?_
        refine yy_iload_n C 1 dJ6_numberOfLeadingZeros_0f7a4_43 (pc' := 44) rfl rfl rfl ?_
        refine yy_bipush C (v := (nI 8)) dJ6_numberOfLeadingZeros_0f7a4_44 (pc' := 46) rfl (by decide) ?_
        refine yy_iushr C (v := (ush32 (ush32 x (nI 16)) (nI 8))) dJ6_numberOfLeadingZeros_0f7a4_46 (pc' := 47) rfl rfl ?_
        refine yy_istore_n C (L' := [(0, .int (ush32 (ush32 x (nI 16)) (nI 8))), (1, .int (nI 7))]) dJ6_numberOfLeadingZeros_0f7a4_47 (pc' := 48) rfl rfl (by decide) rfl ?_
        refine yy_iload_n C 0 dJ6_numberOfLeadingZeros_0f7a4_48 (pc' := 49) rfl rfl rfl ?_
        refine yy_bipush C (v := (nI 16)) dJ6_numberOfLeadingZeros_0f7a4_49 (pc' := 51) rfl (by decide) ?_
        refine yy_icmp_lt C dJ6_numberOfLeadingZeros_0f7a4_51 (pc' := 54) rfl (tgt := 61) (by decide) (fun c_51 => ?_) (fun c_51 => ?_)
        · skip
          refine yy_iload_n C 0 dJ6_numberOfLeadingZeros_0f7a4_61 (pc' := 62) rfl rfl rfl ?_
          refine yy_iconst C (v := (nI 4)) dJ6_numberOfLeadingZeros_0f7a4_62 (pc' := 63) rfl (by decide) ?_
          refine yy_icmp_lt C dJ6_numberOfLeadingZeros_0f7a4_63 (pc' := 66) rfl (tgt := 73) (by decide) (fun c_63 => ?_) (fun c_63 => ?_)
          · skip
            refine yy_iload_n C 1 dJ6_numberOfLeadingZeros_0f7a4_73 (pc' := 74) rfl rfl rfl ?_
            refine yy_iload_n C 0 dJ6_numberOfLeadingZeros_0f7a4_74 (pc' := 75) rfl rfl rfl ?_
            refine yy_iconst C (v := (nI 1)) dJ6_numberOfLeadingZeros_0f7a4_75 (pc' := 76) rfl (by decide) ?_
            refine yy_iushr C (v := (ush32 (ush32 (ush32 x (nI 16)) (nI 8)) (nI 1))) dJ6_numberOfLeadingZeros_0f7a4_76 (pc' := 77) rfl rfl ?_
            refine yy_isub C (v := ((nI 7) - (ush32 (ush32 (ush32 x (nI 16)) (nI 8)) (nI 1)))) dJ6_numberOfLeadingZeros_0f7a4_77 (pc' := 78) rfl rfl ?_
            subst hQ
            exact ye_i C hr (vp_nar_int _) () dJ6_numberOfLeadingZeros_0f7a4_78 rfl (by decide) (by decide) (by unfold nlzF; rw [if_pos c_1, if_neg c_22, if_neg c_37, if_pos c_51, if_pos c_63])
          · skip
            refine yy_iinc C (v := (nI 5)) (L' := [(1, .int (nI 5)), (0, .int (ush32 (ush32 x (nI 16)) (nI 8)))]) 1 dJ6_numberOfLeadingZeros_0f7a4_66 (pc' := 69) rfl rfl (by decide) (by decide) rfl ?_
            refine yy_iload_n C 1 dJ6_numberOfLeadingZeros_0f7a4_69 (pc' := 70) rfl rfl rfl ?_
            refine yy_iconst C (v := (nI 2)) dJ6_numberOfLeadingZeros_0f7a4_70 (pc' := 71) rfl (by decide) ?_
            refine yy_iushr C (v := (ush32 (ush32 (ush32 x (nI 16)) (nI 8)) (nI 2))) dJ6_numberOfLeadingZeros_0f7a4_71 (pc' := 72) rfl rfl ?_
            refine yy_istore_n C (L' := [(0, .int (ush32 (ush32 (ush32 x (nI 16)) (nI 8)) (nI 2))), (1, .int (nI 5))]) dJ6_numberOfLeadingZeros_0f7a4_72 (pc' := 73) rfl rfl (by decide) rfl ?_
            refine yy_iload_n C 1 dJ6_numberOfLeadingZeros_0f7a4_73 (pc' := 74) rfl rfl rfl ?_
            refine yy_iload_n C 0 dJ6_numberOfLeadingZeros_0f7a4_74 (pc' := 75) rfl rfl rfl ?_
            refine yy_iconst C (v := (nI 1)) dJ6_numberOfLeadingZeros_0f7a4_75 (pc' := 76) rfl (by decide) ?_
            refine yy_iushr C (v := (ush32 (ush32 (ush32 (ush32 x (nI 16)) (nI 8)) (nI 2)) (nI 1))) dJ6_numberOfLeadingZeros_0f7a4_76 (pc' := 77) rfl rfl ?_
            refine yy_isub C (v := ((nI 5) - (ush32 (ush32 (ush32 (ush32 x (nI 16)) (nI 8)) (nI 2)) (nI 1)))) dJ6_numberOfLeadingZeros_0f7a4_77 (pc' := 78) rfl rfl ?_
            subst hQ
            exact ye_i C hr (vp_nar_int _) () dJ6_numberOfLeadingZeros_0f7a4_78 rfl (by decide) (by decide) (by unfold nlzF; rw [if_pos c_1, if_neg c_22, if_neg c_37, if_pos c_51, if_neg c_63])
        · skip
          refine yy_iinc C (v := (nI 3)) (L' := [(1, .int (nI 3)), (0, .int (ush32 (ush32 x (nI 16)) (nI 8)))]) 1 dJ6_numberOfLeadingZeros_0f7a4_54 (pc' := 57) rfl rfl (by decide) (by decide) rfl ?_
          refine yy_iload_n C 1 dJ6_numberOfLeadingZeros_0f7a4_57 (pc' := 58) rfl rfl rfl ?_
          refine yy_iconst C (v := (nI 4)) dJ6_numberOfLeadingZeros_0f7a4_58 (pc' := 59) rfl (by decide) ?_
          refine yy_iushr C (v := (ush32 (ush32 (ush32 x (nI 16)) (nI 8)) (nI 4))) dJ6_numberOfLeadingZeros_0f7a4_59 (pc' := 60) rfl rfl ?_
          refine yy_istore_n C (L' := [(0, .int (ush32 (ush32 (ush32 x (nI 16)) (nI 8)) (nI 4))), (1, .int (nI 3))]) dJ6_numberOfLeadingZeros_0f7a4_60 (pc' := 61) rfl rfl (by decide) rfl ?_
          refine yy_iload_n C 0 dJ6_numberOfLeadingZeros_0f7a4_61 (pc' := 62) rfl rfl rfl ?_
          refine yy_iconst C (v := (nI 4)) dJ6_numberOfLeadingZeros_0f7a4_62 (pc' := 63) rfl (by decide) ?_
          refine yy_icmp_lt C dJ6_numberOfLeadingZeros_0f7a4_63 (pc' := 66) rfl (tgt := 73) (by decide) (fun c_63 => ?_) (fun c_63 => ?_)
          · skip
            refine yy_iload_n C 1 dJ6_numberOfLeadingZeros_0f7a4_73 (pc' := 74) rfl rfl rfl ?_
            refine yy_iload_n C 0 dJ6_numberOfLeadingZeros_0f7a4_74 (pc' := 75) rfl rfl rfl ?_
            refine yy_iconst C (v := (nI 1)) dJ6_numberOfLeadingZeros_0f7a4_75 (pc' := 76) rfl (by decide) ?_
            refine yy_iushr C (v := (ush32 (ush32 (ush32 (ush32 x (nI 16)) (nI 8)) (nI 4)) (nI 1))) dJ6_numberOfLeadingZeros_0f7a4_76 (pc' := 77) rfl rfl ?_
            refine yy_isub C (v := ((nI 3) - (ush32 (ush32 (ush32 (ush32 x (nI 16)) (nI 8)) (nI 4)) (nI 1)))) dJ6_numberOfLeadingZeros_0f7a4_77 (pc' := 78) rfl rfl ?_
            subst hQ
            exact ye_i C hr (vp_nar_int _) () dJ6_numberOfLeadingZeros_0f7a4_78 rfl (by decide) (by decide) (by unfold nlzF; rw [if_pos c_1, if_neg c_22, if_neg c_37, if_neg c_51, if_pos c_63])
          · skip
            refine yy_iinc C (v := (nI 1)) (L' := [(1, .int (nI 1)), (0, .int (ush32 (ush32 (ush32 x (nI 16)) (nI 8)) (nI 4)))]) 1 dJ6_numberOfLeadingZeros_0f7a4_66 (pc' := 69) rfl rfl (by decide) (by decide) rfl ?_
            refine yy_iload_n C 1 dJ6_numberOfLeadingZeros_0f7a4_69 (pc' := 70) rfl rfl rfl ?_
            refine yy_iconst C (v := (nI 2)) dJ6_numberOfLeadingZeros_0f7a4_70 (pc' := 71) rfl (by decide) ?_
            refine yy_iushr C (v := (ush32 (ush32 (ush32 (ush32 x (nI 16)) (nI 8)) (nI 4)) (nI 2))) dJ6_numberOfLeadingZeros_0f7a4_71 (pc' := 72) rfl rfl ?_
            refine yy_istore_n C (L' := [(0, .int (ush32 (ush32 (ush32 (ush32 x (nI 16)) (nI 8)) (nI 4)) (nI 2))), (1, .int (nI 1))]) dJ6_numberOfLeadingZeros_0f7a4_72 (pc' := 73) rfl rfl (by decide) rfl ?_
            refine yy_iload_n C 1 dJ6_numberOfLeadingZeros_0f7a4_73 (pc' := 74) rfl rfl rfl ?_
            refine yy_iload_n C 0 dJ6_numberOfLeadingZeros_0f7a4_74 (pc' := 75) rfl rfl rfl ?_
            refine yy_iconst C (v := (nI 1)) dJ6_numberOfLeadingZeros_0f7a4_75 (pc' := 76) rfl (by decide) ?_
            refine yy_iushr C (v := (ush32 (ush32 (ush32 (ush32 (ush32 x (nI 16)) (nI 8)) (nI 4)) (nI 2)) (nI 1))) dJ6_numberOfLeadingZeros_0f7a4_76 (pc' := 77) rfl rfl ?_
            refine yy_isub C (v := ((nI 1) - (ush32 (ush32 (ush32 (ush32 (ush32 x (nI 16)) (nI 8)) (nI 4)) (nI 2)) (nI 1)))) dJ6_numberOfLeadingZeros_0f7a4_77 (pc' := 78) rfl rfl ?_
            subst hQ
            exact ye_i C hr (vp_nar_int _) () dJ6_numberOfLeadingZeros_0f7a4_78 rfl (by decide) (by decide) (by unfold nlzF; rw [if_pos c_1, if_neg c_22, if_neg c_37, if_neg c_51, if_neg c_63])
  · skip
    refine yy_iload_n C 0 dJ6_numberOfLeadingZeros_0f7a4_4 (pc' := 5) rfl rfl rfl ?_
    refine yy_if_ne C dJ6_numberOfLeadingZeros_0f7a4_5 (pc' := 8) rfl (tgt := 13) (by decide) (fun c_5 => ?_) (fun c_5 => ?_)
    · skip
      refine yy_iconst C (v := (nI 0)) dJ6_numberOfLeadingZeros_0f7a4_13 (pc' := 14) rfl (by decide) ?_
      subst hQ
      exact ye_i C hr (vp_nar_int _) () dJ6_numberOfLeadingZeros_0f7a4_14 rfl (by decide) (by decide) (by unfold nlzF; rw [if_neg c_1, if_neg c_5])
    · skip
      refine yy_bipush C (v := (nI 32)) dJ6_numberOfLeadingZeros_0f7a4_8 (pc' := 10) rfl (by decide) ?_
      refine yy_goto C (tgt := 14) dJ6_numberOfLeadingZeros_0f7a4_10 (by decide) ?_
      subst hQ
      exact ye_i C hr (vp_nar_int _) () dJ6_numberOfLeadingZeros_0f7a4_14 rfl (by decide) (by decide) (by unfold nlzF; rw [if_neg c_1, if_pos c_5])

abbrev rJx40b00_append_d00df : Room := { frames := 0, cells := 0, slots := 0, locals := 0 }
set_option maxHeartbeats 4000000 in
set_option maxRecDepth 100000 in
theorem mJx40b00_append_d00df (l : Launch) (G : gG) (B0 : Nat) (fd fb : Nat) (a : Nat → Int32) (iv : Int32) (k : Nat) (F : va_W) (x : Int32) (hiv : iv + nI 1 = nI k) (hk : k < 15) : Met l yJx40b00_append_d00df (Cond.code yJx40b00_append_d00df cJx40b00_append_d00df 2 none :: WG) rJx40b00_append_d00df (va_Pc [.ref (fd), .int x] (PR G B0 (((fd, .inr (2, [.ref (fb), .int iv])) :: (fb, .inl (G.2.2.2.1, 15, .inl a)) :: F)))) (va_Qv (fun (_ : Unit) => True) (fun (_ : Unit) (t_ : State) => va_P G.1 vwCl (((fd, .inr (2, [.ref (fb), .int (nI k)])) :: (fb, .inl (G.2.2.2.1, 15, .inl (upd a k ((x).toInt8.toInt32)))) :: F)) t_.heap ∧ va_D (fun q => B0 ≤ q) (((fd, .inr (2, [.ref (fb), .int (nI k)])) :: (fb, .inl (G.2.2.2.1, 15, .inl (upd a k ((x).toInt8.toInt32)))) :: F))) (fun q => B0 ≤ q)) rJx40b00_append_d00df.cells rJx40b00_append_d00df.slots (fun q => B0 ≤ q) := by
  refine met_of RJx40b00 [(0, .ref (fd)), (1, .int x)] rfl (by decide) (Nat.le_of_ble_eq_true rfl) rfl ?_
  intro p e s m args below meth c C hr hnm
  refine yq ?_
  intro QQ hQ
  refine yy_aload_n C 0 dJx40b00_append_d00df_0 (pc' := 1) rfl rfl rfl ?_
  refine yy_get C (v := .ref (fb)) fk_Jx40b00_11 0 dJx40b00_append_d00df_1 (pc' := 4) rfl rfl rfl ?_
  refine yy_aload_n C 0 dJx40b00_append_d00df_4 (pc' := 5) rfl rfl rfl ?_
  refine yy_dup C dJx40b00_append_d00df_5 (pc' := 6) rfl rfl ?_
  refine yy_get C (v := .int iv) fk_Jx40b00_42 0 dJx40b00_append_d00df_6 (pc' := 9) rfl rfl rfl ?_
  refine yy_iconst C (v := (nI 1)) dJx40b00_append_d00df_9 (pc' := 10) rfl (by decide) ?_
  refine yy_iadd C (v := (iv + (nI 1))) dJx40b00_append_d00df_10 (pc' := 11) rfl rfl ?_
  refine yy_eqi hiv ?_
  refine yy_dup_x1 C dJx40b00_append_d00df_11 (pc' := 12) rfl rfl rfl ?_
  refine yy_put C (w' := ((fd, .inr (2, [.ref (fb), .int (nI k)])) :: (fb, .inl (G.2.2.2.1, 15, .inl a)) :: F)) fk_Jx40b00_42 fpJx40b00 rfl 0 dJx40b00_append_d00df_12 (pc' := 15) rfl rfl rfl rfl (Nat.le_of_ble_eq_true rfl) rfl ?_
  refine yy_iload_n C 1 dJx40b00_append_d00df_15 (pc' := 16) rfl rfl rfl ?_
  refine yy_i2b C (v := x.toInt8.toInt32) dJx40b00_append_d00df_16 (pc' := 17) rfl rfl ?_
  refine yy_bast C (w' := ((fd, .inr (2, [.ref (fb), .int (nI k)])) :: (fb, .inl (G.2.2.2.1, 15, .inl (upd a k x.toInt8.toInt32))) :: F)) 1 dJx40b00_append_d00df_17 (pc' := 18) rfl rfl (by omega) (by decide) (pk_vb _) rfl ?_
  subst hQ
  exact ye_v C hr () dJx40b00_append_d00df_18 rfl (by decide) (by decide) trivial

abbrev rJx40b00_appendDigit_d00df : Room := { frames := 0, cells := 0, slots := 0, locals := 0 }
set_option maxHeartbeats 4000000 in
set_option maxRecDepth 100000 in
theorem mJx40b00_appendDigit_d00df (l : Launch) (G : gG) (B0 : Nat) (fd fb : Nat) (a : Nat → Int32) (iv : Int32) (k : Nat) (F : va_W) (x : Int32) (hiv : iv + nI 1 = nI k) (hk : k < 15) : Met l yJx40b00_appendDigit_d00df (Cond.code yJx40b00_appendDigit_d00df cJx40b00_appendDigit_d00df 2 none :: WG) rJx40b00_appendDigit_d00df (va_Pc [.ref (fd), .int x] (PR G B0 (((fd, .inr (2, [.ref (fb), .int iv])) :: (fb, .inl (G.2.2.2.1, 15, .inl a)) :: F)))) (va_Qv (fun (_ : Unit) => True) (fun (_ : Unit) (t_ : State) => va_P G.1 vwCl (((fd, .inr (2, [.ref (fb), .int (nI k)])) :: (fb, .inl (G.2.2.2.1, 15, .inl (upd a k (dgB x)))) :: F)) t_.heap ∧ va_D (fun q => B0 ≤ q) (((fd, .inr (2, [.ref (fb), .int (nI k)])) :: (fb, .inl (G.2.2.2.1, 15, .inl (upd a k (dgB x)))) :: F))) (fun q => B0 ≤ q)) rJx40b00_appendDigit_d00df.cells rJx40b00_appendDigit_d00df.slots (fun q => B0 ≤ q) := by
  refine met_of RJx40b00 [(0, .ref (fd)), (1, .int x)] rfl (by decide) (Nat.le_of_ble_eq_true rfl) rfl ?_
  intro p e s m args below meth c C hr hnm
  refine yq ?_
  intro QQ hQ
  refine yy_aload_n C 0 dJx40b00_appendDigit_d00df_0 (pc' := 1) rfl rfl rfl ?_
  refine yy_get C (v := .ref (fb)) fk_Jx40b00_11 0 dJx40b00_appendDigit_d00df_1 (pc' := 4) rfl rfl rfl ?_
  refine yy_aload_n C 0 dJx40b00_appendDigit_d00df_4 (pc' := 5) rfl rfl rfl ?_
  refine yy_dup C dJx40b00_appendDigit_d00df_5 (pc' := 6) rfl rfl ?_
  refine yy_get C (v := .int iv) fk_Jx40b00_42 0 dJx40b00_appendDigit_d00df_6 (pc' := 9) rfl rfl rfl ?_
  refine yy_iconst C (v := (nI 1)) dJx40b00_appendDigit_d00df_9 (pc' := 10) rfl (by decide) ?_
  refine yy_iadd C (v := (iv + (nI 1))) dJx40b00_appendDigit_d00df_10 (pc' := 11) rfl rfl ?_
  refine yy_eqi hiv ?_
  refine yy_dup_x1 C dJx40b00_appendDigit_d00df_11 (pc' := 12) rfl rfl rfl ?_
  refine yy_put C (w' := ((fd, .inr (2, [.ref (fb), .int (nI k)])) :: (fb, .inl (G.2.2.2.1, 15, .inl a)) :: F)) fk_Jx40b00_42 fpJx40b00 rfl 0 dJx40b00_appendDigit_d00df_12 (pc' := 15) rfl rfl rfl rfl (Nat.le_of_ble_eq_true rfl) rfl ?_
  refine yy_bipush C (v := (nI 48)) dJx40b00_appendDigit_d00df_15 (pc' := 17) rfl (by decide) ?_
  refine yy_iload_n C 1 dJx40b00_appendDigit_d00df_17 (pc' := 18) rfl rfl rfl ?_
  refine yy_iadd C (v := ((nI 48) + x)) dJx40b00_appendDigit_d00df_18 (pc' := 19) rfl rfl ?_
  refine yy_i2b C (v := (((nI 48) + x).toInt8.toInt32)) dJx40b00_appendDigit_d00df_19 (pc' := 20) rfl rfl ?_
  refine yy_bast C (w' := ((fd, .inr (2, [.ref (fb), .int (nI k)])) :: (fb, .inl (G.2.2.2.1, 15, .inl (upd a k (((nI 48) + x).toInt8.toInt32)))) :: F)) 1 dJx40b00_appendDigit_d00df_20 (pc' := 21) rfl rfl (by omega) (by decide) (pk_vb _) rfl ?_
  subst hQ
  exact ye_v C hr () dJx40b00_appendDigit_d00df_21 rfl (by decide) (by decide) trivial

abbrev rJx40b00_append8Digits_d00df : Room := { frames := 2, cells := 0, slots := 0, locals := 60 }
set_option maxHeartbeats 4000000 in
set_option maxRecDepth 100000 in
theorem mJx40b00_append8Digits_d00df (l : Launch) (G : gG) (B0 : Nat) (fd fb : Nat) (a : Nat → Int32) (j : Nat) (F : va_W) (x : Int32) (hj : j + 8 < 15) : Met l yJx40b00_append8Digits_d00df (Cond.code yJx40b00_append8Digits_d00df cJx40b00_append8Digits_d00df 5 none :: WG) rJx40b00_append8Digits_d00df (va_Pc [.ref (fd), .int x] (PR G B0 (((fd, .inr (2, [.ref (fb), .int (nI j)])) :: (fb, .inl (G.2.2.2.1, 15, .inl a)) :: F)))) (va_Qv (fun (_ : Unit) => True) (fun (_ : Unit) (t_ : State) => va_P G.1 vwCl (((fd, .inr (2, [.ref (fb), .int (nI (j + 8))])) :: (fb, .inl (G.2.2.2.1, 15, .inl (a8 8 a j (yF x)))) :: F)) t_.heap ∧ va_D (fun q => B0 ≤ q) (((fd, .inr (2, [.ref (fb), .int (nI (j + 8))])) :: (fb, .inl (G.2.2.2.1, 15, .inl (a8 8 a j (yF x)))) :: F))) (fun q => B0 ≤ q)) rJx40b00_append8Digits_d00df.cells rJx40b00_append8Digits_d00df.slots (fun q => B0 ≤ q) := by
  refine met_of RJx40b00 [(0, .ref (fd)), (1, .int x)] rfl (by decide) (Nat.le_of_ble_eq_true rfl) rfl ?_
  intro p e s m args below meth c C hr hnm
  refine yq ?_
  intro QQ hQ
  refine yy_aload_n C 0 dJx40b00_append8Digits_d00df_0 (pc' := 1) rfl rfl rfl ?_
  refine yy_iload_n C 1 dJx40b00_append8Digits_d00df_1 (pc' := 2) rfl rfl rfl ?_
  refine yc_i (yr_V C (n := 1) (As := [.int x]) (rest := []) lk_Jx40b00_135 cd_Jx40b00_y_0f7a4 im_Jx40b00_y_0f7a4 se_Jx40b00_y_0f7a4 (mJx40b00_y_0f7a4 l G B0 fd fb (nI j) a F x) ⟨by decide, by decide⟩ ⟨by decide, by decide⟩ 0 rfl rfl rfl rfl (Nat.le_of_ble_eq_true rfl) dJx40b00_append8Digits_d00df_2) (pc' := 5) rfl (fun r1 _ hw1 => ?_)
  subst hw1
  refine yy_istore_n C (L' := [(2, .int (yF x)), (0, .ref (fd)), (1, .int x)]) dJx40b00_append8Digits_d00df_5 (pc' := 6) rfl rfl (by decide) rfl ?_
  refine yy_iconst C (v := (nI 0)) dJx40b00_append8Digits_d00df_6 (pc' := 7) rfl (by decide) ?_
  refine yy_istore_n C (L' := [(3, .int (nI 0)), (2, .int (yF x)), (0, .ref (fd)), (1, .int x)]) dJx40b00_append8Digits_d00df_7 (pc' := 8) rfl rfl (by decide) rfl ?_
  refine yy_iload_n C 0 dJx40b00_append8Digits_d00df_8 (pc' := 9) rfl rfl rfl ?_
  refine yy_bipush C (v := (nI 8)) dJx40b00_append8Digits_d00df_9 (pc' := 11) rfl (by decide) ?_
  refine yy_icmp_ge C dJx40b00_append8Digits_d00df_11 (pc' := 14) rfl (tgt := 41) (by decide) (fun c_11 => ?_) (fun c_11 => ?_)
  · skip
    exact absurd c_11 (by decide)
  · skip
    refine yy_bipush C (v := (nI 10)) dJx40b00_append8Digits_d00df_14 (pc' := 16) rfl (by decide) ?_
    refine yy_iload_n C 1 dJx40b00_append8Digits_d00df_16 (pc' := 17) rfl rfl rfl ?_
    refine yy_imul C (v := ((nI 10) * (yF x))) dJx40b00_append8Digits_d00df_17 (pc' := 18) rfl rfl ?_
    refine yy_istore C (L' := [(4, .int ((nI 10) * (yF x))), (3, .int (nI 0)), (2, .int (yF x)), (0, .ref (fd)), (1, .int x)]) dJx40b00_append8Digits_d00df_18 (pc' := 20) rfl (by decide) rfl ?_
    refine yy_aload_n C 3 dJx40b00_append8Digits_d00df_20 (pc' := 21) rfl rfl rfl ?_
    refine yy_iload C 0 dJx40b00_append8Digits_d00df_21 (pc' := 23) rfl rfl ?_
    refine yy_bipush C (v := (nI 28)) dJx40b00_append8Digits_d00df_23 (pc' := 25) rfl (by decide) ?_
    refine yy_iushr C (v := (ush32 ((nI 10) * (yF x)) (nI 28))) dJx40b00_append8Digits_d00df_25 (pc' := 26) rfl rfl ?_
    refine yc_v (yr_V C (n := 1) (As := [.int (ush32 ((nI 10) * (yF x)) (nI 28))]) (rest := []) lk_Jx40b00_132 cd_Jx40b00_appendDigit_d00df im_Jx40b00_appendDigit_d00df se_Jx40b00_appendDigit_d00df (mJx40b00_appendDigit_d00df l G B0 fd fb a (nI j) (j + 1) F (ush32 ((nI 10) * (yF x)) (nI 28)) (nI_add j 1) (by omega)) ⟨by decide, by decide⟩ ⟨by decide, by decide⟩ 0 rfl rfl rfl rfl (Nat.le_of_ble_eq_true rfl) dJx40b00_append8Digits_d00df_26) (pc' := 29) rfl (fun _ hw2 => ?_)
    refine yy_iload C 0 dJx40b00_append8Digits_d00df_29 (pc' := 31) rfl rfl ?_
    refine yy_ldci C (v := (nI 268435455)) dJx40b00_append8Digits_d00df_31 (pc' := 33) rfl li_Jx40b00_138 ?_
    refine yy_iand C (v := (((nI 10) * (yF x)) &&& (nI 268435455))) dJx40b00_append8Digits_d00df_33 (pc' := 34) rfl rfl ?_
    refine yy_istore_n C (L' := [(2, .int (((nI 10) * (yF x)) &&& (nI 268435455))), (4, .int ((nI 10) * (yF x))), (3, .int (nI 0)), (0, .ref (fd)), (1, .int x)]) dJx40b00_append8Digits_d00df_34 (pc' := 35) rfl rfl (by decide) rfl ?_
    refine yy_iinc C (v := (nI 1)) (L' := [(3, .int (nI 1)), (2, .int (((nI 10) * (yF x)) &&& (nI 268435455))), (4, .int ((nI 10) * (yF x))), (0, .ref (fd)), (1, .int x)]) 2 dJx40b00_append8Digits_d00df_35 (pc' := 38) rfl rfl (by decide) (by decide) rfl ?_
    refine yy_goto C (tgt := 8) dJx40b00_append8Digits_d00df_38 (by decide) ?_
    refine yy_iload_n C 0 dJx40b00_append8Digits_d00df_8 (pc' := 9) rfl rfl rfl ?_
    refine yy_bipush C (v := (nI 8)) dJx40b00_append8Digits_d00df_9 (pc' := 11) rfl (by decide) ?_
    refine yy_icmp_ge C dJx40b00_append8Digits_d00df_11 (pc' := 14) rfl (tgt := 41) (by decide) (fun c_11 => ?_) (fun c_11 => ?_)
    · skip
      exact absurd c_11 (by decide)
    · skip
      refine yy_bipush C (v := (nI 10)) dJx40b00_append8Digits_d00df_14 (pc' := 16) rfl (by decide) ?_
      refine yy_iload_n C 1 dJx40b00_append8Digits_d00df_16 (pc' := 17) rfl rfl rfl ?_
      refine yy_imul C (v := ((nI 10) * (((nI 10) * (yF x)) &&& (nI 268435455)))) dJx40b00_append8Digits_d00df_17 (pc' := 18) rfl rfl ?_
      refine yy_istore C (L' := [(4, .int ((nI 10) * (((nI 10) * (yF x)) &&& (nI 268435455)))), (3, .int (nI 1)), (2, .int (((nI 10) * (yF x)) &&& (nI 268435455))), (0, .ref (fd)), (1, .int x)]) dJx40b00_append8Digits_d00df_18 (pc' := 20) rfl (by decide) rfl ?_
      refine yy_aload_n C 3 dJx40b00_append8Digits_d00df_20 (pc' := 21) rfl rfl rfl ?_
      refine yy_iload C 0 dJx40b00_append8Digits_d00df_21 (pc' := 23) rfl rfl ?_
      refine yy_bipush C (v := (nI 28)) dJx40b00_append8Digits_d00df_23 (pc' := 25) rfl (by decide) ?_
      refine yy_iushr C (v := (ush32 ((nI 10) * (((nI 10) * (yF x)) &&& (nI 268435455))) (nI 28))) dJx40b00_append8Digits_d00df_25 (pc' := 26) rfl rfl ?_
      refine yc_v (yr_V C (n := 1) (As := [.int (ush32 ((nI 10) * (((nI 10) * (yF x)) &&& (nI 268435455))) (nI 28))]) (rest := []) lk_Jx40b00_132 cd_Jx40b00_appendDigit_d00df im_Jx40b00_appendDigit_d00df se_Jx40b00_appendDigit_d00df (mJx40b00_appendDigit_d00df l G B0 fd fb (upd a (j + 1) (dgB (ush32 ((nI 10) * (yF x)) (nI 28)))) (nI (j + 1)) ((j + 1) + 1) F (ush32 ((nI 10) * (((nI 10) * (yF x)) &&& (nI 268435455))) (nI 28)) (nI_add (j + 1) 1) (by omega)) ⟨by decide, by decide⟩ ⟨by decide, by decide⟩ 0 rfl rfl rfl rfl (Nat.le_of_ble_eq_true rfl) dJx40b00_append8Digits_d00df_26) (pc' := 29) rfl (fun _ hw3 => ?_)
      refine yy_iload C 0 dJx40b00_append8Digits_d00df_29 (pc' := 31) rfl rfl ?_
      refine yy_ldci C (v := (nI 268435455)) dJx40b00_append8Digits_d00df_31 (pc' := 33) rfl li_Jx40b00_138 ?_
      refine yy_iand C (v := (((nI 10) * (((nI 10) * (yF x)) &&& (nI 268435455))) &&& (nI 268435455))) dJx40b00_append8Digits_d00df_33 (pc' := 34) rfl rfl ?_
      refine yy_istore_n C (L' := [(2, .int (((nI 10) * (((nI 10) * (yF x)) &&& (nI 268435455))) &&& (nI 268435455))), (4, .int ((nI 10) * (((nI 10) * (yF x)) &&& (nI 268435455)))), (3, .int (nI 1)), (0, .ref (fd)), (1, .int x)]) dJx40b00_append8Digits_d00df_34 (pc' := 35) rfl rfl (by decide) rfl ?_
      refine yy_iinc C (v := (nI 2)) (L' := [(3, .int (nI 2)), (2, .int (((nI 10) * (((nI 10) * (yF x)) &&& (nI 268435455))) &&& (nI 268435455))), (4, .int ((nI 10) * (((nI 10) * (yF x)) &&& (nI 268435455)))), (0, .ref (fd)), (1, .int x)]) 2 dJx40b00_append8Digits_d00df_35 (pc' := 38) rfl rfl (by decide) (by decide) rfl ?_
      refine yy_goto C (tgt := 8) dJx40b00_append8Digits_d00df_38 (by decide) ?_
      refine yy_iload_n C 0 dJx40b00_append8Digits_d00df_8 (pc' := 9) rfl rfl rfl ?_
      refine yy_bipush C (v := (nI 8)) dJx40b00_append8Digits_d00df_9 (pc' := 11) rfl (by decide) ?_
      refine yy_icmp_ge C dJx40b00_append8Digits_d00df_11 (pc' := 14) rfl (tgt := 41) (by decide) (fun c_11 => ?_) (fun c_11 => ?_)
      · skip
        exact absurd c_11 (by decide)
      · skip
        refine yy_bipush C (v := (nI 10)) dJx40b00_append8Digits_d00df_14 (pc' := 16) rfl (by decide) ?_
        refine yy_iload_n C 1 dJx40b00_append8Digits_d00df_16 (pc' := 17) rfl rfl rfl ?_
        refine yy_imul C (v := ((nI 10) * (((nI 10) * (((nI 10) * (yF x)) &&& (nI 268435455))) &&& (nI 268435455)))) dJx40b00_append8Digits_d00df_17 (pc' := 18) rfl rfl ?_
        refine yy_istore C (L' := [(4, .int ((nI 10) * (((nI 10) * (((nI 10) * (yF x)) &&& (nI 268435455))) &&& (nI 268435455)))), (3, .int (nI 2)), (2, .int (((nI 10) * (((nI 10) * (yF x)) &&& (nI 268435455))) &&& (nI 268435455))), (0, .ref (fd)), (1, .int x)]) dJx40b00_append8Digits_d00df_18 (pc' := 20) rfl (by decide) rfl ?_
        refine yy_aload_n C 3 dJx40b00_append8Digits_d00df_20 (pc' := 21) rfl rfl rfl ?_
        refine yy_iload C 0 dJx40b00_append8Digits_d00df_21 (pc' := 23) rfl rfl ?_
        refine yy_bipush C (v := (nI 28)) dJx40b00_append8Digits_d00df_23 (pc' := 25) rfl (by decide) ?_
        refine yy_iushr C (v := (ush32 ((nI 10) * (((nI 10) * (((nI 10) * (yF x)) &&& (nI 268435455))) &&& (nI 268435455))) (nI 28))) dJx40b00_append8Digits_d00df_25 (pc' := 26) rfl rfl ?_
        refine yc_v (yr_V C (n := 1) (As := [.int (ush32 ((nI 10) * (((nI 10) * (((nI 10) * (yF x)) &&& (nI 268435455))) &&& (nI 268435455))) (nI 28))]) (rest := []) lk_Jx40b00_132 cd_Jx40b00_appendDigit_d00df im_Jx40b00_appendDigit_d00df se_Jx40b00_appendDigit_d00df (mJx40b00_appendDigit_d00df l G B0 fd fb (upd (upd a (j + 1) (dgB (ush32 ((nI 10) * (yF x)) (nI 28)))) ((j + 1) + 1) (dgB (ush32 ((nI 10) * (((nI 10) * (yF x)) &&& (nI 268435455))) (nI 28)))) (nI ((j + 1) + 1)) (((j + 1) + 1) + 1) F (ush32 ((nI 10) * (((nI 10) * (((nI 10) * (yF x)) &&& (nI 268435455))) &&& (nI 268435455))) (nI 28)) (nI_add ((j + 1) + 1) 1) (by omega)) ⟨by decide, by decide⟩ ⟨by decide, by decide⟩ 0 rfl rfl rfl rfl (Nat.le_of_ble_eq_true rfl) dJx40b00_append8Digits_d00df_26) (pc' := 29) rfl (fun _ hw4 => ?_)
        refine yy_iload C 0 dJx40b00_append8Digits_d00df_29 (pc' := 31) rfl rfl ?_
        refine yy_ldci C (v := (nI 268435455)) dJx40b00_append8Digits_d00df_31 (pc' := 33) rfl li_Jx40b00_138 ?_
        refine yy_iand C (v := (((nI 10) * (((nI 10) * (((nI 10) * (yF x)) &&& (nI 268435455))) &&& (nI 268435455))) &&& (nI 268435455))) dJx40b00_append8Digits_d00df_33 (pc' := 34) rfl rfl ?_
        refine yy_istore_n C (L' := [(2, .int (((nI 10) * (((nI 10) * (((nI 10) * (yF x)) &&& (nI 268435455))) &&& (nI 268435455))) &&& (nI 268435455))), (4, .int ((nI 10) * (((nI 10) * (((nI 10) * (yF x)) &&& (nI 268435455))) &&& (nI 268435455)))), (3, .int (nI 2)), (0, .ref (fd)), (1, .int x)]) dJx40b00_append8Digits_d00df_34 (pc' := 35) rfl rfl (by decide) rfl ?_
        refine yy_iinc C (v := (nI 3)) (L' := [(3, .int (nI 3)), (2, .int (((nI 10) * (((nI 10) * (((nI 10) * (yF x)) &&& (nI 268435455))) &&& (nI 268435455))) &&& (nI 268435455))), (4, .int ((nI 10) * (((nI 10) * (((nI 10) * (yF x)) &&& (nI 268435455))) &&& (nI 268435455)))), (0, .ref (fd)), (1, .int x)]) 2 dJx40b00_append8Digits_d00df_35 (pc' := 38) rfl rfl (by decide) (by decide) rfl ?_
        refine yy_goto C (tgt := 8) dJx40b00_append8Digits_d00df_38 (by decide) ?_
        refine yy_iload_n C 0 dJx40b00_append8Digits_d00df_8 (pc' := 9) rfl rfl rfl ?_
        refine yy_bipush C (v := (nI 8)) dJx40b00_append8Digits_d00df_9 (pc' := 11) rfl (by decide) ?_
        refine yy_icmp_ge C dJx40b00_append8Digits_d00df_11 (pc' := 14) rfl (tgt := 41) (by decide) (fun c_11 => ?_) (fun c_11 => ?_)
        · skip
          exact absurd c_11 (by decide)
        · skip
          refine yy_bipush C (v := (nI 10)) dJx40b00_append8Digits_d00df_14 (pc' := 16) rfl (by decide) ?_
          refine yy_iload_n C 1 dJx40b00_append8Digits_d00df_16 (pc' := 17) rfl rfl rfl ?_
          refine yy_imul C (v := ((nI 10) * (((nI 10) * (((nI 10) * (((nI 10) * (yF x)) &&& (nI 268435455))) &&& (nI 268435455))) &&& (nI 268435455)))) dJx40b00_append8Digits_d00df_17 (pc' := 18) rfl rfl ?_
          refine yy_istore C (L' := [(4, .int ((nI 10) * (((nI 10) * (((nI 10) * (((nI 10) * (yF x)) &&& (nI 268435455))) &&& (nI 268435455))) &&& (nI 268435455)))), (3, .int (nI 3)), (2, .int (((nI 10) * (((nI 10) * (((nI 10) * (yF x)) &&& (nI 268435455))) &&& (nI 268435455))) &&& (nI 268435455))), (0, .ref (fd)), (1, .int x)]) dJx40b00_append8Digits_d00df_18 (pc' := 20) rfl (by decide) rfl ?_
          refine yy_aload_n C 3 dJx40b00_append8Digits_d00df_20 (pc' := 21) rfl rfl rfl ?_
          refine yy_iload C 0 dJx40b00_append8Digits_d00df_21 (pc' := 23) rfl rfl ?_
          refine yy_bipush C (v := (nI 28)) dJx40b00_append8Digits_d00df_23 (pc' := 25) rfl (by decide) ?_
          refine yy_iushr C (v := (ush32 ((nI 10) * (((nI 10) * (((nI 10) * (((nI 10) * (yF x)) &&& (nI 268435455))) &&& (nI 268435455))) &&& (nI 268435455))) (nI 28))) dJx40b00_append8Digits_d00df_25 (pc' := 26) rfl rfl ?_
          refine yc_v (yr_V C (n := 1) (As := [.int (ush32 ((nI 10) * (((nI 10) * (((nI 10) * (((nI 10) * (yF x)) &&& (nI 268435455))) &&& (nI 268435455))) &&& (nI 268435455))) (nI 28))]) (rest := []) lk_Jx40b00_132 cd_Jx40b00_appendDigit_d00df im_Jx40b00_appendDigit_d00df se_Jx40b00_appendDigit_d00df (mJx40b00_appendDigit_d00df l G B0 fd fb (upd (upd (upd a (j + 1) (dgB (ush32 ((nI 10) * (yF x)) (nI 28)))) ((j + 1) + 1) (dgB (ush32 ((nI 10) * (((nI 10) * (yF x)) &&& (nI 268435455))) (nI 28)))) (((j + 1) + 1) + 1) (dgB (ush32 ((nI 10) * (((nI 10) * (((nI 10) * (yF x)) &&& (nI 268435455))) &&& (nI 268435455))) (nI 28)))) (nI (((j + 1) + 1) + 1)) ((((j + 1) + 1) + 1) + 1) F (ush32 ((nI 10) * (((nI 10) * (((nI 10) * (((nI 10) * (yF x)) &&& (nI 268435455))) &&& (nI 268435455))) &&& (nI 268435455))) (nI 28)) (nI_add (((j + 1) + 1) + 1) 1) (by omega)) ⟨by decide, by decide⟩ ⟨by decide, by decide⟩ 0 rfl rfl rfl rfl (Nat.le_of_ble_eq_true rfl) dJx40b00_append8Digits_d00df_26) (pc' := 29) rfl (fun _ hw5 => ?_)
          refine yy_iload C 0 dJx40b00_append8Digits_d00df_29 (pc' := 31) rfl rfl ?_
          refine yy_ldci C (v := (nI 268435455)) dJx40b00_append8Digits_d00df_31 (pc' := 33) rfl li_Jx40b00_138 ?_
          refine yy_iand C (v := (((nI 10) * (((nI 10) * (((nI 10) * (((nI 10) * (yF x)) &&& (nI 268435455))) &&& (nI 268435455))) &&& (nI 268435455))) &&& (nI 268435455))) dJx40b00_append8Digits_d00df_33 (pc' := 34) rfl rfl ?_
          refine yy_istore_n C (L' := [(2, .int (((nI 10) * (((nI 10) * (((nI 10) * (((nI 10) * (yF x)) &&& (nI 268435455))) &&& (nI 268435455))) &&& (nI 268435455))) &&& (nI 268435455))), (4, .int ((nI 10) * (((nI 10) * (((nI 10) * (((nI 10) * (yF x)) &&& (nI 268435455))) &&& (nI 268435455))) &&& (nI 268435455)))), (3, .int (nI 3)), (0, .ref (fd)), (1, .int x)]) dJx40b00_append8Digits_d00df_34 (pc' := 35) rfl rfl (by decide) rfl ?_
          refine yy_iinc C (v := (nI 4)) (L' := [(3, .int (nI 4)), (2, .int (((nI 10) * (((nI 10) * (((nI 10) * (((nI 10) * (yF x)) &&& (nI 268435455))) &&& (nI 268435455))) &&& (nI 268435455))) &&& (nI 268435455))), (4, .int ((nI 10) * (((nI 10) * (((nI 10) * (((nI 10) * (yF x)) &&& (nI 268435455))) &&& (nI 268435455))) &&& (nI 268435455)))), (0, .ref (fd)), (1, .int x)]) 2 dJx40b00_append8Digits_d00df_35 (pc' := 38) rfl rfl (by decide) (by decide) rfl ?_
          refine yy_goto C (tgt := 8) dJx40b00_append8Digits_d00df_38 (by decide) ?_
          refine yy_iload_n C 0 dJx40b00_append8Digits_d00df_8 (pc' := 9) rfl rfl rfl ?_
          refine yy_bipush C (v := (nI 8)) dJx40b00_append8Digits_d00df_9 (pc' := 11) rfl (by decide) ?_
          refine yy_icmp_ge C dJx40b00_append8Digits_d00df_11 (pc' := 14) rfl (tgt := 41) (by decide) (fun c_11 => ?_) (fun c_11 => ?_)
          · skip
            exact absurd c_11 (by decide)
          · skip
            refine yy_bipush C (v := (nI 10)) dJx40b00_append8Digits_d00df_14 (pc' := 16) rfl (by decide) ?_
            refine yy_iload_n C 1 dJx40b00_append8Digits_d00df_16 (pc' := 17) rfl rfl rfl ?_
            refine yy_imul C (v := ((nI 10) * (((nI 10) * (((nI 10) * (((nI 10) * (((nI 10) * (yF x)) &&& (nI 268435455))) &&& (nI 268435455))) &&& (nI 268435455))) &&& (nI 268435455)))) dJx40b00_append8Digits_d00df_17 (pc' := 18) rfl rfl ?_
            refine yy_istore C (L' := [(4, .int ((nI 10) * (((nI 10) * (((nI 10) * (((nI 10) * (((nI 10) * (yF x)) &&& (nI 268435455))) &&& (nI 268435455))) &&& (nI 268435455))) &&& (nI 268435455)))), (3, .int (nI 4)), (2, .int (((nI 10) * (((nI 10) * (((nI 10) * (((nI 10) * (yF x)) &&& (nI 268435455))) &&& (nI 268435455))) &&& (nI 268435455))) &&& (nI 268435455))), (0, .ref (fd)), (1, .int x)]) dJx40b00_append8Digits_d00df_18 (pc' := 20) rfl (by decide) rfl ?_
            refine yy_aload_n C 3 dJx40b00_append8Digits_d00df_20 (pc' := 21) rfl rfl rfl ?_
            refine yy_iload C 0 dJx40b00_append8Digits_d00df_21 (pc' := 23) rfl rfl ?_
            refine yy_bipush C (v := (nI 28)) dJx40b00_append8Digits_d00df_23 (pc' := 25) rfl (by decide) ?_
            refine yy_iushr C (v := (ush32 ((nI 10) * (((nI 10) * (((nI 10) * (((nI 10) * (((nI 10) * (yF x)) &&& (nI 268435455))) &&& (nI 268435455))) &&& (nI 268435455))) &&& (nI 268435455))) (nI 28))) dJx40b00_append8Digits_d00df_25 (pc' := 26) rfl rfl ?_
            refine yc_v (yr_V C (n := 1) (As := [.int (ush32 ((nI 10) * (((nI 10) * (((nI 10) * (((nI 10) * (((nI 10) * (yF x)) &&& (nI 268435455))) &&& (nI 268435455))) &&& (nI 268435455))) &&& (nI 268435455))) (nI 28))]) (rest := []) lk_Jx40b00_132 cd_Jx40b00_appendDigit_d00df im_Jx40b00_appendDigit_d00df se_Jx40b00_appendDigit_d00df (mJx40b00_appendDigit_d00df l G B0 fd fb (upd (upd (upd (upd a (j + 1) (dgB (ush32 ((nI 10) * (yF x)) (nI 28)))) ((j + 1) + 1) (dgB (ush32 ((nI 10) * (((nI 10) * (yF x)) &&& (nI 268435455))) (nI 28)))) (((j + 1) + 1) + 1) (dgB (ush32 ((nI 10) * (((nI 10) * (((nI 10) * (yF x)) &&& (nI 268435455))) &&& (nI 268435455))) (nI 28)))) ((((j + 1) + 1) + 1) + 1) (dgB (ush32 ((nI 10) * (((nI 10) * (((nI 10) * (((nI 10) * (yF x)) &&& (nI 268435455))) &&& (nI 268435455))) &&& (nI 268435455))) (nI 28)))) (nI ((((j + 1) + 1) + 1) + 1)) (((((j + 1) + 1) + 1) + 1) + 1) F (ush32 ((nI 10) * (((nI 10) * (((nI 10) * (((nI 10) * (((nI 10) * (yF x)) &&& (nI 268435455))) &&& (nI 268435455))) &&& (nI 268435455))) &&& (nI 268435455))) (nI 28)) (nI_add ((((j + 1) + 1) + 1) + 1) 1) (by omega)) ⟨by decide, by decide⟩ ⟨by decide, by decide⟩ 0 rfl rfl rfl rfl (Nat.le_of_ble_eq_true rfl) dJx40b00_append8Digits_d00df_26) (pc' := 29) rfl (fun _ hw6 => ?_)
            refine yy_iload C 0 dJx40b00_append8Digits_d00df_29 (pc' := 31) rfl rfl ?_
            refine yy_ldci C (v := (nI 268435455)) dJx40b00_append8Digits_d00df_31 (pc' := 33) rfl li_Jx40b00_138 ?_
            refine yy_iand C (v := (((nI 10) * (((nI 10) * (((nI 10) * (((nI 10) * (((nI 10) * (yF x)) &&& (nI 268435455))) &&& (nI 268435455))) &&& (nI 268435455))) &&& (nI 268435455))) &&& (nI 268435455))) dJx40b00_append8Digits_d00df_33 (pc' := 34) rfl rfl ?_
            refine yy_istore_n C (L' := [(2, .int (((nI 10) * (((nI 10) * (((nI 10) * (((nI 10) * (((nI 10) * (yF x)) &&& (nI 268435455))) &&& (nI 268435455))) &&& (nI 268435455))) &&& (nI 268435455))) &&& (nI 268435455))), (4, .int ((nI 10) * (((nI 10) * (((nI 10) * (((nI 10) * (((nI 10) * (yF x)) &&& (nI 268435455))) &&& (nI 268435455))) &&& (nI 268435455))) &&& (nI 268435455)))), (3, .int (nI 4)), (0, .ref (fd)), (1, .int x)]) dJx40b00_append8Digits_d00df_34 (pc' := 35) rfl rfl (by decide) rfl ?_
            refine yy_iinc C (v := (nI 5)) (L' := [(3, .int (nI 5)), (2, .int (((nI 10) * (((nI 10) * (((nI 10) * (((nI 10) * (((nI 10) * (yF x)) &&& (nI 268435455))) &&& (nI 268435455))) &&& (nI 268435455))) &&& (nI 268435455))) &&& (nI 268435455))), (4, .int ((nI 10) * (((nI 10) * (((nI 10) * (((nI 10) * (((nI 10) * (yF x)) &&& (nI 268435455))) &&& (nI 268435455))) &&& (nI 268435455))) &&& (nI 268435455)))), (0, .ref (fd)), (1, .int x)]) 2 dJx40b00_append8Digits_d00df_35 (pc' := 38) rfl rfl (by decide) (by decide) rfl ?_
            refine yy_goto C (tgt := 8) dJx40b00_append8Digits_d00df_38 (by decide) ?_
            refine yy_iload_n C 0 dJx40b00_append8Digits_d00df_8 (pc' := 9) rfl rfl rfl ?_
            refine yy_bipush C (v := (nI 8)) dJx40b00_append8Digits_d00df_9 (pc' := 11) rfl (by decide) ?_
            refine yy_icmp_ge C dJx40b00_append8Digits_d00df_11 (pc' := 14) rfl (tgt := 41) (by decide) (fun c_11 => ?_) (fun c_11 => ?_)
            · skip
              exact absurd c_11 (by decide)
            · skip
              refine yy_bipush C (v := (nI 10)) dJx40b00_append8Digits_d00df_14 (pc' := 16) rfl (by decide) ?_
              refine yy_iload_n C 1 dJx40b00_append8Digits_d00df_16 (pc' := 17) rfl rfl rfl ?_
              refine yy_imul C (v := ((nI 10) * (((nI 10) * (((nI 10) * (((nI 10) * (((nI 10) * (((nI 10) * (yF x)) &&& (nI 268435455))) &&& (nI 268435455))) &&& (nI 268435455))) &&& (nI 268435455))) &&& (nI 268435455)))) dJx40b00_append8Digits_d00df_17 (pc' := 18) rfl rfl ?_
              refine yy_istore C (L' := [(4, .int ((nI 10) * (((nI 10) * (((nI 10) * (((nI 10) * (((nI 10) * (((nI 10) * (yF x)) &&& (nI 268435455))) &&& (nI 268435455))) &&& (nI 268435455))) &&& (nI 268435455))) &&& (nI 268435455)))), (3, .int (nI 5)), (2, .int (((nI 10) * (((nI 10) * (((nI 10) * (((nI 10) * (((nI 10) * (yF x)) &&& (nI 268435455))) &&& (nI 268435455))) &&& (nI 268435455))) &&& (nI 268435455))) &&& (nI 268435455))), (0, .ref (fd)), (1, .int x)]) dJx40b00_append8Digits_d00df_18 (pc' := 20) rfl (by decide) rfl ?_
              refine yy_aload_n C 3 dJx40b00_append8Digits_d00df_20 (pc' := 21) rfl rfl rfl ?_
              refine yy_iload C 0 dJx40b00_append8Digits_d00df_21 (pc' := 23) rfl rfl ?_
              refine yy_bipush C (v := (nI 28)) dJx40b00_append8Digits_d00df_23 (pc' := 25) rfl (by decide) ?_
              refine yy_iushr C (v := (ush32 ((nI 10) * (((nI 10) * (((nI 10) * (((nI 10) * (((nI 10) * (((nI 10) * (yF x)) &&& (nI 268435455))) &&& (nI 268435455))) &&& (nI 268435455))) &&& (nI 268435455))) &&& (nI 268435455))) (nI 28))) dJx40b00_append8Digits_d00df_25 (pc' := 26) rfl rfl ?_
              refine yc_v (yr_V C (n := 1) (As := [.int (ush32 ((nI 10) * (((nI 10) * (((nI 10) * (((nI 10) * (((nI 10) * (((nI 10) * (yF x)) &&& (nI 268435455))) &&& (nI 268435455))) &&& (nI 268435455))) &&& (nI 268435455))) &&& (nI 268435455))) (nI 28))]) (rest := []) lk_Jx40b00_132 cd_Jx40b00_appendDigit_d00df im_Jx40b00_appendDigit_d00df se_Jx40b00_appendDigit_d00df (mJx40b00_appendDigit_d00df l G B0 fd fb (upd (upd (upd (upd (upd a (j + 1) (dgB (ush32 ((nI 10) * (yF x)) (nI 28)))) ((j + 1) + 1) (dgB (ush32 ((nI 10) * (((nI 10) * (yF x)) &&& (nI 268435455))) (nI 28)))) (((j + 1) + 1) + 1) (dgB (ush32 ((nI 10) * (((nI 10) * (((nI 10) * (yF x)) &&& (nI 268435455))) &&& (nI 268435455))) (nI 28)))) ((((j + 1) + 1) + 1) + 1) (dgB (ush32 ((nI 10) * (((nI 10) * (((nI 10) * (((nI 10) * (yF x)) &&& (nI 268435455))) &&& (nI 268435455))) &&& (nI 268435455))) (nI 28)))) (((((j + 1) + 1) + 1) + 1) + 1) (dgB (ush32 ((nI 10) * (((nI 10) * (((nI 10) * (((nI 10) * (((nI 10) * (yF x)) &&& (nI 268435455))) &&& (nI 268435455))) &&& (nI 268435455))) &&& (nI 268435455))) (nI 28)))) (nI (((((j + 1) + 1) + 1) + 1) + 1)) ((((((j + 1) + 1) + 1) + 1) + 1) + 1) F (ush32 ((nI 10) * (((nI 10) * (((nI 10) * (((nI 10) * (((nI 10) * (((nI 10) * (yF x)) &&& (nI 268435455))) &&& (nI 268435455))) &&& (nI 268435455))) &&& (nI 268435455))) &&& (nI 268435455))) (nI 28)) (nI_add (((((j + 1) + 1) + 1) + 1) + 1) 1) (by omega)) ⟨by decide, by decide⟩ ⟨by decide, by decide⟩ 0 rfl rfl rfl rfl (Nat.le_of_ble_eq_true rfl) dJx40b00_append8Digits_d00df_26) (pc' := 29) rfl (fun _ hw7 => ?_)
              refine yy_iload C 0 dJx40b00_append8Digits_d00df_29 (pc' := 31) rfl rfl ?_
              refine yy_ldci C (v := (nI 268435455)) dJx40b00_append8Digits_d00df_31 (pc' := 33) rfl li_Jx40b00_138 ?_
              refine yy_iand C (v := (((nI 10) * (((nI 10) * (((nI 10) * (((nI 10) * (((nI 10) * (((nI 10) * (yF x)) &&& (nI 268435455))) &&& (nI 268435455))) &&& (nI 268435455))) &&& (nI 268435455))) &&& (nI 268435455))) &&& (nI 268435455))) dJx40b00_append8Digits_d00df_33 (pc' := 34) rfl rfl ?_
              refine yy_istore_n C (L' := [(2, .int (((nI 10) * (((nI 10) * (((nI 10) * (((nI 10) * (((nI 10) * (((nI 10) * (yF x)) &&& (nI 268435455))) &&& (nI 268435455))) &&& (nI 268435455))) &&& (nI 268435455))) &&& (nI 268435455))) &&& (nI 268435455))), (4, .int ((nI 10) * (((nI 10) * (((nI 10) * (((nI 10) * (((nI 10) * (((nI 10) * (yF x)) &&& (nI 268435455))) &&& (nI 268435455))) &&& (nI 268435455))) &&& (nI 268435455))) &&& (nI 268435455)))), (3, .int (nI 5)), (0, .ref (fd)), (1, .int x)]) dJx40b00_append8Digits_d00df_34 (pc' := 35) rfl rfl (by decide) rfl ?_
              refine yy_iinc C (v := (nI 6)) (L' := [(3, .int (nI 6)), (2, .int (((nI 10) * (((nI 10) * (((nI 10) * (((nI 10) * (((nI 10) * (((nI 10) * (yF x)) &&& (nI 268435455))) &&& (nI 268435455))) &&& (nI 268435455))) &&& (nI 268435455))) &&& (nI 268435455))) &&& (nI 268435455))), (4, .int ((nI 10) * (((nI 10) * (((nI 10) * (((nI 10) * (((nI 10) * (((nI 10) * (yF x)) &&& (nI 268435455))) &&& (nI 268435455))) &&& (nI 268435455))) &&& (nI 268435455))) &&& (nI 268435455)))), (0, .ref (fd)), (1, .int x)]) 2 dJx40b00_append8Digits_d00df_35 (pc' := 38) rfl rfl (by decide) (by decide) rfl ?_
              refine yy_goto C (tgt := 8) dJx40b00_append8Digits_d00df_38 (by decide) ?_
              refine yy_iload_n C 0 dJx40b00_append8Digits_d00df_8 (pc' := 9) rfl rfl rfl ?_
              refine yy_bipush C (v := (nI 8)) dJx40b00_append8Digits_d00df_9 (pc' := 11) rfl (by decide) ?_
              refine yy_icmp_ge C dJx40b00_append8Digits_d00df_11 (pc' := 14) rfl (tgt := 41) (by decide) (fun c_11 => ?_) (fun c_11 => ?_)
              · skip
                exact absurd c_11 (by decide)
              · skip
                refine yy_bipush C (v := (nI 10)) dJx40b00_append8Digits_d00df_14 (pc' := 16) rfl (by decide) ?_
                refine yy_iload_n C 1 dJx40b00_append8Digits_d00df_16 (pc' := 17) rfl rfl rfl ?_
                refine yy_imul C (v := ((nI 10) * (((nI 10) * (((nI 10) * (((nI 10) * (((nI 10) * (((nI 10) * (((nI 10) * (yF x)) &&& (nI 268435455))) &&& (nI 268435455))) &&& (nI 268435455))) &&& (nI 268435455))) &&& (nI 268435455))) &&& (nI 268435455)))) dJx40b00_append8Digits_d00df_17 (pc' := 18) rfl rfl ?_
                refine yy_istore C (L' := [(4, .int ((nI 10) * (((nI 10) * (((nI 10) * (((nI 10) * (((nI 10) * (((nI 10) * (((nI 10) * (yF x)) &&& (nI 268435455))) &&& (nI 268435455))) &&& (nI 268435455))) &&& (nI 268435455))) &&& (nI 268435455))) &&& (nI 268435455)))), (3, .int (nI 6)), (2, .int (((nI 10) * (((nI 10) * (((nI 10) * (((nI 10) * (((nI 10) * (((nI 10) * (yF x)) &&& (nI 268435455))) &&& (nI 268435455))) &&& (nI 268435455))) &&& (nI 268435455))) &&& (nI 268435455))) &&& (nI 268435455))), (0, .ref (fd)), (1, .int x)]) dJx40b00_append8Digits_d00df_18 (pc' := 20) rfl (by decide) rfl ?_
                refine yy_aload_n C 3 dJx40b00_append8Digits_d00df_20 (pc' := 21) rfl rfl rfl ?_
                refine yy_iload C 0 dJx40b00_append8Digits_d00df_21 (pc' := 23) rfl rfl ?_
                refine yy_bipush C (v := (nI 28)) dJx40b00_append8Digits_d00df_23 (pc' := 25) rfl (by decide) ?_
                refine yy_iushr C (v := (ush32 ((nI 10) * (((nI 10) * (((nI 10) * (((nI 10) * (((nI 10) * (((nI 10) * (((nI 10) * (yF x)) &&& (nI 268435455))) &&& (nI 268435455))) &&& (nI 268435455))) &&& (nI 268435455))) &&& (nI 268435455))) &&& (nI 268435455))) (nI 28))) dJx40b00_append8Digits_d00df_25 (pc' := 26) rfl rfl ?_
                refine yc_v (yr_V C (n := 1) (As := [.int (ush32 ((nI 10) * (((nI 10) * (((nI 10) * (((nI 10) * (((nI 10) * (((nI 10) * (((nI 10) * (yF x)) &&& (nI 268435455))) &&& (nI 268435455))) &&& (nI 268435455))) &&& (nI 268435455))) &&& (nI 268435455))) &&& (nI 268435455))) (nI 28))]) (rest := []) lk_Jx40b00_132 cd_Jx40b00_appendDigit_d00df im_Jx40b00_appendDigit_d00df se_Jx40b00_appendDigit_d00df (mJx40b00_appendDigit_d00df l G B0 fd fb (upd (upd (upd (upd (upd (upd a (j + 1) (dgB (ush32 ((nI 10) * (yF x)) (nI 28)))) ((j + 1) + 1) (dgB (ush32 ((nI 10) * (((nI 10) * (yF x)) &&& (nI 268435455))) (nI 28)))) (((j + 1) + 1) + 1) (dgB (ush32 ((nI 10) * (((nI 10) * (((nI 10) * (yF x)) &&& (nI 268435455))) &&& (nI 268435455))) (nI 28)))) ((((j + 1) + 1) + 1) + 1) (dgB (ush32 ((nI 10) * (((nI 10) * (((nI 10) * (((nI 10) * (yF x)) &&& (nI 268435455))) &&& (nI 268435455))) &&& (nI 268435455))) (nI 28)))) (((((j + 1) + 1) + 1) + 1) + 1) (dgB (ush32 ((nI 10) * (((nI 10) * (((nI 10) * (((nI 10) * (((nI 10) * (yF x)) &&& (nI 268435455))) &&& (nI 268435455))) &&& (nI 268435455))) &&& (nI 268435455))) (nI 28)))) ((((((j + 1) + 1) + 1) + 1) + 1) + 1) (dgB (ush32 ((nI 10) * (((nI 10) * (((nI 10) * (((nI 10) * (((nI 10) * (((nI 10) * (yF x)) &&& (nI 268435455))) &&& (nI 268435455))) &&& (nI 268435455))) &&& (nI 268435455))) &&& (nI 268435455))) (nI 28)))) (nI ((((((j + 1) + 1) + 1) + 1) + 1) + 1)) (((((((j + 1) + 1) + 1) + 1) + 1) + 1) + 1) F (ush32 ((nI 10) * (((nI 10) * (((nI 10) * (((nI 10) * (((nI 10) * (((nI 10) * (((nI 10) * (yF x)) &&& (nI 268435455))) &&& (nI 268435455))) &&& (nI 268435455))) &&& (nI 268435455))) &&& (nI 268435455))) &&& (nI 268435455))) (nI 28)) (nI_add ((((((j + 1) + 1) + 1) + 1) + 1) + 1) 1) (by omega)) ⟨by decide, by decide⟩ ⟨by decide, by decide⟩ 0 rfl rfl rfl rfl (Nat.le_of_ble_eq_true rfl) dJx40b00_append8Digits_d00df_26) (pc' := 29) rfl (fun _ hw8 => ?_)
                refine yy_iload C 0 dJx40b00_append8Digits_d00df_29 (pc' := 31) rfl rfl ?_
                refine yy_ldci C (v := (nI 268435455)) dJx40b00_append8Digits_d00df_31 (pc' := 33) rfl li_Jx40b00_138 ?_
                refine yy_iand C (v := (((nI 10) * (((nI 10) * (((nI 10) * (((nI 10) * (((nI 10) * (((nI 10) * (((nI 10) * (yF x)) &&& (nI 268435455))) &&& (nI 268435455))) &&& (nI 268435455))) &&& (nI 268435455))) &&& (nI 268435455))) &&& (nI 268435455))) &&& (nI 268435455))) dJx40b00_append8Digits_d00df_33 (pc' := 34) rfl rfl ?_
                refine yy_istore_n C (L' := [(2, .int (((nI 10) * (((nI 10) * (((nI 10) * (((nI 10) * (((nI 10) * (((nI 10) * (((nI 10) * (yF x)) &&& (nI 268435455))) &&& (nI 268435455))) &&& (nI 268435455))) &&& (nI 268435455))) &&& (nI 268435455))) &&& (nI 268435455))) &&& (nI 268435455))), (4, .int ((nI 10) * (((nI 10) * (((nI 10) * (((nI 10) * (((nI 10) * (((nI 10) * (((nI 10) * (yF x)) &&& (nI 268435455))) &&& (nI 268435455))) &&& (nI 268435455))) &&& (nI 268435455))) &&& (nI 268435455))) &&& (nI 268435455)))), (3, .int (nI 6)), (0, .ref (fd)), (1, .int x)]) dJx40b00_append8Digits_d00df_34 (pc' := 35) rfl rfl (by decide) rfl ?_
                refine yy_iinc C (v := (nI 7)) (L' := [(3, .int (nI 7)), (2, .int (((nI 10) * (((nI 10) * (((nI 10) * (((nI 10) * (((nI 10) * (((nI 10) * (((nI 10) * (yF x)) &&& (nI 268435455))) &&& (nI 268435455))) &&& (nI 268435455))) &&& (nI 268435455))) &&& (nI 268435455))) &&& (nI 268435455))) &&& (nI 268435455))), (4, .int ((nI 10) * (((nI 10) * (((nI 10) * (((nI 10) * (((nI 10) * (((nI 10) * (((nI 10) * (yF x)) &&& (nI 268435455))) &&& (nI 268435455))) &&& (nI 268435455))) &&& (nI 268435455))) &&& (nI 268435455))) &&& (nI 268435455)))), (0, .ref (fd)), (1, .int x)]) 2 dJx40b00_append8Digits_d00df_35 (pc' := 38) rfl rfl (by decide) (by decide) rfl ?_
                refine yy_goto C (tgt := 8) dJx40b00_append8Digits_d00df_38 (by decide) ?_
                refine yy_iload_n C 0 dJx40b00_append8Digits_d00df_8 (pc' := 9) rfl rfl rfl ?_
                refine yy_bipush C (v := (nI 8)) dJx40b00_append8Digits_d00df_9 (pc' := 11) rfl (by decide) ?_
                refine yy_icmp_ge C dJx40b00_append8Digits_d00df_11 (pc' := 14) rfl (tgt := 41) (by decide) (fun c_11 => ?_) (fun c_11 => ?_)
                · skip
                  exact absurd c_11 (by decide)
                · skip
                  refine yy_bipush C (v := (nI 10)) dJx40b00_append8Digits_d00df_14 (pc' := 16) rfl (by decide) ?_
                  refine yy_iload_n C 1 dJx40b00_append8Digits_d00df_16 (pc' := 17) rfl rfl rfl ?_
                  refine yy_imul C (v := ((nI 10) * (((nI 10) * (((nI 10) * (((nI 10) * (((nI 10) * (((nI 10) * (((nI 10) * (((nI 10) * (yF x)) &&& (nI 268435455))) &&& (nI 268435455))) &&& (nI 268435455))) &&& (nI 268435455))) &&& (nI 268435455))) &&& (nI 268435455))) &&& (nI 268435455)))) dJx40b00_append8Digits_d00df_17 (pc' := 18) rfl rfl ?_
                  refine yy_istore C (L' := [(4, .int ((nI 10) * (((nI 10) * (((nI 10) * (((nI 10) * (((nI 10) * (((nI 10) * (((nI 10) * (((nI 10) * (yF x)) &&& (nI 268435455))) &&& (nI 268435455))) &&& (nI 268435455))) &&& (nI 268435455))) &&& (nI 268435455))) &&& (nI 268435455))) &&& (nI 268435455)))), (3, .int (nI 7)), (2, .int (((nI 10) * (((nI 10) * (((nI 10) * (((nI 10) * (((nI 10) * (((nI 10) * (((nI 10) * (yF x)) &&& (nI 268435455))) &&& (nI 268435455))) &&& (nI 268435455))) &&& (nI 268435455))) &&& (nI 268435455))) &&& (nI 268435455))) &&& (nI 268435455))), (0, .ref (fd)), (1, .int x)]) dJx40b00_append8Digits_d00df_18 (pc' := 20) rfl (by decide) rfl ?_
                  refine yy_aload_n C 3 dJx40b00_append8Digits_d00df_20 (pc' := 21) rfl rfl rfl ?_
                  refine yy_iload C 0 dJx40b00_append8Digits_d00df_21 (pc' := 23) rfl rfl ?_
                  refine yy_bipush C (v := (nI 28)) dJx40b00_append8Digits_d00df_23 (pc' := 25) rfl (by decide) ?_
                  refine yy_iushr C (v := (ush32 ((nI 10) * (((nI 10) * (((nI 10) * (((nI 10) * (((nI 10) * (((nI 10) * (((nI 10) * (((nI 10) * (yF x)) &&& (nI 268435455))) &&& (nI 268435455))) &&& (nI 268435455))) &&& (nI 268435455))) &&& (nI 268435455))) &&& (nI 268435455))) &&& (nI 268435455))) (nI 28))) dJx40b00_append8Digits_d00df_25 (pc' := 26) rfl rfl ?_
                  refine yc_v (yr_V C (n := 1) (As := [.int (ush32 ((nI 10) * (((nI 10) * (((nI 10) * (((nI 10) * (((nI 10) * (((nI 10) * (((nI 10) * (((nI 10) * (yF x)) &&& (nI 268435455))) &&& (nI 268435455))) &&& (nI 268435455))) &&& (nI 268435455))) &&& (nI 268435455))) &&& (nI 268435455))) &&& (nI 268435455))) (nI 28))]) (rest := []) lk_Jx40b00_132 cd_Jx40b00_appendDigit_d00df im_Jx40b00_appendDigit_d00df se_Jx40b00_appendDigit_d00df (mJx40b00_appendDigit_d00df l G B0 fd fb (upd (upd (upd (upd (upd (upd (upd a (j + 1) (dgB (ush32 ((nI 10) * (yF x)) (nI 28)))) ((j + 1) + 1) (dgB (ush32 ((nI 10) * (((nI 10) * (yF x)) &&& (nI 268435455))) (nI 28)))) (((j + 1) + 1) + 1) (dgB (ush32 ((nI 10) * (((nI 10) * (((nI 10) * (yF x)) &&& (nI 268435455))) &&& (nI 268435455))) (nI 28)))) ((((j + 1) + 1) + 1) + 1) (dgB (ush32 ((nI 10) * (((nI 10) * (((nI 10) * (((nI 10) * (yF x)) &&& (nI 268435455))) &&& (nI 268435455))) &&& (nI 268435455))) (nI 28)))) (((((j + 1) + 1) + 1) + 1) + 1) (dgB (ush32 ((nI 10) * (((nI 10) * (((nI 10) * (((nI 10) * (((nI 10) * (yF x)) &&& (nI 268435455))) &&& (nI 268435455))) &&& (nI 268435455))) &&& (nI 268435455))) (nI 28)))) ((((((j + 1) + 1) + 1) + 1) + 1) + 1) (dgB (ush32 ((nI 10) * (((nI 10) * (((nI 10) * (((nI 10) * (((nI 10) * (((nI 10) * (yF x)) &&& (nI 268435455))) &&& (nI 268435455))) &&& (nI 268435455))) &&& (nI 268435455))) &&& (nI 268435455))) (nI 28)))) (((((((j + 1) + 1) + 1) + 1) + 1) + 1) + 1) (dgB (ush32 ((nI 10) * (((nI 10) * (((nI 10) * (((nI 10) * (((nI 10) * (((nI 10) * (((nI 10) * (yF x)) &&& (nI 268435455))) &&& (nI 268435455))) &&& (nI 268435455))) &&& (nI 268435455))) &&& (nI 268435455))) &&& (nI 268435455))) (nI 28)))) (nI (((((((j + 1) + 1) + 1) + 1) + 1) + 1) + 1)) ((((((((j + 1) + 1) + 1) + 1) + 1) + 1) + 1) + 1) F (ush32 ((nI 10) * (((nI 10) * (((nI 10) * (((nI 10) * (((nI 10) * (((nI 10) * (((nI 10) * (((nI 10) * (yF x)) &&& (nI 268435455))) &&& (nI 268435455))) &&& (nI 268435455))) &&& (nI 268435455))) &&& (nI 268435455))) &&& (nI 268435455))) &&& (nI 268435455))) (nI 28)) (nI_add (((((((j + 1) + 1) + 1) + 1) + 1) + 1) + 1) 1) (by omega)) ⟨by decide, by decide⟩ ⟨by decide, by decide⟩ 0 rfl rfl rfl rfl (Nat.le_of_ble_eq_true rfl) dJx40b00_append8Digits_d00df_26) (pc' := 29) rfl (fun _ hw9 => ?_)
                  refine yy_iload C 0 dJx40b00_append8Digits_d00df_29 (pc' := 31) rfl rfl ?_
                  refine yy_ldci C (v := (nI 268435455)) dJx40b00_append8Digits_d00df_31 (pc' := 33) rfl li_Jx40b00_138 ?_
                  refine yy_iand C (v := (((nI 10) * (((nI 10) * (((nI 10) * (((nI 10) * (((nI 10) * (((nI 10) * (((nI 10) * (((nI 10) * (yF x)) &&& (nI 268435455))) &&& (nI 268435455))) &&& (nI 268435455))) &&& (nI 268435455))) &&& (nI 268435455))) &&& (nI 268435455))) &&& (nI 268435455))) &&& (nI 268435455))) dJx40b00_append8Digits_d00df_33 (pc' := 34) rfl rfl ?_
                  refine yy_istore_n C (L' := [(2, .int (((nI 10) * (((nI 10) * (((nI 10) * (((nI 10) * (((nI 10) * (((nI 10) * (((nI 10) * (((nI 10) * (yF x)) &&& (nI 268435455))) &&& (nI 268435455))) &&& (nI 268435455))) &&& (nI 268435455))) &&& (nI 268435455))) &&& (nI 268435455))) &&& (nI 268435455))) &&& (nI 268435455))), (4, .int ((nI 10) * (((nI 10) * (((nI 10) * (((nI 10) * (((nI 10) * (((nI 10) * (((nI 10) * (((nI 10) * (yF x)) &&& (nI 268435455))) &&& (nI 268435455))) &&& (nI 268435455))) &&& (nI 268435455))) &&& (nI 268435455))) &&& (nI 268435455))) &&& (nI 268435455)))), (3, .int (nI 7)), (0, .ref (fd)), (1, .int x)]) dJx40b00_append8Digits_d00df_34 (pc' := 35) rfl rfl (by decide) rfl ?_
                  refine yy_iinc C (v := (nI 8)) (L' := [(3, .int (nI 8)), (2, .int (((nI 10) * (((nI 10) * (((nI 10) * (((nI 10) * (((nI 10) * (((nI 10) * (((nI 10) * (((nI 10) * (yF x)) &&& (nI 268435455))) &&& (nI 268435455))) &&& (nI 268435455))) &&& (nI 268435455))) &&& (nI 268435455))) &&& (nI 268435455))) &&& (nI 268435455))) &&& (nI 268435455))), (4, .int ((nI 10) * (((nI 10) * (((nI 10) * (((nI 10) * (((nI 10) * (((nI 10) * (((nI 10) * (((nI 10) * (yF x)) &&& (nI 268435455))) &&& (nI 268435455))) &&& (nI 268435455))) &&& (nI 268435455))) &&& (nI 268435455))) &&& (nI 268435455))) &&& (nI 268435455)))), (0, .ref (fd)), (1, .int x)]) 2 dJx40b00_append8Digits_d00df_35 (pc' := 38) rfl rfl (by decide) (by decide) rfl ?_
                  refine yy_goto C (tgt := 8) dJx40b00_append8Digits_d00df_38 (by decide) ?_
                  refine yy_iload_n C 0 dJx40b00_append8Digits_d00df_8 (pc' := 9) rfl rfl rfl ?_
                  refine yy_bipush C (v := (nI 8)) dJx40b00_append8Digits_d00df_9 (pc' := 11) rfl (by decide) ?_
                  refine yy_icmp_ge C dJx40b00_append8Digits_d00df_11 (pc' := 14) rfl (tgt := 41) (by decide) (fun c_11 => ?_) (fun c_11 => ?_)
                  · skip
                    subst hQ
                    exact ye_v C hr () dJx40b00_append8Digits_d00df_41 rfl (by decide) (by decide) trivial
                  · skip
                    exact absurd c_11 (by decide)

abbrev rJx40b00_removeTrailingZeroes_da8c8 : Room := { frames := 0, cells := 0, slots := 0, locals := 0 }
set_option maxHeartbeats 4000000 in
set_option maxRecDepth 100000 in
theorem mJx40b00_removeTrailingZeroes_da8c8 (l : Launch) (G : gG) (B0 : Nat) (fd fb : Nat) (a : Nat → Int32) (j k0 : Nat) (F : va_W) (hj : j ≤ k0) (hk0 : k0 < 14) (hp : a j = nI 46) (hj1 : 1 ≤ j) : Met l yJx40b00_removeTrailingZeroes_da8c8 (Cond.code yJx40b00_removeTrailingZeroes_da8c8 cJx40b00_removeTrailingZeroes_da8c8 1 none :: WG) rJx40b00_removeTrailingZeroes_da8c8 (va_Pc [.ref (fd)] (PR G B0 (((fd, .inr (2, [.ref (fb), .int (nI k0)])) :: (fb, .inl (G.2.2.2.1, 15, .inl a)) :: F)))) (va_Qv (fun (_ : Unit) => True) (fun (_ : Unit) (t_ : State) => va_P G.1 vwCl (((fd, .inr (2, [.ref (fb), .int (nI (rtz a k0))])) :: (fb, .inl (G.2.2.2.1, 15, .inl a)) :: F)) t_.heap ∧ va_D (fun q => B0 ≤ q) (((fd, .inr (2, [.ref (fb), .int (nI (rtz a k0))])) :: (fb, .inl (G.2.2.2.1, 15, .inl a)) :: F))) (fun q => B0 ≤ q)) rJx40b00_removeTrailingZeroes_da8c8.cells rJx40b00_removeTrailingZeroes_da8c8.slots (fun q => B0 ≤ q) := by
  refine met_of RJx40b00 [(0, .ref (fd))] rfl (by decide) (Nat.le_of_ble_eq_true rfl) rfl ?_
  intro p e s m args below meth c C hr hnm
  refine yq ?_
  intro QQ hQ
  have lp_0 : ∀ (f_ : Nat) (k : Nat), (hk : j ≤ k) → (hk2 : k < 14) → (he : rtz a k = rtz a k0) → k < f_ → YY p l e rJx40b00_removeTrailingZeroes_da8c8 s m args below meth c G B0 1 QQ 0 [(0, .ref (fd))] [] (((fd, .inr (2, [.ref (fb), .int (nI k)])) :: (fb, .inl (G.2.2.2.1, 15, .inl a)) :: F)) 0 0 := by
    intro f_
    induction f_ with
    | zero => intro k hk hk2 he hf_; exact absurd hf_ (Nat.not_lt_zero _)
    | succ f_ ih =>
      intro k hk hk2 he hf_
      refine yy_aload_n C 0 dJx40b00_removeTrailingZeroes_da8c8_0 (pc' := 1) rfl rfl rfl ?_
      refine yy_get C (v := .ref (fb)) fk_Jx40b00_11 0 dJx40b00_removeTrailingZeroes_da8c8_1 (pc' := 4) rfl rfl rfl ?_
      refine yy_aload_n C 0 dJx40b00_removeTrailingZeroes_da8c8_4 (pc' := 5) rfl rfl rfl ?_
      refine yy_get C (v := .int (nI k)) fk_Jx40b00_42 0 dJx40b00_removeTrailingZeroes_da8c8_5 (pc' := 8) rfl rfl rfl ?_
      refine yy_bald C 1 dJx40b00_removeTrailingZeroes_da8c8_8 (pc' := 9) rfl rfl (by omega) (by omega) ?_
      refine yy_bipush C (v := (nI 48)) dJx40b00_removeTrailingZeroes_da8c8_9 (pc' := 11) rfl (by decide) ?_
      refine yy_icmp_ne C dJx40b00_removeTrailingZeroes_da8c8_11 (pc' := 14) rfl (tgt := 27) (by decide) (fun c_11 => ?_) (fun c_11 => ?_)
      · skip
        refine yy_aload_n C 0 dJx40b00_removeTrailingZeroes_da8c8_27 (pc' := 28) rfl rfl rfl ?_
        refine yy_get C (v := .ref (fb)) fk_Jx40b00_11 0 dJx40b00_removeTrailingZeroes_da8c8_28 (pc' := 31) rfl rfl rfl ?_
        refine yy_aload_n C 0 dJx40b00_removeTrailingZeroes_da8c8_31 (pc' := 32) rfl rfl rfl ?_
        refine yy_get C (v := .int (nI k)) fk_Jx40b00_42 0 dJx40b00_removeTrailingZeroes_da8c8_32 (pc' := 35) rfl rfl rfl ?_
        refine yy_bald C 1 dJx40b00_removeTrailingZeroes_da8c8_35 (pc' := 36) rfl rfl (by omega) (by omega) ?_
        refine yy_bipush C (v := (nI 46)) dJx40b00_removeTrailingZeroes_da8c8_36 (pc' := 38) rfl (by decide) ?_
        refine yy_icmp_ne C dJx40b00_removeTrailingZeroes_da8c8_38 (pc' := 41) rfl (tgt := 51) (by decide) (fun c_38 => ?_) (fun c_38 => ?_)
        · skip
          subst hQ
          exact ye_v C hr () dJx40b00_removeTrailingZeroes_da8c8_51 (by rw [← he]; obtain ⟨k', rfl⟩ : ∃ k', k = k' + 1 := ⟨k - 1, by omega⟩; rw [rtz, if_neg c_11, if_neg c_38]) (by decide) (by decide) trivial
        · skip
          refine yy_aload_n C 0 dJx40b00_removeTrailingZeroes_da8c8_41 (pc' := 42) rfl rfl rfl ?_
          refine yy_dup C dJx40b00_removeTrailingZeroes_da8c8_42 (pc' := 43) rfl rfl ?_
          refine yy_get C (v := .int (nI k)) fk_Jx40b00_42 0 dJx40b00_removeTrailingZeroes_da8c8_43 (pc' := 46) rfl rfl rfl ?_
          refine yy_iconst C (v := (nI 1)) dJx40b00_removeTrailingZeroes_da8c8_46 (pc' := 47) rfl (by decide) ?_
          refine yy_iadd C (v := (nI (k + 1))) dJx40b00_removeTrailingZeroes_da8c8_47 (pc' := 48) rfl (nI_add k 1) ?_
          refine yy_put C (w' := ((fd, .inr (2, [.ref (fb), .int (nI (k + 1))])) :: (fb, .inl (G.2.2.2.1, 15, .inl a)) :: F)) fk_Jx40b00_42 fpJx40b00 rfl 0 dJx40b00_removeTrailingZeroes_da8c8_48 (pc' := 51) rfl rfl rfl rfl (Nat.le_of_ble_eq_true rfl) rfl ?_
          subst hQ
          exact ye_v C hr () dJx40b00_removeTrailingZeroes_da8c8_51 (by rw [← he]; obtain ⟨k', rfl⟩ : ∃ k', k = k' + 1 := ⟨k - 1, by omega⟩; rw [rtz, if_neg c_11, if_pos c_38]) (by decide) (by decide) trivial
      · skip
        have hkj : ¬ k = j := fun z => by
          rw [z, hp] at c_11; exact absurd c_11 (by decide)
        refine yy_aload_n C 0 dJx40b00_removeTrailingZeroes_da8c8_14 (pc' := 15) rfl rfl rfl ?_
        refine yy_dup C dJx40b00_removeTrailingZeroes_da8c8_15 (pc' := 16) rfl rfl ?_
        refine yy_get C (v := .int (nI k)) fk_Jx40b00_42 0 dJx40b00_removeTrailingZeroes_da8c8_16 (pc' := 19) rfl rfl rfl ?_
        refine yy_iconst C (v := (nI 1)) dJx40b00_removeTrailingZeroes_da8c8_19 (pc' := 20) rfl (by decide) ?_
        refine yy_isub C (v := (nI (k - 1))) dJx40b00_removeTrailingZeroes_da8c8_20 (pc' := 21) rfl (pk_sub (a := k) (b := 1) (by omega)) ?_
        refine yy_put C (w' := ((fd, .inr (2, [.ref (fb), .int (nI (k - 1))])) :: (fb, .inl (G.2.2.2.1, 15, .inl a)) :: F)) fk_Jx40b00_42 fpJx40b00 rfl 0 dJx40b00_removeTrailingZeroes_da8c8_21 (pc' := 24) rfl rfl rfl rfl (Nat.le_of_ble_eq_true rfl) rfl ?_
        refine yy_goto C (tgt := 0) dJx40b00_removeTrailingZeroes_da8c8_24 (by decide) ?_
        refine yy_loc [0] rfl ?_
        exact ih (k - 1) (by omega) (by omega) (by rw [← he]; obtain ⟨k', rfl⟩ : ∃ k', k = k' + 1 := ⟨k - 1, by omega⟩; exact (if_pos c_11).symm) (by omega)
  refine yy_loc (L' := [(0, .ref (fd))]) [0] rfl ?_
  exact lp_0 (k0 + 1) k0 hj hk0 rfl (Nat.lt_succ_self _)
