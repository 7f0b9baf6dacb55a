theorem a8_lo : ∀ {n : Nat} {a : Nat → Int32} {j : Nat} {y : Int32} {i : Nat}, i ≤ j → a8 n a j y i = a i
  | 0, _, _, _, _, _ => rfl
  | n + 1, a, j, y, i, h => by
    rw [a8, a8_lo (by omega), pk_un (by omega)]
def pB : Int32 := (nI 46).toInt8.toInt32
def tcA1 (a : Nat → Int32) (h lo : Int32) : Nat → Int32 := a8 8 (upd (upd a 0 (dgB h)) 1 ((nI 46).toInt8.toInt32)) 1 (yF lo)
def tcA2 (e : Int32) (a : Nat → Int32) (h lo : Int32) : Nat → Int32 := if e = nI 0 then a8 8 (upd (upd (upd a 0 (dgB (nI 0))) 1 ((nI 46).toInt8.toInt32)) 2 (dgB h)) 2 (yF lo) else a8 8 (upd (upd (upd (upd a 0 (dgB (nI 0))) 1 ((nI 46).toInt8.toInt32)) 2 (dgB (nI 0))) 3 (dgB h)) 3 (yF lo)
def tcK2 (e : Int32) : Nat := if e = nI 0 then 10 else 11
def tcL0 (f : Int32) : Int32 := fl10 (nI 32 - nlzF f)
def tcLn (f : Int32) : Int32 := if lg_cmp f.toInt64 (tbP (ix (tcL0 f))) < 0 then tcL0 f else tcL0 f + Int32.ofInt (1)
def tcF2 (f : Int32) : Int32 := f * (tbP (ix (nI 9 - tcLn f))).toInt32
def tcH (f : Int32) : Int32 := (ush ((tcF2 f).toInt64 * (1441151881)) (nI 57)).toInt32
def tcLo (f : Int32) : Int32 := tcF2 f - nI 100000000 * tcH f
def tcA (a : Nat → Int32) (f e : Int32) : Nat → Int32 := if e + tcLn f = nI 1 then tcA1 a (tcH f) (tcLo f) else tcA2 (e + tcLn f) a (tcH f) (tcLo f)
def tcR (a : Nat → Int32) (f e : Int32) : Nat := if e + tcLn f = nI 1 then rtz (tcA1 a (tcH f) (tcLo f)) 9 else rtz (tcA2 (e + tcLn f) a (tcH f) (tcLo f)) (tcK2 (e + tcLn f))
def okTC (f e : Int32) : Prop := ix (tcL0 f) < 18 ∧ ix (nI 9 - tcLn f) < 18 ∧ (e + tcLn f = nI 1 ∨ e + tcLn f = nI 0 ∨ e + tcLn f = -1)
theorem m1_ne0 : ¬ ((-1 : Int32) = nI 0) := by decide
theorem n0_ne1 : ¬ (nI 0 = nI 1) := by decide
theorem m1_ne1 : ¬ ((-1 : Int32) = nI 1) := by decide
abbrev rJx40b00_toChars1_cabcc : Room := { frames := 2, cells := 0, slots := 0, locals := 60 }
set_option maxHeartbeats 4000000 in
set_option maxRecDepth 100000 in
theorem mJx40b00_toChars1_cabcc (l : Launch) (G : gG) (B0 : Nat) (fd fb : Nat) (a : Nat → Int32) (F : va_W) (h lo e_ : Int32) (he : e_ = nI 1) : Met l yJx40b00_toChars1_cabcc (Cond.code yJx40b00_toChars1_cabcc cJx40b00_toChars1_cabcc 7 (some .int) :: WG) rJx40b00_toChars1_cabcc (va_Pc [.ref (fd), .int h, .int lo, .int e_] (PR G B0 (((fd, .inr (2, [.ref (fb), .int (-1)])) :: (fb, .inl (G.2.2.2.1, 15, .inl a)) :: F)))) (va_Qi (fun (r : Int32) (_ : Unit) => r = nI 0) (fun (_ : Unit) (t_ : State) => va_P G.1 vwCl (((fd, .inr (2, [.ref (fb), .int (nI (rtz (tcA1 a h lo) 9))])) :: (fb, .inl (G.2.2.2.1, 15, .inl (tcA1 a h lo))) :: F)) t_.heap ∧ va_D (fun q => B0 ≤ q) (((fd, .inr (2, [.ref (fb), .int (nI (rtz (tcA1 a h lo) 9))])) :: (fb, .inl (G.2.2.2.1, 15, .inl (tcA1 a h lo))) :: F))) (fun q => B0 ≤ q)) rJx40b00_toChars1_cabcc.cells rJx40b00_toChars1_cabcc.slots (fun q => B0 ≤ q) := by
  refine met_of RJx40b00 [(0, .ref (fd)), (1, .int h), (2, .int lo), (3, .int e_)] rfl (by decide) (Nat.le_of_ble_eq_true rfl) rfl ?_
  intro p e s m args below meth c C hr hnm
  refine yq ?_
  intro QQ hQ
  subst he
  · skip
    refine yy_aload_n C 0 dJx40b00_toChars1_cabcc_0 (pc' := 1) rfl rfl rfl ?_
    refine yy_iload_n C 1 dJx40b00_toChars1_cabcc_1 (pc' := 2) rfl rfl rfl ?_
    refine yc_v (yr_V C (n := 1) (As := [.int h]) (rest := []) lk_Jx40b00_132 cd_Jx40b00_appendDigit_d00df im_Jx40b00_appendDigit_d00df se_Jx40b00_appendDigit_d00df (mJx40b00_appendDigit_d00df l G B0 fd fb a (-1) 0 F h (by decide) (by decide)) ⟨by decide, by decide⟩ ⟨by decide, by decide⟩ 0 rfl rfl rfl rfl (Nat.le_of_ble_eq_true rfl) dJx40b00_toChars1_cabcc_2) (pc' := 5) rfl (fun _ hw1 => ?_)
    refine yy_aload_n C 0 dJx40b00_toChars1_cabcc_5 (pc' := 6) rfl rfl rfl ?_
    refine yy_iload_n C 2 dJx40b00_toChars1_cabcc_6 (pc' := 7) rfl rfl rfl ?_
    refine yc_i (yr_V C (n := 1) (As := [.int lo]) (rest := []) lk_Jx40b00_135 cd_Jx40b00_y_0f7a4 im_Jx40b00_y_0f7a4 se_Jx40b00_y_0f7a4 (mJx40b00_y_0f7a4 l G B0 fd fb (nI 0) (upd a 0 (dgB h)) F lo) ⟨by decide, by decide⟩ ⟨by decide, by decide⟩ 0 rfl rfl rfl rfl (Nat.le_of_ble_eq_true rfl) dJx40b00_toChars1_cabcc_7) (pc' := 10) rfl (fun r2 _ hw2 => ?_)
    subst hw2
    refine yy_istore C (L' := [(4, .int (yF lo)), (0, .ref (fd)), (1, .int h), (2, .int lo), (3, .int (nI 1))]) dJx40b00_toChars1_cabcc_10 (pc' := 12) rfl (by decide) rfl ?_
    refine yy_iconst C (v := (nI 1)) dJx40b00_toChars1_cabcc_12 (pc' := 13) rfl (by decide) ?_
    refine yy_istore C (L' := [(6, .int (nI 1)), (4, .int (yF lo)), (0, .ref (fd)), (1, .int h), (2, .int lo), (3, .int (nI 1))]) dJx40b00_toChars1_cabcc_13 (pc' := 15) rfl (by decide) rfl ?_
    refine yy_iload C 0 dJx40b00_toChars1_cabcc_15 (pc' := 17) rfl rfl ?_
    refine yy_iload_n C 5 dJx40b00_toChars1_cabcc_17 (pc' := 18) rfl rfl rfl ?_
    refine yy_icmp_ge C dJx40b00_toChars1_cabcc_18 (pc' := 21) rfl (tgt := 50) (by decide) (fun c_18 => ?_) (fun c_18 => ?_)
    · skip
      refine yy_aload_n C 2 dJx40b00_toChars1_cabcc_50 (pc' := 51) rfl rfl rfl ?_
      refine yy_bipush C (v := (nI 46)) dJx40b00_toChars1_cabcc_51 (pc' := 53) rfl (by decide) ?_
      refine yc_v (yr_V C (n := 1) (As := [.int (nI 46)]) (rest := []) lk_Jx40b00_69 cd_Jx40b00_append_d00df im_Jx40b00_append_d00df se_Jx40b00_append_d00df (mJx40b00_append_d00df l G B0 fd fb (upd a 0 (dgB h)) (nI 0) 1 F (nI 46) (by decide) (by decide)) ⟨by decide, by decide⟩ ⟨by decide, by decide⟩ 0 rfl rfl rfl rfl (Nat.le_of_ble_eq_true rfl) dJx40b00_toChars1_cabcc_53) (pc' := 56) rfl (fun _ hw3 => ?_)
      refine yy_iload C 0 dJx40b00_toChars1_cabcc_56 (pc' := 58) rfl rfl ?_
      refine yy_bipush C (v := (nI 8)) dJx40b00_toChars1_cabcc_58 (pc' := 60) rfl (by decide) ?_
      refine yy_icmp_gt C dJx40b00_toChars1_cabcc_60 (pc' := 63) rfl (tgt := 92) (by decide) (fun c_60 => ?_) (fun c_60 => ?_)
      · skip
        exact absurd c_60 (by decide)
      · skip
        refine yy_bipush C (v := (nI 10)) dJx40b00_toChars1_cabcc_63 (pc' := 65) rfl (by decide) ?_
        refine yy_iload C 1 dJx40b00_toChars1_cabcc_65 (pc' := 67) rfl rfl ?_
        refine yy_imul C (v := ((nI 10) * (yF lo))) dJx40b00_toChars1_cabcc_67 (pc' := 68) rfl rfl ?_
        refine yy_istore C (L' := [(5, .int ((nI 10) * (yF lo))), (6, .int (nI 1)), (4, .int (yF lo)), (0, .ref (fd)), (1, .int h), (2, .int lo), (3, .int (nI 1))]) dJx40b00_toChars1_cabcc_68 (pc' := 70) rfl (by decide) rfl ?_
        refine yy_aload_n C 3 dJx40b00_toChars1_cabcc_70 (pc' := 71) rfl rfl rfl ?_
        refine yy_iload C 0 dJx40b00_toChars1_cabcc_71 (pc' := 73) rfl rfl ?_
        refine yy_bipush C (v := (nI 28)) dJx40b00_toChars1_cabcc_73 (pc' := 75) rfl (by decide) ?_
        refine yy_iushr C (v := (ush32 ((nI 10) * (yF lo)) (nI 28))) dJx40b00_toChars1_cabcc_75 (pc' := 76) rfl rfl ?_
        refine yc_v (yr_V C (n := 1) (As := [.int (ush32 ((nI 10) * (yF lo)) (nI 28))]) (rest := []) lk_Jx40b00_132 cd_Jx40b00_appendDigit_d00df im_Jx40b00_appendDigit_d00df se_Jx40b00_appendDigit_d00df (mJx40b00_appendDigit_d00df l G B0 fd fb (upd (upd a 0 (dgB h)) 1 (((nI 46)).toInt8.toInt32)) (nI 1) 2 F (ush32 ((nI 10) * (yF lo)) (nI 28)) (by decide) (by decide)) ⟨by decide, by decide⟩ ⟨by decide, by decide⟩ 0 rfl rfl rfl rfl (Nat.le_of_ble_eq_true rfl) dJx40b00_toChars1_cabcc_76) (pc' := 79) rfl (fun _ hw4 => ?_)
        refine yy_iload C 0 dJx40b00_toChars1_cabcc_79 (pc' := 81) rfl rfl ?_
        refine yy_ldci C (v := (nI 268435455)) dJx40b00_toChars1_cabcc_81 (pc' := 83) rfl li_Jx40b00_138 ?_
        refine yy_iand C (v := (((nI 10) * (yF lo)) &&& (nI 268435455))) dJx40b00_toChars1_cabcc_83 (pc' := 84) rfl rfl ?_
        refine yy_istore C (L' := [(4, .int (((nI 10) * (yF lo)) &&& (nI 268435455))), (5, .int ((nI 10) * (yF lo))), (6, .int (nI 1)), (0, .ref (fd)), (1, .int h), (2, .int lo), (3, .int (nI 1))]) dJx40b00_toChars1_cabcc_84 (pc' := 86) rfl (by decide) rfl ?_
        refine yy_iinc C (v := (nI 2)) (L' := [(6, .int (nI 2)), (4, .int (((nI 10) * (yF lo)) &&& (nI 268435455))), (5, .int ((nI 10) * (yF lo))), (0, .ref (fd)), (1, .int h), (2, .int lo), (3, .int (nI 1))]) 2 dJx40b00_toChars1_cabcc_86 (pc' := 89) rfl rfl (by decide) (by decide) rfl ?_
        refine yy_goto C (tgt := 56) dJx40b00_toChars1_cabcc_89 (by decide) ?_
        refine yy_iload C 0 dJx40b00_toChars1_cabcc_56 (pc' := 58) rfl rfl ?_
        refine yy_bipush C (v := (nI 8)) dJx40b00_toChars1_cabcc_58 (pc' := 60) rfl (by decide) ?_
        refine yy_icmp_gt C dJx40b00_toChars1_cabcc_60 (pc' := 63) rfl (tgt := 92) (by decide) (fun c_60 => ?_) (fun c_60 => ?_)
        · skip
          exact absurd c_60 (by decide)
        · skip
          refine yy_bipush C (v := (nI 10)) dJx40b00_toChars1_cabcc_63 (pc' := 65) rfl (by decide) ?_
          refine yy_iload C 1 dJx40b00_toChars1_cabcc_65 (pc' := 67) rfl rfl ?_
          refine yy_imul C (v := ((nI 10) * (((nI 10) * (yF lo)) &&& (nI 268435455)))) dJx40b00_toChars1_cabcc_67 (pc' := 68) rfl rfl ?_
          refine yy_istore C (L' := [(5, .int ((nI 10) * (((nI 10) * (yF lo)) &&& (nI 268435455)))), (6, .int (nI 2)), (4, .int (((nI 10) * (yF lo)) &&& (nI 268435455))), (0, .ref (fd)), (1, .int h), (2, .int lo), (3, .int (nI 1))]) dJx40b00_toChars1_cabcc_68 (pc' := 70) rfl (by decide) rfl ?_
          refine yy_aload_n C 3 dJx40b00_toChars1_cabcc_70 (pc' := 71) rfl rfl rfl ?_
          refine yy_iload C 0 dJx40b00_toChars1_cabcc_71 (pc' := 73) rfl rfl ?_
          refine yy_bipush C (v := (nI 28)) dJx40b00_toChars1_cabcc_73 (pc' := 75) rfl (by decide) ?_
          refine yy_iushr C (v := (ush32 ((nI 10) * (((nI 10) * (yF lo)) &&& (nI 268435455))) (nI 28))) dJx40b00_toChars1_cabcc_75 (pc' := 76) rfl rfl ?_
          refine yc_v (yr_V C (n := 1) (As := [.int (ush32 ((nI 10) * (((nI 10) * (yF lo)) &&& (nI 268435455))) (nI 28))]) (rest := []) lk_Jx40b00_132 cd_Jx40b00_appendDigit_d00df im_Jx40b00_appendDigit_d00df se_Jx40b00_appendDigit_d00df (mJx40b00_appendDigit_d00df l G B0 fd fb (upd (upd (upd a 0 (dgB h)) 1 (((nI 46)).toInt8.toInt32)) 2 (dgB (ush32 ((nI 10) * (yF lo)) (nI 28)))) (nI 2) 3 F (ush32 ((nI 10) * (((nI 10) * (yF lo)) &&& (nI 268435455))) (nI 28)) (by decide) (by decide)) ⟨by decide, by decide⟩ ⟨by decide, by decide⟩ 0 rfl rfl rfl rfl (Nat.le_of_ble_eq_true rfl) dJx40b00_toChars1_cabcc_76) (pc' := 79) rfl (fun _ hw5 => ?_)
          refine yy_iload C 0 dJx40b00_toChars1_cabcc_79 (pc' := 81) rfl rfl ?_
          refine yy_ldci C (v := (nI 268435455)) dJx40b00_toChars1_cabcc_81 (pc' := 83) rfl li_Jx40b00_138 ?_
          refine yy_iand C (v := (((nI 10) * (((nI 10) * (yF lo)) &&& (nI 268435455))) &&& (nI 268435455))) dJx40b00_toChars1_cabcc_83 (pc' := 84) rfl rfl ?_
          refine yy_istore C (L' := [(4, .int (((nI 10) * (((nI 10) * (yF lo)) &&& (nI 268435455))) &&& (nI 268435455))), (5, .int ((nI 10) * (((nI 10) * (yF lo)) &&& (nI 268435455)))), (6, .int (nI 2)), (0, .ref (fd)), (1, .int h), (2, .int lo), (3, .int (nI 1))]) dJx40b00_toChars1_cabcc_84 (pc' := 86) rfl (by decide) rfl ?_
          refine yy_iinc C (v := (nI 3)) (L' := [(6, .int (nI 3)), (4, .int (((nI 10) * (((nI 10) * (yF lo)) &&& (nI 268435455))) &&& (nI 268435455))), (5, .int ((nI 10) * (((nI 10) * (yF lo)) &&& (nI 268435455)))), (0, .ref (fd)), (1, .int h), (2, .int lo), (3, .int (nI 1))]) 2 dJx40b00_toChars1_cabcc_86 (pc' := 89) rfl rfl (by decide) (by decide) rfl ?_
          refine yy_goto C (tgt := 56) dJx40b00_toChars1_cabcc_89 (by decide) ?_
          refine yy_iload C 0 dJx40b00_toChars1_cabcc_56 (pc' := 58) rfl rfl ?_
          refine yy_bipush C (v := (nI 8)) dJx40b00_toChars1_cabcc_58 (pc' := 60) rfl (by decide) ?_
          refine yy_icmp_gt C dJx40b00_toChars1_cabcc_60 (pc' := 63) rfl (tgt := 92) (by decide) (fun c_60 => ?_) (fun c_60 => ?_)
          · skip
            exact absurd c_60 (by decide)
          · skip
            refine yy_bipush C (v := (nI 10)) dJx40b00_toChars1_cabcc_63 (pc' := 65) rfl (by decide) ?_
            refine yy_iload C 1 dJx40b00_toChars1_cabcc_65 (pc' := 67) rfl rfl ?_
            refine yy_imul C (v := ((nI 10) * (((nI 10) * (((nI 10) * (yF lo)) &&& (nI 268435455))) &&& (nI 268435455)))) dJx40b00_toChars1_cabcc_67 (pc' := 68) rfl rfl ?_
            refine yy_istore C (L' := [(5, .int ((nI 10) * (((nI 10) * (((nI 10) * (yF lo)) &&& (nI 268435455))) &&& (nI 268435455)))), (6, .int (nI 3)), (4, .int (((nI 10) * (((nI 10) * (yF lo)) &&& (nI 268435455))) &&& (nI 268435455))), (0, .ref (fd)), (1, .int h), (2, .int lo), (3, .int (nI 1))]) dJx40b00_toChars1_cabcc_68 (pc' := 70) rfl (by decide) rfl ?_
            refine yy_aload_n C 3 dJx40b00_toChars1_cabcc_70 (pc' := 71) rfl rfl rfl ?_
            refine yy_iload C 0 dJx40b00_toChars1_cabcc_71 (pc' := 73) rfl rfl ?_
            refine yy_bipush C (v := (nI 28)) dJx40b00_toChars1_cabcc_73 (pc' := 75) rfl (by decide) ?_
            refine yy_iushr C (v := (ush32 ((nI 10) * (((nI 10) * (((nI 10) * (yF lo)) &&& (nI 268435455))) &&& (nI 268435455))) (nI 28))) dJx40b00_toChars1_cabcc_75 (pc' := 76) rfl rfl ?_
            refine yc_v (yr_V C (n := 1) (As := [.int (ush32 ((nI 10) * (((nI 10) * (((nI 10) * (yF lo)) &&& (nI 268435455))) &&& (nI 268435455))) (nI 28))]) (rest := []) lk_Jx40b00_132 cd_Jx40b00_appendDigit_d00df im_Jx40b00_appendDigit_d00df se_Jx40b00_appendDigit_d00df (mJx40b00_appendDigit_d00df l G B0 fd fb (upd (upd (upd (upd a 0 (dgB h)) 1 (((nI 46)).toInt8.toInt32)) 2 (dgB (ush32 ((nI 10) * (yF lo)) (nI 28)))) 3 (dgB (ush32 ((nI 10) * (((nI 10) * (yF lo)) &&& (nI 268435455))) (nI 28)))) (nI 3) 4 F (ush32 ((nI 10) * (((nI 10) * (((nI 10) * (yF lo)) &&& (nI 268435455))) &&& (nI 268435455))) (nI 28)) (by decide) (by decide)) ⟨by decide, by decide⟩ ⟨by decide, by decide⟩ 0 rfl rfl rfl rfl (Nat.le_of_ble_eq_true rfl) dJx40b00_toChars1_cabcc_76) (pc' := 79) rfl (fun _ hw6 => ?_)
            refine yy_iload C 0 dJx40b00_toChars1_cabcc_79 (pc' := 81) rfl rfl ?_
            refine yy_ldci C (v := (nI 268435455)) dJx40b00_toChars1_cabcc_81 (pc' := 83) rfl li_Jx40b00_138 ?_
            refine yy_iand C (v := (((nI 10) * (((nI 10) * (((nI 10) * (yF lo)) &&& (nI 268435455))) &&& (nI 268435455))) &&& (nI 268435455))) dJx40b00_toChars1_cabcc_83 (pc' := 84) rfl rfl ?_
            refine yy_istore C (L' := [(4, .int (((nI 10) * (((nI 10) * (((nI 10) * (yF lo)) &&& (nI 268435455))) &&& (nI 268435455))) &&& (nI 268435455))), (5, .int ((nI 10) * (((nI 10) * (((nI 10) * (yF lo)) &&& (nI 268435455))) &&& (nI 268435455)))), (6, .int (nI 3)), (0, .ref (fd)), (1, .int h), (2, .int lo), (3, .int (nI 1))]) dJx40b00_toChars1_cabcc_84 (pc' := 86) rfl (by decide) rfl ?_
            refine yy_iinc C (v := (nI 4)) (L' := [(6, .int (nI 4)), (4, .int (((nI 10) * (((nI 10) * (((nI 10) * (yF lo)) &&& (nI 268435455))) &&& (nI 268435455))) &&& (nI 268435455))), (5, .int ((nI 10) * (((nI 10) * (((nI 10) * (yF lo)) &&& (nI 268435455))) &&& (nI 268435455)))), (0, .ref (fd)), (1, .int h), (2, .int lo), (3, .int (nI 1))]) 2 dJx40b00_toChars1_cabcc_86 (pc' := 89) rfl rfl (by decide) (by decide) rfl ?_
            refine yy_goto C (tgt := 56) dJx40b00_toChars1_cabcc_89 (by decide) ?_
            refine yy_iload C 0 dJx40b00_toChars1_cabcc_56 (pc' := 58) rfl rfl ?_
            refine yy_bipush C (v := (nI 8)) dJx40b00_toChars1_cabcc_58 (pc' := 60) rfl (by decide) ?_
            refine yy_icmp_gt C dJx40b00_toChars1_cabcc_60 (pc' := 63) rfl (tgt := 92) (by decide) (fun c_60 => ?_) (fun c_60 => ?_)
            · skip
              exact absurd c_60 (by decide)
            · skip
              refine yy_bipush C (v := (nI 10)) dJx40b00_toChars1_cabcc_63 (pc' := 65) rfl (by decide) ?_
              refine yy_iload C 1 dJx40b00_toChars1_cabcc_65 (pc' := 67) rfl rfl ?_
              refine yy_imul C (v := ((nI 10) * (((nI 10) * (((nI 10) * (((nI 10) * (yF lo)) &&& (nI 268435455))) &&& (nI 268435455))) &&& (nI 268435455)))) dJx40b00_toChars1_cabcc_67 (pc' := 68) rfl rfl ?_
              refine yy_istore C (L' := [(5, .int ((nI 10) * (((nI 10) * (((nI 10) * (((nI 10) * (yF lo)) &&& (nI 268435455))) &&& (nI 268435455))) &&& (nI 268435455)))), (6, .int (nI 4)), (4, .int (((nI 10) * (((nI 10) * (((nI 10) * (yF lo)) &&& (nI 268435455))) &&& (nI 268435455))) &&& (nI 268435455))), (0, .ref (fd)), (1, .int h), (2, .int lo), (3, .int (nI 1))]) dJx40b00_toChars1_cabcc_68 (pc' := 70) rfl (by decide) rfl ?_
              refine yy_aload_n C 3 dJx40b00_toChars1_cabcc_70 (pc' := 71) rfl rfl rfl ?_
              refine yy_iload C 0 dJx40b00_toChars1_cabcc_71 (pc' := 73) rfl rfl ?_
              refine yy_bipush C (v := (nI 28)) dJx40b00_toChars1_cabcc_73 (pc' := 75) rfl (by decide) ?_
              refine yy_iushr C (v := (ush32 ((nI 10) * (((nI 10) * (((nI 10) * (((nI 10) * (yF lo)) &&& (nI 268435455))) &&& (nI 268435455))) &&& (nI 268435455))) (nI 28))) dJx40b00_toChars1_cabcc_75 (pc' := 76) rfl rfl ?_
              refine yc_v (yr_V C (n := 1) (As := [.int (ush32 ((nI 10) * (((nI 10) * (((nI 10) * (((nI 10) * (yF lo)) &&& (nI 268435455))) &&& (nI 268435455))) &&& (nI 268435455))) (nI 28))]) (rest := []) lk_Jx40b00_132 cd_Jx40b00_appendDigit_d00df im_Jx40b00_appendDigit_d00df se_Jx40b00_appendDigit_d00df (mJx40b00_appendDigit_d00df l G B0 fd fb (upd (upd (upd (upd (upd a 0 (dgB h)) 1 (((nI 46)).toInt8.toInt32)) 2 (dgB (ush32 ((nI 10) * (yF lo)) (nI 28)))) 3 (dgB (ush32 ((nI 10) * (((nI 10) * (yF lo)) &&& (nI 268435455))) (nI 28)))) 4 (dgB (ush32 ((nI 10) * (((nI 10) * (((nI 10) * (yF lo)) &&& (nI 268435455))) &&& (nI 268435455))) (nI 28)))) (nI 4) 5 F (ush32 ((nI 10) * (((nI 10) * (((nI 10) * (((nI 10) * (yF lo)) &&& (nI 268435455))) &&& (nI 268435455))) &&& (nI 268435455))) (nI 28)) (by decide) (by decide)) ⟨by decide, by decide⟩ ⟨by decide, by decide⟩ 0 rfl rfl rfl rfl (Nat.le_of_ble_eq_true rfl) dJx40b00_toChars1_cabcc_76) (pc' := 79) rfl (fun _ hw7 => ?_)
              refine yy_iload C 0 dJx40b00_toChars1_cabcc_79 (pc' := 81) rfl rfl ?_
              refine yy_ldci C (v := (nI 268435455)) dJx40b00_toChars1_cabcc_81 (pc' := 83) rfl li_Jx40b00_138 ?_
              refine yy_iand C (v := (((nI 10) * (((nI 10) * (((nI 10) * (((nI 10) * (yF lo)) &&& (nI 268435455))) &&& (nI 268435455))) &&& (nI 268435455))) &&& (nI 268435455))) dJx40b00_toChars1_cabcc_83 (pc' := 84) rfl rfl ?_
              refine yy_istore C (L' := [(4, .int (((nI 10) * (((nI 10) * (((nI 10) * (((nI 10) * (yF lo)) &&& (nI 268435455))) &&& (nI 268435455))) &&& (nI 268435455))) &&& (nI 268435455))), (5, .int ((nI 10) * (((nI 10) * (((nI 10) * (((nI 10) * (yF lo)) &&& (nI 268435455))) &&& (nI 268435455))) &&& (nI 268435455)))), (6, .int (nI 4)), (0, .ref (fd)), (1, .int h), (2, .int lo), (3, .int (nI 1))]) dJx40b00_toChars1_cabcc_84 (pc' := 86) rfl (by decide) rfl ?_
              refine yy_iinc C (v := (nI 5)) (L' := [(6, .int (nI 5)), (4, .int (((nI 10) * (((nI 10) * (((nI 10) * (((nI 10) * (yF lo)) &&& (nI 268435455))) &&& (nI 268435455))) &&& (nI 268435455))) &&& (nI 268435455))), (5, .int ((nI 10) * (((nI 10) * (((nI 10) * (((nI 10) * (yF lo)) &&& (nI 268435455))) &&& (nI 268435455))) &&& (nI 268435455)))), (0, .ref (fd)), (1, .int h), (2, .int lo), (3, .int (nI 1))]) 2 dJx40b00_toChars1_cabcc_86 (pc' := 89) rfl rfl (by decide) (by decide) rfl ?_
              refine yy_goto C (tgt := 56) dJx40b00_toChars1_cabcc_89 (by decide) ?_
              refine yy_iload C 0 dJx40b00_toChars1_cabcc_56 (pc' := 58) rfl rfl ?_
              refine yy_bipush C (v := (nI 8)) dJx40b00_toChars1_cabcc_58 (pc' := 60) rfl (by decide) ?_
              refine yy_icmp_gt C dJx40b00_toChars1_cabcc_60 (pc' := 63) rfl (tgt := 92) (by decide) (fun c_60 => ?_) (fun c_60 => ?_)
              · skip
                exact absurd c_60 (by decide)
              · skip
                refine yy_bipush C (v := (nI 10)) dJx40b00_toChars1_cabcc_63 (pc' := 65) rfl (by decide) ?_
                refine yy_iload C 1 dJx40b00_toChars1_cabcc_65 (pc' := 67) rfl rfl ?_
                refine yy_imul C (v := ((nI 10) * (((nI 10) * (((nI 10) * (((nI 10) * (((nI 10) * (yF lo)) &&& (nI 268435455))) &&& (nI 268435455))) &&& (nI 268435455))) &&& (nI 268435455)))) dJx40b00_toChars1_cabcc_67 (pc' := 68) rfl rfl ?_
                refine yy_istore C (L' := [(5, .int ((nI 10) * (((nI 10) * (((nI 10) * (((nI 10) * (((nI 10) * (yF lo)) &&& (nI 268435455))) &&& (nI 268435455))) &&& (nI 268435455))) &&& (nI 268435455)))), (6, .int (nI 5)), (4, .int (((nI 10) * (((nI 10) * (((nI 10) * (((nI 10) * (yF lo)) &&& (nI 268435455))) &&& (nI 268435455))) &&& (nI 268435455))) &&& (nI 268435455))), (0, .ref (fd)), (1, .int h), (2, .int lo), (3, .int (nI 1))]) dJx40b00_toChars1_cabcc_68 (pc' := 70) rfl (by decide) rfl ?_
                refine yy_aload_n C 3 dJx40b00_toChars1_cabcc_70 (pc' := 71) rfl rfl rfl ?_
                refine yy_iload C 0 dJx40b00_toChars1_cabcc_71 (pc' := 73) rfl rfl ?_
                refine yy_bipush C (v := (nI 28)) dJx40b00_toChars1_cabcc_73 (pc' := 75) rfl (by decide) ?_
                refine yy_iushr C (v := (ush32 ((nI 10) * (((nI 10) * (((nI 10) * (((nI 10) * (((nI 10) * (yF lo)) &&& (nI 268435455))) &&& (nI 268435455))) &&& (nI 268435455))) &&& (nI 268435455))) (nI 28))) dJx40b00_toChars1_cabcc_75 (pc' := 76) rfl rfl ?_
                refine yc_v (yr_V C (n := 1) (As := [.int (ush32 ((nI 10) * (((nI 10) * (((nI 10) * (((nI 10) * (((nI 10) * (yF lo)) &&& (nI 268435455))) &&& (nI 268435455))) &&& (nI 268435455))) &&& (nI 268435455))) (nI 28))]) (rest := []) lk_Jx40b00_132 cd_Jx40b00_appendDigit_d00df im_Jx40b00_appendDigit_d00df se_Jx40b00_appendDigit_d00df (mJx40b00_appendDigit_d00df l G B0 fd fb (upd (upd (upd (upd (upd (upd a 0 (dgB h)) 1 (((nI 46)).toInt8.toInt32)) 2 (dgB (ush32 ((nI 10) * (yF lo)) (nI 28)))) 3 (dgB (ush32 ((nI 10) * (((nI 10) * (yF lo)) &&& (nI 268435455))) (nI 28)))) 4 (dgB (ush32 ((nI 10) * (((nI 10) * (((nI 10) * (yF lo)) &&& (nI 268435455))) &&& (nI 268435455))) (nI 28)))) 5 (dgB (ush32 ((nI 10) * (((nI 10) * (((nI 10) * (((nI 10) * (yF lo)) &&& (nI 268435455))) &&& (nI 268435455))) &&& (nI 268435455))) (nI 28)))) (nI 5) 6 F (ush32 ((nI 10) * (((nI 10) * (((nI 10) * (((nI 10) * (((nI 10) * (yF lo)) &&& (nI 268435455))) &&& (nI 268435455))) &&& (nI 268435455))) &&& (nI 268435455))) (nI 28)) (by decide) (by decide)) ⟨by decide, by decide⟩ ⟨by decide, by decide⟩ 0 rfl rfl rfl rfl (Nat.le_of_ble_eq_true rfl) dJx40b00_toChars1_cabcc_76) (pc' := 79) rfl (fun _ hw8 => ?_)
                refine yy_iload C 0 dJx40b00_toChars1_cabcc_79 (pc' := 81) rfl rfl ?_
                refine yy_ldci C (v := (nI 268435455)) dJx40b00_toChars1_cabcc_81 (pc' := 83) rfl li_Jx40b00_138 ?_
                refine yy_iand C (v := (((nI 10) * (((nI 10) * (((nI 10) * (((nI 10) * (((nI 10) * (yF lo)) &&& (nI 268435455))) &&& (nI 268435455))) &&& (nI 268435455))) &&& (nI 268435455))) &&& (nI 268435455))) dJx40b00_toChars1_cabcc_83 (pc' := 84) rfl rfl ?_
                refine yy_istore C (L' := [(4, .int (((nI 10) * (((nI 10) * (((nI 10) * (((nI 10) * (((nI 10) * (yF lo)) &&& (nI 268435455))) &&& (nI 268435455))) &&& (nI 268435455))) &&& (nI 268435455))) &&& (nI 268435455))), (5, .int ((nI 10) * (((nI 10) * (((nI 10) * (((nI 10) * (((nI 10) * (yF lo)) &&& (nI 268435455))) &&& (nI 268435455))) &&& (nI 268435455))) &&& (nI 268435455)))), (6, .int (nI 5)), (0, .ref (fd)), (1, .int h), (2, .int lo), (3, .int (nI 1))]) dJx40b00_toChars1_cabcc_84 (pc' := 86) rfl (by decide) rfl ?_
                refine yy_iinc C (v := (nI 6)) (L' := [(6, .int (nI 6)), (4, .int (((nI 10) * (((nI 10) * (((nI 10) * (((nI 10) * (((nI 10) * (yF lo)) &&& (nI 268435455))) &&& (nI 268435455))) &&& (nI 268435455))) &&& (nI 268435455))) &&& (nI 268435455))), (5, .int ((nI 10) * (((nI 10) * (((nI 10) * (((nI 10) * (((nI 10) * (yF lo)) &&& (nI 268435455))) &&& (nI 268435455))) &&& (nI 268435455))) &&& (nI 268435455)))), (0, .ref (fd)), (1, .int h), (2, .int lo), (3, .int (nI 1))]) 2 dJx40b00_toChars1_cabcc_86 (pc' := 89) rfl rfl (by decide) (by decide) rfl ?_
                refine yy_goto C (tgt := 56) dJx40b00_toChars1_cabcc_89 (by decide) ?_
                refine yy_iload C 0 dJx40b00_toChars1_cabcc_56 (pc' := 58) rfl rfl ?_
                refine yy_bipush C (v := (nI 8)) dJx40b00_toChars1_cabcc_58 (pc' := 60) rfl (by decide) ?_
                refine yy_icmp_gt C dJx40b00_toChars1_cabcc_60 (pc' := 63) rfl (tgt := 92) (by decide) (fun c_60 => ?_) (fun c_60 => ?_)
                · skip
                  exact absurd c_60 (by decide)
                · skip
                  refine yy_bipush C (v := (nI 10)) dJx40b00_toChars1_cabcc_63 (pc' := 65) rfl (by decide) ?_
                  refine yy_iload C 1 dJx40b00_toChars1_cabcc_65 (pc' := 67) rfl rfl ?_
                  refine yy_imul C (v := ((nI 10) * (((nI 10) * (((nI 10) * (((nI 10) * (((nI 10) * (((nI 10) * (yF lo)) &&& (nI 268435455))) &&& (nI 268435455))) &&& (nI 268435455))) &&& (nI 268435455))) &&& (nI 268435455)))) dJx40b00_toChars1_cabcc_67 (pc' := 68) rfl rfl ?_
                  refine yy_istore C (L' := [(5, .int ((nI 10) * (((nI 10) * (((nI 10) * (((nI 10) * (((nI 10) * (((nI 10) * (yF lo)) &&& (nI 268435455))) &&& (nI 268435455))) &&& (nI 268435455))) &&& (nI 268435455))) &&& (nI 268435455)))), (6, .int (nI 6)), (4, .int (((nI 10) * (((nI 10) * (((nI 10) * (((nI 10) * (((nI 10) * (yF lo)) &&& (nI 268435455))) &&& (nI 268435455))) &&& (nI 268435455))) &&& (nI 268435455))) &&& (nI 268435455))), (0, .ref (fd)), (1, .int h), (2, .int lo), (3, .int (nI 1))]) dJx40b00_toChars1_cabcc_68 (pc' := 70) rfl (by decide) rfl ?_
                  refine yy_aload_n C 3 dJx40b00_toChars1_cabcc_70 (pc' := 71) rfl rfl rfl ?_
                  refine yy_iload C 0 dJx40b00_toChars1_cabcc_71 (pc' := 73) rfl rfl ?_
                  refine yy_bipush C (v := (nI 28)) dJx40b00_toChars1_cabcc_73 (pc' := 75) rfl (by decide) ?_
                  refine yy_iushr C (v := (ush32 ((nI 10) * (((nI 10) * (((nI 10) * (((nI 10) * (((nI 10) * (((nI 10) * (yF lo)) &&& (nI 268435455))) &&& (nI 268435455))) &&& (nI 268435455))) &&& (nI 268435455))) &&& (nI 268435455))) (nI 28))) dJx40b00_toChars1_cabcc_75 (pc' := 76) rfl rfl ?_
                  refine yc_v (yr_V C (n := 1) (As := [.int (ush32 ((nI 10) * (((nI 10) * (((nI 10) * (((nI 10) * (((nI 10) * (((nI 10) * (yF lo)) &&& (nI 268435455))) &&& (nI 268435455))) &&& (nI 268435455))) &&& (nI 268435455))) &&& (nI 268435455))) (nI 28))]) (rest := []) lk_Jx40b00_132 cd_Jx40b00_appendDigit_d00df im_Jx40b00_appendDigit_d00df se_Jx40b00_appendDigit_d00df (mJx40b00_appendDigit_d00df l G B0 fd fb (upd (upd (upd (upd (upd (upd (upd a 0 (dgB h)) 1 (((nI 46)).toInt8.toInt32)) 2 (dgB (ush32 ((nI 10) * (yF lo)) (nI 28)))) 3 (dgB (ush32 ((nI 10) * (((nI 10) * (yF lo)) &&& (nI 268435455))) (nI 28)))) 4 (dgB (ush32 ((nI 10) * (((nI 10) * (((nI 10) * (yF lo)) &&& (nI 268435455))) &&& (nI 268435455))) (nI 28)))) 5 (dgB (ush32 ((nI 10) * (((nI 10) * (((nI 10) * (((nI 10) * (yF lo)) &&& (nI 268435455))) &&& (nI 268435455))) &&& (nI 268435455))) (nI 28)))) 6 (dgB (ush32 ((nI 10) * (((nI 10) * (((nI 10) * (((nI 10) * (((nI 10) * (yF lo)) &&& (nI 268435455))) &&& (nI 268435455))) &&& (nI 268435455))) &&& (nI 268435455))) (nI 28)))) (nI 6) 7 F (ush32 ((nI 10) * (((nI 10) * (((nI 10) * (((nI 10) * (((nI 10) * (((nI 10) * (yF lo)) &&& (nI 268435455))) &&& (nI 268435455))) &&& (nI 268435455))) &&& (nI 268435455))) &&& (nI 268435455))) (nI 28)) (by decide) (by decide)) ⟨by decide, by decide⟩ ⟨by decide, by decide⟩ 0 rfl rfl rfl rfl (Nat.le_of_ble_eq_true rfl) dJx40b00_toChars1_cabcc_76) (pc' := 79) rfl (fun _ hw9 => ?_)
                  refine yy_iload C 0 dJx40b00_toChars1_cabcc_79 (pc' := 81) rfl rfl ?_
                  refine yy_ldci C (v := (nI 268435455)) dJx40b00_toChars1_cabcc_81 (pc' := 83) rfl li_Jx40b00_138 ?_
                  refine yy_iand C (v := (((nI 10) * (((nI 10) * (((nI 10) * (((nI 10) * (((nI 10) * (((nI 10) * (yF lo)) &&& (nI 268435455))) &&& (nI 268435455))) &&& (nI 268435455))) &&& (nI 268435455))) &&& (nI 268435455))) &&& (nI 268435455))) dJx40b00_toChars1_cabcc_83 (pc' := 84) rfl rfl ?_
                  refine yy_istore C (L' := [(4, .int (((nI 10) * (((nI 10) * (((nI 10) * (((nI 10) * (((nI 10) * (((nI 10) * (yF lo)) &&& (nI 268435455))) &&& (nI 268435455))) &&& (nI 268435455))) &&& (nI 268435455))) &&& (nI 268435455))) &&& (nI 268435455))), (5, .int ((nI 10) * (((nI 10) * (((nI 10) * (((nI 10) * (((nI 10) * (((nI 10) * (yF lo)) &&& (nI 268435455))) &&& (nI 268435455))) &&& (nI 268435455))) &&& (nI 268435455))) &&& (nI 268435455)))), (6, .int (nI 6)), (0, .ref (fd)), (1, .int h), (2, .int lo), (3, .int (nI 1))]) dJx40b00_toChars1_cabcc_84 (pc' := 86) rfl (by decide) rfl ?_
                  refine yy_iinc C (v := (nI 7)) (L' := [(6, .int (nI 7)), (4, .int (((nI 10) * (((nI 10) * (((nI 10) * (((nI 10) * (((nI 10) * (((nI 10) * (yF lo)) &&& (nI 268435455))) &&& (nI 268435455))) &&& (nI 268435455))) &&& (nI 268435455))) &&& (nI 268435455))) &&& (nI 268435455))), (5, .int ((nI 10) * (((nI 10) * (((nI 10) * (((nI 10) * (((nI 10) * (((nI 10) * (yF lo)) &&& (nI 268435455))) &&& (nI 268435455))) &&& (nI 268435455))) &&& (nI 268435455))) &&& (nI 268435455)))), (0, .ref (fd)), (1, .int h), (2, .int lo), (3, .int (nI 1))]) 2 dJx40b00_toChars1_cabcc_86 (pc' := 89) rfl rfl (by decide) (by decide) rfl ?_
                  refine yy_goto C (tgt := 56) dJx40b00_toChars1_cabcc_89 (by decide) ?_
                  refine yy_iload C 0 dJx40b00_toChars1_cabcc_56 (pc' := 58) rfl rfl ?_
                  refine yy_bipush C (v := (nI 8)) dJx40b00_toChars1_cabcc_58 (pc' := 60) rfl (by decide) ?_
                  refine yy_icmp_gt C dJx40b00_toChars1_cabcc_60 (pc' := 63) rfl (tgt := 92) (by decide) (fun c_60 => ?_) (fun c_60 => ?_)
                  · skip
                    exact absurd c_60 (by decide)
                  · skip
                    refine yy_bipush C (v := (nI 10)) dJx40b00_toChars1_cabcc_63 (pc' := 65) rfl (by decide) ?_
                    refine yy_iload C 1 dJx40b00_toChars1_cabcc_65 (pc' := 67) rfl rfl ?_
                    refine yy_imul C (v := ((nI 10) * (((nI 10) * (((nI 10) * (((nI 10) * (((nI 10) * (((nI 10) * (((nI 10) * (yF lo)) &&& (nI 268435455))) &&& (nI 268435455))) &&& (nI 268435455))) &&& (nI 268435455))) &&& (nI 268435455))) &&& (nI 268435455)))) dJx40b00_toChars1_cabcc_67 (pc' := 68) rfl rfl ?_
                    refine yy_istore C (L' := [(5, .int ((nI 10) * (((nI 10) * (((nI 10) * (((nI 10) * (((nI 10) * (((nI 10) * (((nI 10) * (yF lo)) &&& (nI 268435455))) &&& (nI 268435455))) &&& (nI 268435455))) &&& (nI 268435455))) &&& (nI 268435455))) &&& (nI 268435455)))), (6, .int (nI 7)), (4, .int (((nI 10) * (((nI 10) * (((nI 10) * (((nI 10) * (((nI 10) * (((nI 10) * (yF lo)) &&& (nI 268435455))) &&& (nI 268435455))) &&& (nI 268435455))) &&& (nI 268435455))) &&& (nI 268435455))) &&& (nI 268435455))), (0, .ref (fd)), (1, .int h), (2, .int lo), (3, .int (nI 1))]) dJx40b00_toChars1_cabcc_68 (pc' := 70) rfl (by decide) rfl ?_
                    refine yy_aload_n C 3 dJx40b00_toChars1_cabcc_70 (pc' := 71) rfl rfl rfl ?_
                    refine yy_iload C 0 dJx40b00_toChars1_cabcc_71 (pc' := 73) rfl rfl ?_
                    refine yy_bipush C (v := (nI 28)) dJx40b00_toChars1_cabcc_73 (pc' := 75) rfl (by decide) ?_
                    refine yy_iushr C (v := (ush32 ((nI 10) * (((nI 10) * (((nI 10) * (((nI 10) * (((nI 10) * (((nI 10) * (((nI 10) * (yF lo)) &&& (nI 268435455))) &&& (nI 268435455))) &&& (nI 268435455))) &&& (nI 268435455))) &&& (nI 268435455))) &&& (nI 268435455))) (nI 28))) dJx40b00_toChars1_cabcc_75 (pc' := 76) rfl rfl ?_
                    refine yc_v (yr_V C (n := 1) (As := [.int (ush32 ((nI 10) * (((nI 10) * (((nI 10) * (((nI 10) * (((nI 10) * (((nI 10) * (((nI 10) * (yF lo)) &&& (nI 268435455))) &&& (nI 268435455))) &&& (nI 268435455))) &&& (nI 268435455))) &&& (nI 268435455))) &&& (nI 268435455))) (nI 28))]) (rest := []) lk_Jx40b00_132 cd_Jx40b00_appendDigit_d00df im_Jx40b00_appendDigit_d00df se_Jx40b00_appendDigit_d00df (mJx40b00_appendDigit_d00df l G B0 fd fb (upd (upd (upd (upd (upd (upd (upd (upd a 0 (dgB h)) 1 (((nI 46)).toInt8.toInt32)) 2 (dgB (ush32 ((nI 10) * (yF lo)) (nI 28)))) 3 (dgB (ush32 ((nI 10) * (((nI 10) * (yF lo)) &&& (nI 268435455))) (nI 28)))) 4 (dgB (ush32 ((nI 10) * (((nI 10) * (((nI 10) * (yF lo)) &&& (nI 268435455))) &&& (nI 268435455))) (nI 28)))) 5 (dgB (ush32 ((nI 10) * (((nI 10) * (((nI 10) * (((nI 10) * (yF lo)) &&& (nI 268435455))) &&& (nI 268435455))) &&& (nI 268435455))) (nI 28)))) 6 (dgB (ush32 ((nI 10) * (((nI 10) * (((nI 10) * (((nI 10) * (((nI 10) * (yF lo)) &&& (nI 268435455))) &&& (nI 268435455))) &&& (nI 268435455))) &&& (nI 268435455))) (nI 28)))) 7 (dgB (ush32 ((nI 10) * (((nI 10) * (((nI 10) * (((nI 10) * (((nI 10) * (((nI 10) * (yF lo)) &&& (nI 268435455))) &&& (nI 268435455))) &&& (nI 268435455))) &&& (nI 268435455))) &&& (nI 268435455))) (nI 28)))) (nI 7) 8 F (ush32 ((nI 10) * (((nI 10) * (((nI 10) * (((nI 10) * (((nI 10) * (((nI 10) * (((nI 10) * (yF lo)) &&& (nI 268435455))) &&& (nI 268435455))) &&& (nI 268435455))) &&& (nI 268435455))) &&& (nI 268435455))) &&& (nI 268435455))) (nI 28)) (by decide) (by decide)) ⟨by decide, by decide⟩ ⟨by decide, by decide⟩ 0 rfl rfl rfl rfl (Nat.le_of_ble_eq_true rfl) dJx40b00_toChars1_cabcc_76) (pc' := 79) rfl (fun _ hw10 => ?_)
                    refine yy_iload C 0 dJx40b00_toChars1_cabcc_79 (pc' := 81) rfl rfl ?_
                    refine yy_ldci C (v := (nI 268435455)) dJx40b00_toChars1_cabcc_81 (pc' := 83) rfl li_Jx40b00_138 ?_
                    refine yy_iand C (v := (((nI 10) * (((nI 10) * (((nI 10) * (((nI 10) * (((nI 10) * (((nI 10) * (((nI 10) * (yF lo)) &&& (nI 268435455))) &&& (nI 268435455))) &&& (nI 268435455))) &&& (nI 268435455))) &&& (nI 268435455))) &&& (nI 268435455))) &&& (nI 268435455))) dJx40b00_toChars1_cabcc_83 (pc' := 84) rfl rfl ?_
                    refine yy_istore C (L' := [(4, .int (((nI 10) * (((nI 10) * (((nI 10) * (((nI 10) * (((nI 10) * (((nI 10) * (((nI 10) * (yF lo)) &&& (nI 268435455))) &&& (nI 268435455))) &&& (nI 268435455))) &&& (nI 268435455))) &&& (nI 268435455))) &&& (nI 268435455))) &&& (nI 268435455))), (5, .int ((nI 10) * (((nI 10) * (((nI 10) * (((nI 10) * (((nI 10) * (((nI 10) * (((nI 10) * (yF lo)) &&& (nI 268435455))) &&& (nI 268435455))) &&& (nI 268435455))) &&& (nI 268435455))) &&& (nI 268435455))) &&& (nI 268435455)))), (6, .int (nI 7)), (0, .ref (fd)), (1, .int h), (2, .int lo), (3, .int (nI 1))]) dJx40b00_toChars1_cabcc_84 (pc' := 86) rfl (by decide) rfl ?_
                    refine yy_iinc C (v := (nI 8)) (L' := [(6, .int (nI 8)), (4, .int (((nI 10) * (((nI 10) * (((nI 10) * (((nI 10) * (((nI 10) * (((nI 10) * (((nI 10) * (yF lo)) &&& (nI 268435455))) &&& (nI 268435455))) &&& (nI 268435455))) &&& (nI 268435455))) &&& (nI 268435455))) &&& (nI 268435455))) &&& (nI 268435455))), (5, .int ((nI 10) * (((nI 10) * (((nI 10) * (((nI 10) * (((nI 10) * (((nI 10) * (((nI 10) * (yF lo)) &&& (nI 268435455))) &&& (nI 268435455))) &&& (nI 268435455))) &&& (nI 268435455))) &&& (nI 268435455))) &&& (nI 268435455)))), (0, .ref (fd)), (1, .int h), (2, .int lo), (3, .int (nI 1))]) 2 dJx40b00_toChars1_cabcc_86 (pc' := 89) rfl rfl (by decide) (by decide) rfl ?_
                    refine yy_goto C (tgt := 56) dJx40b00_toChars1_cabcc_89 (by decide) ?_
                    refine yy_iload C 0 dJx40b00_toChars1_cabcc_56 (pc' := 58) rfl rfl ?_
                    refine yy_bipush C (v := (nI 8)) dJx40b00_toChars1_cabcc_58 (pc' := 60) rfl (by decide) ?_
                    refine yy_icmp_gt C dJx40b00_toChars1_cabcc_60 (pc' := 63) rfl (tgt := 92) (by decide) (fun c_60 => ?_) (fun c_60 => ?_)
                    · skip
                      exact absurd c_60 (by decide)
                    · skip
                      refine yy_bipush C (v := (nI 10)) dJx40b00_toChars1_cabcc_63 (pc' := 65) rfl (by decide) ?_
                      refine yy_iload C 1 dJx40b00_toChars1_cabcc_65 (pc' := 67) rfl rfl ?_
                      refine yy_imul C (v := ((nI 10) * (((nI 10) * (((nI 10) * (((nI 10) * (((nI 10) * (((nI 10) * (((nI 10) * (((nI 10) * (yF lo)) &&& (nI 268435455))) &&& (nI 268435455))) &&& (nI 268435455))) &&& (nI 268435455))) &&& (nI 268435455))) &&& (nI 268435455))) &&& (nI 268435455)))) dJx40b00_toChars1_cabcc_67 (pc' := 68) rfl rfl ?_
                      refine yy_istore C (L' := [(5, .int ((nI 10) * (((nI 10) * (((nI 10) * (((nI 10) * (((nI 10) * (((nI 10) * (((nI 10) * (((nI 10) * (yF lo)) &&& (nI 268435455))) &&& (nI 268435455))) &&& (nI 268435455))) &&& (nI 268435455))) &&& (nI 268435455))) &&& (nI 268435455))) &&& (nI 268435455)))), (6, .int (nI 8)), (4, .int (((nI 10) * (((nI 10) * (((nI 10) * (((nI 10) * (((nI 10) * (((nI 10) * (((nI 10) * (yF lo)) &&& (nI 268435455))) &&& (nI 268435455))) &&& (nI 268435455))) &&& (nI 268435455))) &&& (nI 268435455))) &&& (nI 268435455))) &&& (nI 268435455))), (0, .ref (fd)), (1, .int h), (2, .int lo), (3, .int (nI 1))]) dJx40b00_toChars1_cabcc_68 (pc' := 70) rfl (by decide) rfl ?_
                      refine yy_aload_n C 3 dJx40b00_toChars1_cabcc_70 (pc' := 71) rfl rfl rfl ?_
                      refine yy_iload C 0 dJx40b00_toChars1_cabcc_71 (pc' := 73) rfl rfl ?_
                      refine yy_bipush C (v := (nI 28)) dJx40b00_toChars1_cabcc_73 (pc' := 75) rfl (by decide) ?_
                      refine yy_iushr C (v := (ush32 ((nI 10) * (((nI 10) * (((nI 10) * (((nI 10) * (((nI 10) * (((nI 10) * (((nI 10) * (((nI 10) * (yF lo)) &&& (nI 268435455))) &&& (nI 268435455))) &&& (nI 268435455))) &&& (nI 268435455))) &&& (nI 268435455))) &&& (nI 268435455))) &&& (nI 268435455))) (nI 28))) dJx40b00_toChars1_cabcc_75 (pc' := 76) rfl rfl ?_
                      refine yc_v (yr_V C (n := 1) (As := [.int (ush32 ((nI 10) * (((nI 10) * (((nI 10) * (((nI 10) * (((nI 10) * (((nI 10) * (((nI 10) * (((nI 10) * (yF lo)) &&& (nI 268435455))) &&& (nI 268435455))) &&& (nI 268435455))) &&& (nI 268435455))) &&& (nI 268435455))) &&& (nI 268435455))) &&& (nI 268435455))) (nI 28))]) (rest := []) lk_Jx40b00_132 cd_Jx40b00_appendDigit_d00df im_Jx40b00_appendDigit_d00df se_Jx40b00_appendDigit_d00df (mJx40b00_appendDigit_d00df l G B0 fd fb (upd (upd (upd (upd (upd (upd (upd (upd (upd a 0 (dgB h)) 1 (((nI 46)).toInt8.toInt32)) 2 (dgB (ush32 ((nI 10) * (yF lo)) (nI 28)))) 3 (dgB (ush32 ((nI 10) * (((nI 10) * (yF lo)) &&& (nI 268435455))) (nI 28)))) 4 (dgB (ush32 ((nI 10) * (((nI 10) * (((nI 10) * (yF lo)) &&& (nI 268435455))) &&& (nI 268435455))) (nI 28)))) 5 (dgB (ush32 ((nI 10) * (((nI 10) * (((nI 10) * (((nI 10) * (yF lo)) &&& (nI 268435455))) &&& (nI 268435455))) &&& (nI 268435455))) (nI 28)))) 6 (dgB (ush32 ((nI 10) * (((nI 10) * (((nI 10) * (((nI 10) * (((nI 10) * (yF lo)) &&& (nI 268435455))) &&& (nI 268435455))) &&& (nI 268435455))) &&& (nI 268435455))) (nI 28)))) 7 (dgB (ush32 ((nI 10) * (((nI 10) * (((nI 10) * (((nI 10) * (((nI 10) * (((nI 10) * (yF lo)) &&& (nI 268435455))) &&& (nI 268435455))) &&& (nI 268435455))) &&& (nI 268435455))) &&& (nI 268435455))) (nI 28)))) 8 (dgB (ush32 ((nI 10) * (((nI 10) * (((nI 10) * (((nI 10) * (((nI 10) * (((nI 10) * (((nI 10) * (yF lo)) &&& (nI 268435455))) &&& (nI 268435455))) &&& (nI 268435455))) &&& (nI 268435455))) &&& (nI 268435455))) &&& (nI 268435455))) (nI 28)))) (nI 8) 9 F (ush32 ((nI 10) * (((nI 10) * (((nI 10) * (((nI 10) * (((nI 10) * (((nI 10) * (((nI 10) * (((nI 10) * (yF lo)) &&& (nI 268435455))) &&& (nI 268435455))) &&& (nI 268435455))) &&& (nI 268435455))) &&& (nI 268435455))) &&& (nI 268435455))) &&& (nI 268435455))) (nI 28)) (by decide) (by decide)) ⟨by decide, by decide⟩ ⟨by decide, by decide⟩ 0 rfl rfl rfl rfl (Nat.le_of_ble_eq_true rfl) dJx40b00_toChars1_cabcc_76) (pc' := 79) rfl (fun _ hw11 => ?_)
                      refine yy_iload C 0 dJx40b00_toChars1_cabcc_79 (pc' := 81) rfl rfl ?_
                      refine yy_ldci C (v := (nI 268435455)) dJx40b00_toChars1_cabcc_81 (pc' := 83) rfl li_Jx40b00_138 ?_
                      refine yy_iand C (v := (((nI 10) * (((nI 10) * (((nI 10) * (((nI 10) * (((nI 10) * (((nI 10) * (((nI 10) * (((nI 10) * (yF lo)) &&& (nI 268435455))) &&& (nI 268435455))) &&& (nI 268435455))) &&& (nI 268435455))) &&& (nI 268435455))) &&& (nI 268435455))) &&& (nI 268435455))) &&& (nI 268435455))) dJx40b00_toChars1_cabcc_83 (pc' := 84) rfl rfl ?_
                      refine yy_istore C (L' := [(4, .int (((nI 10) * (((nI 10) * (((nI 10) * (((nI 10) * (((nI 10) * (((nI 10) * (((nI 10) * (((nI 10) * (yF lo)) &&& (nI 268435455))) &&& (nI 268435455))) &&& (nI 268435455))) &&& (nI 268435455))) &&& (nI 268435455))) &&& (nI 268435455))) &&& (nI 268435455))) &&& (nI 268435455))), (5, .int ((nI 10) * (((nI 10) * (((nI 10) * (((nI 10) * (((nI 10) * (((nI 10) * (((nI 10) * (((nI 10) * (yF lo)) &&& (nI 268435455))) &&& (nI 268435455))) &&& (nI 268435455))) &&& (nI 268435455))) &&& (nI 268435455))) &&& (nI 268435455))) &&& (nI 268435455)))), (6, .int (nI 8)), (0, .ref (fd)), (1, .int h), (2, .int lo), (3, .int (nI 1))]) dJx40b00_toChars1_cabcc_84 (pc' := 86) rfl (by decide) rfl ?_
                      refine yy_iinc C (v := (nI 9)) (L' := [(6, .int (nI 9)), (4, .int (((nI 10) * (((nI 10) * (((nI 10) * (((nI 10) * (((nI 10) * (((nI 10) * (((nI 10) * (((nI 10) * (yF lo)) &&& (nI 268435455))) &&& (nI 268435455))) &&& (nI 268435455))) &&& (nI 268435455))) &&& (nI 268435455))) &&& (nI 268435455))) &&& (nI 268435455))) &&& (nI 268435455))), (5, .int ((nI 10) * (((nI 10) * (((nI 10) * (((nI 10) * (((nI 10) * (((nI 10) * (((nI 10) * (((nI 10) * (yF lo)) &&& (nI 268435455))) &&& (nI 268435455))) &&& (nI 268435455))) &&& (nI 268435455))) &&& (nI 268435455))) &&& (nI 268435455))) &&& (nI 268435455)))), (0, .ref (fd)), (1, .int h), (2, .int lo), (3, .int (nI 1))]) 2 dJx40b00_toChars1_cabcc_86 (pc' := 89) rfl rfl (by decide) (by decide) rfl ?_
                      refine yy_goto C (tgt := 56) dJx40b00_toChars1_cabcc_89 (by decide) ?_
                      refine yy_iload C 0 dJx40b00_toChars1_cabcc_56 (pc' := 58) rfl rfl ?_
                      refine yy_bipush C (v := (nI 8)) dJx40b00_toChars1_cabcc_58 (pc' := 60) rfl (by decide) ?_
                      refine yy_icmp_gt C dJx40b00_toChars1_cabcc_60 (pc' := 63) rfl (tgt := 92) (by decide) (fun c_60 => ?_) (fun c_60 => ?_)
                      · skip
                        refine yy_aload_n C 3 dJx40b00_toChars1_cabcc_92 (pc' := 93) rfl rfl rfl ?_
                        refine yc_v (yr_V C (n := 0) (As := []) (rest := []) lk_Jx40b00_139 cd_Jx40b00_removeTrailingZeroes_da8c8 im_Jx40b00_removeTrailingZeroes_da8c8 se_Jx40b00_removeTrailingZeroes_da8c8 (mJx40b00_removeTrailingZeroes_da8c8 l G B0 fd fb (upd (upd (upd (upd (upd (upd (upd (upd (upd (upd a 0 (dgB h)) 1 (((nI 46)).toInt8.toInt32)) 2 (dgB (ush32 ((nI 10) * (yF lo)) (nI 28)))) 3 (dgB (ush32 ((nI 10) * (((nI 10) * (yF lo)) &&& (nI 268435455))) (nI 28)))) 4 (dgB (ush32 ((nI 10) * (((nI 10) * (((nI 10) * (yF lo)) &&& (nI 268435455))) &&& (nI 268435455))) (nI 28)))) 5 (dgB (ush32 ((nI 10) * (((nI 10) * (((nI 10) * (((nI 10) * (yF lo)) &&& (nI 268435455))) &&& (nI 268435455))) &&& (nI 268435455))) (nI 28)))) 6 (dgB (ush32 ((nI 10) * (((nI 10) * (((nI 10) * (((nI 10) * (((nI 10) * (yF lo)) &&& (nI 268435455))) &&& (nI 268435455))) &&& (nI 268435455))) &&& (nI 268435455))) (nI 28)))) 7 (dgB (ush32 ((nI 10) * (((nI 10) * (((nI 10) * (((nI 10) * (((nI 10) * (((nI 10) * (yF lo)) &&& (nI 268435455))) &&& (nI 268435455))) &&& (nI 268435455))) &&& (nI 268435455))) &&& (nI 268435455))) (nI 28)))) 8 (dgB (ush32 ((nI 10) * (((nI 10) * (((nI 10) * (((nI 10) * (((nI 10) * (((nI 10) * (((nI 10) * (yF lo)) &&& (nI 268435455))) &&& (nI 268435455))) &&& (nI 268435455))) &&& (nI 268435455))) &&& (nI 268435455))) &&& (nI 268435455))) (nI 28)))) 9 (dgB (ush32 ((nI 10) * (((nI 10) * (((nI 10) * (((nI 10) * (((nI 10) * (((nI 10) * (((nI 10) * (((nI 10) * (yF lo)) &&& (nI 268435455))) &&& (nI 268435455))) &&& (nI 268435455))) &&& (nI 268435455))) &&& (nI 268435455))) &&& (nI 268435455))) &&& (nI 268435455))) (nI 28)))) 1 9 F (by decide) (by decide) (show tcA1 a h lo 1 = nI 46 by rw [tcA1, a8_lo (Nat.le_refl 1), pk_us]; decide) (Nat.le_refl 1)) ⟨by decide, by decide⟩ ⟨by decide, by decide⟩ 0 rfl rfl rfl rfl (Nat.le_of_ble_eq_true rfl) dJx40b00_toChars1_cabcc_93) (pc' := 96) rfl (fun _ hw12 => ?_)
                        refine yy_iconst C (v := (nI 0)) dJx40b00_toChars1_cabcc_96 (pc' := 97) rfl (by decide) ?_
                        subst hQ
                        exact ye_i C hr (vp_nar_int _) () dJx40b00_toChars1_cabcc_97 rfl (by decide) (by decide) rfl
                      · skip
                        exact absurd c_60 (by decide)
    · skip
      exact absurd c_18 (by decide)

abbrev rJx40b00_toChars2_cabcc : Room := { frames := 3, cells := 0, slots := 0, locals := 84 }
set_option maxHeartbeats 4000000 in
set_option maxRecDepth 100000 in
theorem mJx40b00_toChars2_cabcc (l : Launch) (G : gG) (B0 : Nat) (fd fb : Nat) (a : Nat → Int32) (F : va_W) (h lo e_ : Int32) (he : e_ = nI 0 ∨ e_ = -1) : Met l yJx40b00_toChars2_cabcc (Cond.code yJx40b00_toChars2_cabcc cJx40b00_toChars2_cabcc 4 (some .int) :: WG) rJx40b00_toChars2_cabcc (va_Pc [.ref (fd), .int h, .int lo, .int e_] (PR G B0 (((fd, .inr (2, [.ref (fb), .int (-1)])) :: (fb, .inl (G.2.2.2.1, 15, .inl a)) :: F)))) (va_Qi (fun (r : Int32) (_ : Unit) => r = nI 0) (fun (_ : Unit) (t_ : State) => va_P G.1 vwCl (((fd, .inr (2, [.ref (fb), .int (nI (rtz (tcA2 e_ a h lo) (tcK2 e_)))])) :: (fb, .inl (G.2.2.2.1, 15, .inl (tcA2 e_ a h lo))) :: F)) t_.heap ∧ va_D (fun q => B0 ≤ q) (((fd, .inr (2, [.ref (fb), .int (nI (rtz (tcA2 e_ a h lo) (tcK2 e_)))])) :: (fb, .inl (G.2.2.2.1, 15, .inl (tcA2 e_ a h lo))) :: F))) (fun q => B0 ≤ q)) rJx40b00_toChars2_cabcc.cells rJx40b00_toChars2_cabcc.slots (fun q => B0 ≤ q) := by
  refine met_of RJx40b00 [(0, .ref (fd)), (1, .int h), (2, .int lo), (3, .int e_)] rfl (by decide) (Nat.le_of_ble_eq_true rfl) rfl ?_
  intro p e s m args below meth c C hr hnm
  refine yq ?_
  intro QQ hQ
  rcases he with rfl | rfl
  · skip
    refine yy_aload_n C 0 dJx40b00_toChars2_cabcc_0 (pc' := 1) rfl rfl rfl ?_
    refine yy_iconst C (v := (nI 0)) dJx40b00_toChars2_cabcc_1 (pc' := 2) rfl (by decide) ?_
    refine yc_v (yr_V C (n := 1) (As := [.int (nI 0)]) (rest := []) lk_Jx40b00_132 cd_Jx40b00_appendDigit_d00df im_Jx40b00_appendDigit_d00df se_Jx40b00_appendDigit_d00df (mJx40b00_appendDigit_d00df l G B0 fd fb a (-1) 0 F (nI 0) (by decide) (by decide)) ⟨by decide, by decide⟩ ⟨by decide, by decide⟩ 0 rfl rfl rfl rfl (Nat.le_of_ble_eq_true rfl) dJx40b00_toChars2_cabcc_2) (pc' := 5) rfl (fun _ hw1 => ?_)
    refine yy_aload_n C 0 dJx40b00_toChars2_cabcc_5 (pc' := 6) rfl rfl rfl ?_
    refine yy_bipush C (v := (nI 46)) dJx40b00_toChars2_cabcc_6 (pc' := 8) rfl (by decide) ?_
    refine yc_v (yr_V C (n := 1) (As := [.int (nI 46)]) (rest := []) lk_Jx40b00_69 cd_Jx40b00_append_d00df im_Jx40b00_append_d00df se_Jx40b00_append_d00df (mJx40b00_append_d00df l G B0 fd fb (upd a 0 (dgB (nI 0))) (nI 0) 1 F (nI 46) (by decide) (by decide)) ⟨by decide, by decide⟩ ⟨by decide, by decide⟩ 0 rfl rfl rfl rfl (Nat.le_of_ble_eq_true rfl) dJx40b00_toChars2_cabcc_8) (pc' := 11) rfl (fun _ hw2 => ?_)
    refine yy_iload_n C 3 dJx40b00_toChars2_cabcc_11 (pc' := 12) rfl rfl rfl ?_
    refine yy_if_ge C dJx40b00_toChars2_cabcc_12 (pc' := 15) rfl (tgt := 26) (by decide) (fun c_12 => ?_) (fun c_12 => ?_)
    · skip
      refine yy_aload_n C 0 dJx40b00_toChars2_cabcc_26 (pc' := 27) rfl rfl rfl ?_
      refine yy_iload_n C 1 dJx40b00_toChars2_cabcc_27 (pc' := 28) rfl rfl rfl ?_
      refine yc_v (yr_V C (n := 1) (As := [.int h]) (rest := []) lk_Jx40b00_132 cd_Jx40b00_appendDigit_d00df im_Jx40b00_appendDigit_d00df se_Jx40b00_appendDigit_d00df (mJx40b00_appendDigit_d00df l G B0 fd fb (upd (upd a 0 (dgB (nI 0))) 1 (((nI 46)).toInt8.toInt32)) (nI 1) 2 F h (by decide) (by decide)) ⟨by decide, by decide⟩ ⟨by decide, by decide⟩ 0 rfl rfl rfl rfl (Nat.le_of_ble_eq_true rfl) dJx40b00_toChars2_cabcc_28) (pc' := 31) rfl (fun _ hw3 => ?_)
      refine yy_aload_n C 0 dJx40b00_toChars2_cabcc_31 (pc' := 32) rfl rfl rfl ?_
      refine yy_iload_n C 2 dJx40b00_toChars2_cabcc_32 (pc' := 33) rfl rfl rfl ?_
      refine yc_v (yr_V C (n := 1) (As := [.int lo]) (rest := []) lk_Jx40b00_142 cd_Jx40b00_append8Digits_d00df im_Jx40b00_append8Digits_d00df se_Jx40b00_append8Digits_d00df (mJx40b00_append8Digits_d00df l G B0 fd fb (upd (upd (upd a 0 (dgB (nI 0))) 1 (((nI 46)).toInt8.toInt32)) 2 (dgB h)) 2 F lo (by decide)) ⟨by decide, by decide⟩ ⟨by decide, by decide⟩ 0 rfl rfl rfl rfl (Nat.le_of_ble_eq_true rfl) dJx40b00_toChars2_cabcc_33) (pc' := 36) rfl (fun _ hw4 => ?_)
      refine yy_aload_n C 0 dJx40b00_toChars2_cabcc_36 (pc' := 37) rfl rfl rfl ?_
      refine yc_v (yr_V C (n := 0) (As := []) (rest := []) lk_Jx40b00_139 cd_Jx40b00_removeTrailingZeroes_da8c8 im_Jx40b00_removeTrailingZeroes_da8c8 se_Jx40b00_removeTrailingZeroes_da8c8 (mJx40b00_removeTrailingZeroes_da8c8 l G B0 fd fb (a8 8 (upd (upd (upd a 0 (dgB (nI 0))) 1 (((nI 46)).toInt8.toInt32)) 2 (dgB h)) 2 (yF lo)) 1 10 F (by decide) (by decide) (by rw [a8_lo (by decide), pk_un (by decide), pk_us]; decide) (Nat.le_refl 1)) ⟨by decide, by decide⟩ ⟨by decide, by decide⟩ 0 rfl rfl rfl rfl (Nat.le_of_ble_eq_true rfl) dJx40b00_toChars2_cabcc_37) (pc' := 40) rfl (fun _ hw5 => ?_)
      refine yy_iconst C (v := (nI 0)) dJx40b00_toChars2_cabcc_40 (pc' := 41) rfl (by decide) ?_
      subst hQ
      exact ye_i C hr (vp_nar_int _) () dJx40b00_toChars2_cabcc_41 (by simp only [tcA2, tcK2, if_true]) (by decide) (by decide) rfl
    · skip
      exact absurd c_12 (by decide)
  · skip
    refine yy_aload_n C 0 dJx40b00_toChars2_cabcc_0 (pc' := 1) rfl rfl rfl ?_
    refine yy_iconst C (v := (nI 0)) dJx40b00_toChars2_cabcc_1 (pc' := 2) rfl (by decide) ?_
    refine yc_v (yr_V C (n := 1) (As := [.int (nI 0)]) (rest := []) lk_Jx40b00_132 cd_Jx40b00_appendDigit_d00df im_Jx40b00_appendDigit_d00df se_Jx40b00_appendDigit_d00df (mJx40b00_appendDigit_d00df l G B0 fd fb a (-1) 0 F (nI 0) (by decide) (by decide)) ⟨by decide, by decide⟩ ⟨by decide, by decide⟩ 0 rfl rfl rfl rfl (Nat.le_of_ble_eq_true rfl) dJx40b00_toChars2_cabcc_2) (pc' := 5) rfl (fun _ hw1 => ?_)
    refine yy_aload_n C 0 dJx40b00_toChars2_cabcc_5 (pc' := 6) rfl rfl rfl ?_
    refine yy_bipush C (v := (nI 46)) dJx40b00_toChars2_cabcc_6 (pc' := 8) rfl (by decide) ?_
    refine yc_v (yr_V C (n := 1) (As := [.int (nI 46)]) (rest := []) lk_Jx40b00_69 cd_Jx40b00_append_d00df im_Jx40b00_append_d00df se_Jx40b00_append_d00df (mJx40b00_append_d00df l G B0 fd fb (upd a 0 (dgB (nI 0))) (nI 0) 1 F (nI 46) (by decide) (by decide)) ⟨by decide, by decide⟩ ⟨by decide, by decide⟩ 0 rfl rfl rfl rfl (Nat.le_of_ble_eq_true rfl) dJx40b00_toChars2_cabcc_8) (pc' := 11) rfl (fun _ hw2 => ?_)
    refine yy_iload_n C 3 dJx40b00_toChars2_cabcc_11 (pc' := 12) rfl rfl rfl ?_
    refine yy_if_ge C dJx40b00_toChars2_cabcc_12 (pc' := 15) rfl (tgt := 26) (by decide) (fun c_12 => ?_) (fun c_12 => ?_)
    · skip
      exact absurd c_12 (by decide)
    · skip
      refine yy_aload_n C 0 dJx40b00_toChars2_cabcc_15 (pc' := 16) rfl rfl rfl ?_
      refine yy_iconst C (v := (nI 0)) dJx40b00_toChars2_cabcc_16 (pc' := 17) rfl (by decide) ?_
      refine yc_v (yr_V C (n := 1) (As := [.int (nI 0)]) (rest := []) lk_Jx40b00_132 cd_Jx40b00_appendDigit_d00df im_Jx40b00_appendDigit_d00df se_Jx40b00_appendDigit_d00df (mJx40b00_appendDigit_d00df l G B0 fd fb (upd (upd a 0 (dgB (nI 0))) 1 (((nI 46)).toInt8.toInt32)) (nI 1) 2 F (nI 0) (by decide) (by decide)) ⟨by decide, by decide⟩ ⟨by decide, by decide⟩ 0 rfl rfl rfl rfl (Nat.le_of_ble_eq_true rfl) dJx40b00_toChars2_cabcc_17) (pc' := 20) rfl (fun _ hw3 => ?_)
      refine yy_iinc C (v := (nI 0)) (L' := [(3, .int (nI 0)), (0, .ref (fd)), (1, .int h), (2, .int lo)]) 3 dJx40b00_toChars2_cabcc_20 (pc' := 23) rfl rfl (by decide) (by decide) rfl ?_
      refine yy_goto C (tgt := 11) dJx40b00_toChars2_cabcc_23 (by decide) ?_
      refine yy_iload_n C 0 dJx40b00_toChars2_cabcc_11 (pc' := 12) rfl rfl rfl ?_
      refine yy_if_ge C dJx40b00_toChars2_cabcc_12 (pc' := 15) rfl (tgt := 26) (by decide) (fun c_12 => ?_) (fun c_12 => ?_)
      · skip
        refine yy_aload_n C 1 dJx40b00_toChars2_cabcc_26 (pc' := 27) rfl rfl rfl ?_
        refine yy_iload_n C 2 dJx40b00_toChars2_cabcc_27 (pc' := 28) rfl rfl rfl ?_
        refine yc_v (yr_V C (n := 1) (As := [.int h]) (rest := []) lk_Jx40b00_132 cd_Jx40b00_appendDigit_d00df im_Jx40b00_appendDigit_d00df se_Jx40b00_appendDigit_d00df (mJx40b00_appendDigit_d00df l G B0 fd fb (upd (upd (upd a 0 (dgB (nI 0))) 1 (((nI 46)).toInt8.toInt32)) 2 (dgB (nI 0))) (nI 2) 3 F h (by decide) (by decide)) ⟨by decide, by decide⟩ ⟨by decide, by decide⟩ 0 rfl rfl rfl rfl (Nat.le_of_ble_eq_true rfl) dJx40b00_toChars2_cabcc_28) (pc' := 31) rfl (fun _ hw4 => ?_)
        refine yy_aload_n C 1 dJx40b00_toChars2_cabcc_31 (pc' := 32) rfl rfl rfl ?_
        refine yy_iload_n C 3 dJx40b00_toChars2_cabcc_32 (pc' := 33) rfl rfl rfl ?_
        refine yc_v (yr_V C (n := 1) (As := [.int lo]) (rest := []) lk_Jx40b00_142 cd_Jx40b00_append8Digits_d00df im_Jx40b00_append8Digits_d00df se_Jx40b00_append8Digits_d00df (mJx40b00_append8Digits_d00df l G B0 fd fb (upd (upd (upd (upd a 0 (dgB (nI 0))) 1 (((nI 46)).toInt8.toInt32)) 2 (dgB (nI 0))) 3 (dgB h)) 3 F lo (by decide)) ⟨by decide, by decide⟩ ⟨by decide, by decide⟩ 0 rfl rfl rfl rfl (Nat.le_of_ble_eq_true rfl) dJx40b00_toChars2_cabcc_33) (pc' := 36) rfl (fun _ hw5 => ?_)
        refine yy_aload_n C 1 dJx40b00_toChars2_cabcc_36 (pc' := 37) rfl rfl rfl ?_
        refine yc_v (yr_V C (n := 0) (As := []) (rest := []) lk_Jx40b00_139 cd_Jx40b00_removeTrailingZeroes_da8c8 im_Jx40b00_removeTrailingZeroes_da8c8 se_Jx40b00_removeTrailingZeroes_da8c8 (mJx40b00_removeTrailingZeroes_da8c8 l G B0 fd fb (a8 8 (upd (upd (upd (upd a 0 (dgB (nI 0))) 1 (((nI 46)).toInt8.toInt32)) 2 (dgB (nI 0))) 3 (dgB h)) 3 (yF lo)) 1 11 F (by decide) (by decide) (by rw [a8_lo (by decide), pk_un (by decide), pk_un (by decide), pk_us]; decide) (Nat.le_refl 1)) ⟨by decide, by decide⟩ ⟨by decide, by decide⟩ 0 rfl rfl rfl rfl (Nat.le_of_ble_eq_true rfl) dJx40b00_toChars2_cabcc_37) (pc' := 40) rfl (fun _ hw6 => ?_)
        refine yy_iconst C (v := (nI 0)) dJx40b00_toChars2_cabcc_40 (pc' := 41) rfl (by decide) ?_
        subst hQ
        exact ye_i C hr (vp_nar_int _) () dJx40b00_toChars2_cabcc_41 (by simp only [tcA2, tcK2, m1_ne0, if_false]) (by decide) (by decide) rfl
      · skip
        exact absurd c_12 (by decide)

abbrev rJx40b00_toChars_7cf53 : Room := { frames := 4, cells := 0, slots := 0, locals := 107 }
set_option maxHeartbeats 4000000 in
set_option maxRecDepth 100000 in
theorem mJx40b00_toChars_7cf53 (l : Launch) (G : gG) (B0 : Nat) (fd fb : Nat) (a : Nat → Int32) (F : va_W) (f e_ : Int32) (hok : okTC f e_) : Met l yJx40b00_toChars_7cf53 (Cond.code yJx40b00_toChars_7cf53 cJx40b00_toChars_7cf53 6 (some .int) :: WG) rJx40b00_toChars_7cf53 (va_Pc [.ref (fd), .int f, .int e_] (PR G B0 (((fd, .inr (2, [.ref (fb), .int (-1)])) :: (fb, .inl (G.2.2.2.1, 15, .inl a)) :: F)))) (va_Qi (fun (r : Int32) (_ : Unit) => r = nI 0) (fun (_ : Unit) (t_ : State) => va_P G.1 vwCl (((fd, .inr (2, [.ref (fb), .int (nI (tcR a f e_))])) :: (fb, .inl (G.2.2.2.1, 15, .inl (tcA a f e_))) :: F)) t_.heap ∧ va_D (fun q => B0 ≤ q) (((fd, .inr (2, [.ref (fb), .int (nI (tcR a f e_))])) :: (fb, .inl (G.2.2.2.1, 15, .inl (tcA a f e_))) :: F))) (fun q => B0 ≤ q)) rJx40b00_toChars_7cf53.cells rJx40b00_toChars_7cf53.slots (fun q => B0 ≤ q) := by
  refine met_of RJx40b00 [(0, .ref (fd)), (1, .int f), (2, .int e_)] rfl (by decide) (Nat.le_of_ble_eq_true rfl) rfl ?_
  intro p e s m args below meth c C hr hnm
  refine yq ?_
  intro QQ hQ
  obtain ⟨ok1, ok2, ok3⟩ := hok
  refine yy_bipush C (v := (nI 32)) dJx40b00_toChars_7cf53_0 (pc' := 2) rfl (by decide) ?_
  refine yy_iload_n C 1 dJx40b00_toChars_7cf53_2 (pc' := 3) rfl rfl rfl ?_
  refine yc_i (yr_S C (n := 1) (As := [.int f]) (rest := [.int (nI 32)]) lk_Jx40b00_114 cd_J6_numberOfLeadingZeros_0f7a4 st_J6_numberOfLeadingZeros_0f7a4 (mJ6_numberOfLeadingZeros_0f7a4 l G B0 ((fd, .inr (2, [.ref (fb), .int (-1)])) :: (fb, .inl (G.2.2.2.1, 15, .inl a)) :: F) f) ⟨by decide, by decide⟩ ⟨by decide, by decide⟩ rfl rfl (Nat.le_of_ble_eq_true rfl) dJx40b00_toChars_7cf53_3) (pc' := 6) rfl (fun r1 _ hw1 => ?_)
  subst hw1
  refine yy_isub C (v := (nI 32 - nlzF f)) dJx40b00_toChars_7cf53_6 (pc' := 7) rfl rfl ?_
  refine yc_i (yr_S C (n := 1) (As := [.int (nI 32 - nlzF f)]) (rest := []) lk_Jx40b00_82 cd_Jx25f51_flog10pow2_0f7a4 st_Jx25f51_flog10pow2_0f7a4 (mJx25f51_flog10pow2_0f7a4 l G B0 ((fd, .inr (2, [.ref (fb), .int (-1)])) :: (fb, .inl (G.2.2.2.1, 15, .inl a)) :: F) (nI 32 - nlzF f)) ⟨by decide, by decide⟩ ⟨by decide, by decide⟩ rfl rfl (Nat.le_of_ble_eq_true rfl) dJx40b00_toChars_7cf53_7) (pc' := 10) rfl (fun r2 _ hw2 => ?_)
  subst hw2
  refine yy_istore_n C (L' := [(3, .int (fl10 (nI 32 - nlzF f))), (0, .ref (fd)), (1, .int f), (2, .int e_)]) dJx40b00_toChars_7cf53_10 (pc' := 11) rfl rfl (by decide) rfl ?_
  refine yy_iload_n C 2 dJx40b00_toChars_7cf53_11 (pc' := 12) rfl rfl rfl ?_
  refine yy_i2l C (v := f.toInt64) dJx40b00_toChars_7cf53_12 (pc' := 13) rfl rfl ?_
  refine yy_iload_n C 0 dJx40b00_toChars_7cf53_13 (pc' := 14) rfl rfl rfl ?_
  refine yc_l (yr_S C (n := 1) (As := [.int (fl10 (nI 32 - nlzF f))]) (rest := [.long f.toInt64]) lk_Jx40b00_117 cd_Jx25f51_pow10_3e8ac st_Jx25f51_pow10_3e8ac (mJx25f51_pow10_3e8ac l G B0 ((fd, .inr (2, [.ref (fb), .int (-1)])) :: (fb, .inl (G.2.2.2.1, 15, .inl a)) :: F) (fl10 (nI 32 - nlzF f)) ok1) ⟨by decide, by decide⟩ ⟨by decide, by decide⟩ rfl rfl (Nat.le_of_ble_eq_true rfl) dJx40b00_toChars_7cf53_14) (pc' := 17) rfl (fun r3 _ hw3 => ?_)
  subst hw3
  refine yy_lcmp C dJx40b00_toChars_7cf53_17 (pc' := 18) rfl ?_
  refine yy_if_lt C dJx40b00_toChars_7cf53_18 (pc' := 21) rfl (tgt := 24) (by decide) (fun c_18 => ?_) (fun c_18 => ?_)
  · skip
    have hLn : tcL0 f = tcLn f := (if_pos c_18).symm
    refine yy_iload_n C 2 dJx40b00_toChars_7cf53_24 (pc' := 25) rfl rfl rfl ?_
    refine yy_bipush C (v := (nI 9)) dJx40b00_toChars_7cf53_25 (pc' := 27) rfl (by decide) ?_
    refine yy_iload_n C 0 dJx40b00_toChars_7cf53_27 (pc' := 28) rfl rfl rfl ?_
    refine yy_eqi hLn ?_
    refine yy_isub C (v := ((nI 9) - (tcLn f))) dJx40b00_toChars_7cf53_28 (pc' := 29) rfl rfl ?_
    refine yc_l (yr_S C (n := 1) (As := [.int ((nI 9) - (tcLn f))]) (rest := [.int f]) lk_Jx40b00_117 cd_Jx25f51_pow10_3e8ac st_Jx25f51_pow10_3e8ac (mJx25f51_pow10_3e8ac l G B0 ((fd, .inr (2, [.ref (fb), .int (-1)])) :: (fb, .inl (G.2.2.2.1, 15, .inl a)) :: F) ((nI 9) - (tcLn f)) ok2) ⟨by decide, by decide⟩ ⟨by decide, by decide⟩ rfl rfl (Nat.le_of_ble_eq_true rfl) dJx40b00_toChars_7cf53_29) (pc' := 32) rfl (fun r4 _ hw4 => ?_)
    subst hw4
    refine yy_l2i C (v := ((tbP (ix ((nI 9) - (tcLn f)))).toInt32)) dJx40b00_toChars_7cf53_32 (pc' := 33) rfl rfl ?_
    refine yy_imul C (v := (tcF2 f)) dJx40b00_toChars_7cf53_33 (pc' := 34) rfl rfl ?_
    refine yy_istore_n C (L' := [(1, .int (tcF2 f)), (3, .int (fl10 (nI 32 - nlzF f))), (0, .ref (fd)), (2, .int e_)]) dJx40b00_toChars_7cf53_34 (pc' := 35) rfl rfl (by decide) rfl ?_
    refine yy_iload_n C 3 dJx40b00_toChars_7cf53_35 (pc' := 36) rfl rfl rfl ?_
    refine yy_iload_n C 1 dJx40b00_toChars_7cf53_36 (pc' := 37) rfl rfl rfl ?_
    refine yy_eqi hLn ?_
    refine yy_iadd C (v := (e_ + (tcLn f))) dJx40b00_toChars_7cf53_37 (pc' := 38) rfl rfl ?_
    refine yy_istore_n C (L' := [(2, .int (e_ + (tcLn f))), (1, .int (tcF2 f)), (3, .int (fl10 (nI 32 - nlzF f))), (0, .ref (fd))]) dJx40b00_toChars_7cf53_38 (pc' := 39) rfl rfl (by decide) rfl ?_
    refine yy_iload_n C 1 dJx40b00_toChars_7cf53_39 (pc' := 40) rfl rfl rfl ?_
    refine yy_i2l C (v := ((tcF2 f).toInt64)) dJx40b00_toChars_7cf53_40 (pc' := 41) rfl rfl ?_
    refine yy_ldc2 C dJx40b00_toChars_7cf53_41 (pc' := 44) rfl lg_Jx40b00_120 ?_
    refine yy_lmul C (v := (((tcF2 f).toInt64) * (1441151881))) dJx40b00_toChars_7cf53_44 (pc' := 45) rfl rfl ?_
    refine yy_bipush C (v := (nI 57)) dJx40b00_toChars_7cf53_45 (pc' := 47) rfl (by decide) ?_
    refine yy_lushr C (v := (ush (((tcF2 f).toInt64) * (1441151881)) (nI 57))) dJx40b00_toChars_7cf53_47 (pc' := 48) rfl rfl ?_
    refine yy_l2i C (v := (tcH f)) dJx40b00_toChars_7cf53_48 (pc' := 49) rfl rfl ?_
    refine yy_istore C (L' := [(4, .int (tcH f)), (2, .int (e_ + (tcLn f))), (1, .int (tcF2 f)), (3, .int (fl10 (nI 32 - nlzF f))), (0, .ref (fd))]) dJx40b00_toChars_7cf53_49 (pc' := 51) rfl (by decide) rfl ?_
    refine yy_iload_n C 2 dJx40b00_toChars_7cf53_51 (pc' := 52) rfl rfl rfl ?_
    refine yy_ldci C (v := (nI 100000000)) dJx40b00_toChars_7cf53_52 (pc' := 54) rfl li_Jx40b00_122 ?_
    refine yy_iload C 0 dJx40b00_toChars_7cf53_54 (pc' := 56) rfl rfl ?_
    refine yy_imul C (v := ((nI 100000000) * (tcH f))) dJx40b00_toChars_7cf53_56 (pc' := 57) rfl rfl ?_
    refine yy_isub C (v := (tcLo f)) dJx40b00_toChars_7cf53_57 (pc' := 58) rfl rfl ?_
    refine yy_istore C (L' := [(5, .int (tcLo f)), (4, .int (tcH f)), (2, .int (e_ + (tcLn f))), (1, .int (tcF2 f)), (3, .int (fl10 (nI 32 - nlzF f))), (0, .ref (fd))]) dJx40b00_toChars_7cf53_58 (pc' := 60) rfl (by decide) rfl ?_
    refine yy_iconst C (v := (nI 0)) dJx40b00_toChars_7cf53_60 (pc' := 61) rfl (by decide) ?_
    refine yy_iload_n C 2 dJx40b00_toChars_7cf53_61 (pc' := 62) rfl rfl rfl ?_
    refine yy_icmp_ge C dJx40b00_toChars_7cf53_62 (pc' := 65) rfl (tgt := 81) (by decide) (fun c_62 => ?_) (fun c_62 => ?_)
    · skip
      have h1 : ¬ e_ + tcLn f = nI 1 := fun z => absurd (z ▸ c_62) (by decide)
      have h2 : e_ + tcLn f = nI 0 ∨ e_ + tcLn f = -1 := ok3.resolve_left h1
      refine yy_bipush C (v := (-3)) dJx40b00_toChars_7cf53_81 (pc' := 83) rfl (by decide) ?_
      refine yy_iload_n C 2 dJx40b00_toChars_7cf53_83 (pc' := 84) rfl rfl rfl ?_
      refine yy_icmp_ge C dJx40b00_toChars_7cf53_84 (pc' := 87) rfl (tgt := 101) (by decide) (fun c_84 => ?_) (fun c_84 => ?_)
      · skip
        exact absurd c_84 (by rcases h2 with h | h <;> rw [h] <;> decide)
      · skip
        refine yy_iload_n C 2 dJx40b00_toChars_7cf53_87 (pc' := 88) rfl rfl rfl ?_
        refine yy_if_gt C dJx40b00_toChars_7cf53_88 (pc' := 91) rfl (tgt := 101) (by decide) (fun c_88 => ?_) (fun c_88 => ?_)
        · skip
          exact absurd c_88 (by rcases h2 with h | h <;> rw [h] <;> decide)
        · skip
          refine yy_aload_n C 5 dJx40b00_toChars_7cf53_91 (pc' := 92) rfl rfl rfl ?_
          refine yy_iload C 1 dJx40b00_toChars_7cf53_92 (pc' := 94) rfl rfl ?_
          refine yy_iload C 0 dJx40b00_toChars_7cf53_94 (pc' := 96) rfl rfl ?_
          refine yy_iload_n C 2 dJx40b00_toChars_7cf53_96 (pc' := 97) rfl rfl rfl ?_
          refine yc_i (yr_V C (n := 3) (As := [.int (tcH f), .int (tcLo f), .int (e_ + (tcLn f))]) (rest := []) lk_Jx40b00_126 cd_Jx40b00_toChars2_cabcc im_Jx40b00_toChars2_cabcc se_Jx40b00_toChars2_cabcc (mJx40b00_toChars2_cabcc l G B0 fd fb a F (tcH f) (tcLo f) (e_ + (tcLn f)) h2) ⟨by decide, by decide⟩ ⟨by decide, by decide⟩ 0 rfl rfl rfl rfl (Nat.le_of_ble_eq_true rfl) dJx40b00_toChars_7cf53_97) (pc' := 100) rfl (fun r5 _ hw5 => ?_)
          subst hw5
          subst hQ
          exact ye_i C hr (vp_nar_int _) () dJx40b00_toChars_7cf53_100 (by simp only [tcA, tcR, if_neg h1]) (by decide) (by decide) rfl
    · skip
      have h1 : e_ + tcLn f = nI 1 := by
        rcases ok3 with h | h | h
        · exact h
        · exact absurd (h ▸ Int32.le_refl _) c_62
        · exact absurd (h ▸ (by decide : (-1 : Int32) ≤ nI 0)) c_62
      refine yy_iload_n C 2 dJx40b00_toChars_7cf53_65 (pc' := 66) rfl rfl rfl ?_
      refine yy_bipush C (v := (nI 7)) dJx40b00_toChars_7cf53_66 (pc' := 68) rfl (by decide) ?_
      refine yy_icmp_gt C dJx40b00_toChars_7cf53_68 (pc' := 71) rfl (tgt := 81) (by decide) (fun c_68 => ?_) (fun c_68 => ?_)
      · skip
        exact absurd (h1 ▸ c_68) (by decide)
      · skip
        refine yy_aload_n C 5 dJx40b00_toChars_7cf53_71 (pc' := 72) rfl rfl rfl ?_
        refine yy_iload C 1 dJx40b00_toChars_7cf53_72 (pc' := 74) rfl rfl ?_
        refine yy_iload C 0 dJx40b00_toChars_7cf53_74 (pc' := 76) rfl rfl ?_
        refine yy_iload_n C 2 dJx40b00_toChars_7cf53_76 (pc' := 77) rfl rfl rfl ?_
        refine yc_i (yr_V C (n := 3) (As := [.int (tcH f), .int (tcLo f), .int (e_ + (tcLn f))]) (rest := []) lk_Jx40b00_123 cd_Jx40b00_toChars1_cabcc im_Jx40b00_toChars1_cabcc se_Jx40b00_toChars1_cabcc (mJx40b00_toChars1_cabcc l G B0 fd fb a F (tcH f) (tcLo f) (e_ + (tcLn f)) h1) ⟨by decide, by decide⟩ ⟨by decide, by decide⟩ 0 rfl rfl rfl rfl (Nat.le_of_ble_eq_true rfl) dJx40b00_toChars_7cf53_77) (pc' := 80) rfl (fun r5 _ hw5 => ?_)
        subst hw5
        subst hQ
        exact ye_i C hr (vp_nar_int _) () dJx40b00_toChars_7cf53_80 (by simp only [tcA, tcR, if_pos h1]) (by decide) (by decide) rfl
  · skip
    have hLn : tcL0 f + Int32.ofInt (1) = tcLn f := (if_neg c_18).symm
    refine yy_iinc C (v := ((fl10 (nI 32 - nlzF f)) + Int32.ofInt (1))) (L' := [(3, .int ((fl10 (nI 32 - nlzF f)) + Int32.ofInt (1))), (0, .ref (fd)), (1, .int f), (2, .int e_)]) 0 dJx40b00_toChars_7cf53_21 (pc' := 24) rfl rfl rfl (by decide) rfl ?_
    refine yy_iload_n C 2 dJx40b00_toChars_7cf53_24 (pc' := 25) rfl rfl rfl ?_
    refine yy_bipush C (v := (nI 9)) dJx40b00_toChars_7cf53_25 (pc' := 27) rfl (by decide) ?_
    refine yy_iload_n C 0 dJx40b00_toChars_7cf53_27 (pc' := 28) rfl rfl rfl ?_
    refine yy_eqi hLn ?_
    refine yy_isub C (v := ((nI 9) - (tcLn f))) dJx40b00_toChars_7cf53_28 (pc' := 29) rfl rfl ?_
    refine yc_l (yr_S C (n := 1) (As := [.int ((nI 9) - (tcLn f))]) (rest := [.int f]) lk_Jx40b00_117 cd_Jx25f51_pow10_3e8ac st_Jx25f51_pow10_3e8ac (mJx25f51_pow10_3e8ac l G B0 ((fd, .inr (2, [.ref (fb), .int (-1)])) :: (fb, .inl (G.2.2.2.1, 15, .inl a)) :: F) ((nI 9) - (tcLn f)) ok2) ⟨by decide, by decide⟩ ⟨by decide, by decide⟩ rfl rfl (Nat.le_of_ble_eq_true rfl) dJx40b00_toChars_7cf53_29) (pc' := 32) rfl (fun r4 _ hw4 => ?_)
    subst hw4
    refine yy_l2i C (v := ((tbP (ix ((nI 9) - (tcLn f)))).toInt32)) dJx40b00_toChars_7cf53_32 (pc' := 33) rfl rfl ?_
    refine yy_imul C (v := (tcF2 f)) dJx40b00_toChars_7cf53_33 (pc' := 34) rfl rfl ?_
    refine yy_istore_n C (L' := [(1, .int (tcF2 f)), (3, .int ((fl10 (nI 32 - nlzF f)) + Int32.ofInt (1))), (0, .ref (fd)), (2, .int e_)]) dJx40b00_toChars_7cf53_34 (pc' := 35) rfl rfl (by decide) rfl ?_
    refine yy_iload_n C 3 dJx40b00_toChars_7cf53_35 (pc' := 36) rfl rfl rfl ?_
    refine yy_iload_n C 1 dJx40b00_toChars_7cf53_36 (pc' := 37) rfl rfl rfl ?_
    refine yy_eqi hLn ?_
    refine yy_iadd C (v := (e_ + (tcLn f))) dJx40b00_toChars_7cf53_37 (pc' := 38) rfl rfl ?_
    refine yy_istore_n C (L' := [(2, .int (e_ + (tcLn f))), (1, .int (tcF2 f)), (3, .int ((fl10 (nI 32 - nlzF f)) + Int32.ofInt (1))), (0, .ref (fd))]) dJx40b00_toChars_7cf53_38 (pc' := 39) rfl rfl (by decide) rfl ?_
    refine yy_iload_n C 1 dJx40b00_toChars_7cf53_39 (pc' := 40) rfl rfl rfl ?_
    refine yy_i2l C (v := ((tcF2 f).toInt64)) dJx40b00_toChars_7cf53_40 (pc' := 41) rfl rfl ?_
    refine yy_ldc2 C dJx40b00_toChars_7cf53_41 (pc' := 44) rfl lg_Jx40b00_120 ?_
    refine yy_lmul C (v := (((tcF2 f).toInt64) * (1441151881))) dJx40b00_toChars_7cf53_44 (pc' := 45) rfl rfl ?_
    refine yy_bipush C (v := (nI 57)) dJx40b00_toChars_7cf53_45 (pc' := 47) rfl (by decide) ?_
    refine yy_lushr C (v := (ush (((tcF2 f).toInt64) * (1441151881)) (nI 57))) dJx40b00_toChars_7cf53_47 (pc' := 48) rfl rfl ?_
    refine yy_l2i C (v := (tcH f)) dJx40b00_toChars_7cf53_48 (pc' := 49) rfl rfl ?_
    refine yy_istore C (L' := [(4, .int (tcH f)), (2, .int (e_ + (tcLn f))), (1, .int (tcF2 f)), (3, .int ((fl10 (nI 32 - nlzF f)) + Int32.ofInt (1))), (0, .ref (fd))]) dJx40b00_toChars_7cf53_49 (pc' := 51) rfl (by decide) rfl ?_
    refine yy_iload_n C 2 dJx40b00_toChars_7cf53_51 (pc' := 52) rfl rfl rfl ?_
    refine yy_ldci C (v := (nI 100000000)) dJx40b00_toChars_7cf53_52 (pc' := 54) rfl li_Jx40b00_122 ?_
    refine yy_iload C 0 dJx40b00_toChars_7cf53_54 (pc' := 56) rfl rfl ?_
    refine yy_imul C (v := ((nI 100000000) * (tcH f))) dJx40b00_toChars_7cf53_56 (pc' := 57) rfl rfl ?_
    refine yy_isub C (v := (tcLo f)) dJx40b00_toChars_7cf53_57 (pc' := 58) rfl rfl ?_
    refine yy_istore C (L' := [(5, .int (tcLo f)), (4, .int (tcH f)), (2, .int (e_ + (tcLn f))), (1, .int (tcF2 f)), (3, .int ((fl10 (nI 32 - nlzF f)) + Int32.ofInt (1))), (0, .ref (fd))]) dJx40b00_toChars_7cf53_58 (pc' := 60) rfl (by decide) rfl ?_
    refine yy_iconst C (v := (nI 0)) dJx40b00_toChars_7cf53_60 (pc' := 61) rfl (by decide) ?_
    refine yy_iload_n C 2 dJx40b00_toChars_7cf53_61 (pc' := 62) rfl rfl rfl ?_
    refine yy_icmp_ge C dJx40b00_toChars_7cf53_62 (pc' := 65) rfl (tgt := 81) (by decide) (fun c_62 => ?_) (fun c_62 => ?_)
    · skip
      have h1 : ¬ e_ + tcLn f = nI 1 := fun z => absurd (z ▸ c_62) (by decide)
      have h2 : e_ + tcLn f = nI 0 ∨ e_ + tcLn f = -1 := ok3.resolve_left h1
      refine yy_bipush C (v := (-3)) dJx40b00_toChars_7cf53_81 (pc' := 83) rfl (by decide) ?_
      refine yy_iload_n C 2 dJx40b00_toChars_7cf53_83 (pc' := 84) rfl rfl rfl ?_
      refine yy_icmp_ge C dJx40b00_toChars_7cf53_84 (pc' := 87) rfl (tgt := 101) (by decide) (fun c_84 => ?_) (fun c_84 => ?_)
      · skip
        exact absurd c_84 (by rcases h2 with h | h <;> rw [h] <;> decide)
      · skip
        refine yy_iload_n C 2 dJx40b00_toChars_7cf53_87 (pc' := 88) rfl rfl rfl ?_
        refine yy_if_gt C dJx40b00_toChars_7cf53_88 (pc' := 91) rfl (tgt := 101) (by decide) (fun c_88 => ?_) (fun c_88 => ?_)
        · skip
          exact absurd c_88 (by rcases h2 with h | h <;> rw [h] <;> decide)
        · skip
          refine yy_aload_n C 5 dJx40b00_toChars_7cf53_91 (pc' := 92) rfl rfl rfl ?_
          refine yy_iload C 1 dJx40b00_toChars_7cf53_92 (pc' := 94) rfl rfl ?_
          refine yy_iload C 0 dJx40b00_toChars_7cf53_94 (pc' := 96) rfl rfl ?_
          refine yy_iload_n C 2 dJx40b00_toChars_7cf53_96 (pc' := 97) rfl rfl rfl ?_
          refine yc_i (yr_V C (n := 3) (As := [.int (tcH f), .int (tcLo f), .int (e_ + (tcLn f))]) (rest := []) lk_Jx40b00_126 cd_Jx40b00_toChars2_cabcc im_Jx40b00_toChars2_cabcc se_Jx40b00_toChars2_cabcc (mJx40b00_toChars2_cabcc l G B0 fd fb a F (tcH f) (tcLo f) (e_ + (tcLn f)) h2) ⟨by decide, by decide⟩ ⟨by decide, by decide⟩ 0 rfl rfl rfl rfl (Nat.le_of_ble_eq_true rfl) dJx40b00_toChars_7cf53_97) (pc' := 100) rfl (fun r5 _ hw5 => ?_)
          subst hw5
          subst hQ
          exact ye_i C hr (vp_nar_int _) () dJx40b00_toChars_7cf53_100 (by simp only [tcA, tcR, if_neg h1]) (by decide) (by decide) rfl
    · skip
      have h1 : e_ + tcLn f = nI 1 := by
        rcases ok3 with h | h | h
        · exact h
        · exact absurd (h ▸ Int32.le_refl _) c_62
        · exact absurd (h ▸ (by decide : (-1 : Int32) ≤ nI 0)) c_62
      refine yy_iload_n C 2 dJx40b00_toChars_7cf53_65 (pc' := 66) rfl rfl rfl ?_
      refine yy_bipush C (v := (nI 7)) dJx40b00_toChars_7cf53_66 (pc' := 68) rfl (by decide) ?_
      refine yy_icmp_gt C dJx40b00_toChars_7cf53_68 (pc' := 71) rfl (tgt := 81) (by decide) (fun c_68 => ?_) (fun c_68 => ?_)
      · skip
        exact absurd (h1 ▸ c_68) (by decide)
      · skip
        refine yy_aload_n C 5 dJx40b00_toChars_7cf53_71 (pc' := 72) rfl rfl rfl ?_
        refine yy_iload C 1 dJx40b00_toChars_7cf53_72 (pc' := 74) rfl rfl ?_
        refine yy_iload C 0 dJx40b00_toChars_7cf53_74 (pc' := 76) rfl rfl ?_
        refine yy_iload_n C 2 dJx40b00_toChars_7cf53_76 (pc' := 77) rfl rfl rfl ?_
        refine yc_i (yr_V C (n := 3) (As := [.int (tcH f), .int (tcLo f), .int (e_ + (tcLn f))]) (rest := []) lk_Jx40b00_123 cd_Jx40b00_toChars1_cabcc im_Jx40b00_toChars1_cabcc se_Jx40b00_toChars1_cabcc (mJx40b00_toChars1_cabcc l G B0 fd fb a F (tcH f) (tcLo f) (e_ + (tcLn f)) h1) ⟨by decide, by decide⟩ ⟨by decide, by decide⟩ 0 rfl rfl rfl rfl (Nat.le_of_ble_eq_true rfl) dJx40b00_toChars_7cf53_77) (pc' := 80) rfl (fun r5 _ hw5 => ?_)
        subst hw5
        subst hQ
        exact ye_i C hr (vp_nar_int _) () dJx40b00_toChars_7cf53_80 (by simp only [tcA, tcR, if_pos h1]) (by decide) (by decide) rfl
