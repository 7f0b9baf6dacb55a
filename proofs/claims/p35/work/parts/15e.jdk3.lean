/-- a long's letters: a natural -/
def smJ (v : Int64) : Prop := ∃ k, k < 100000 ∧ v = lN k
def tJ (v : Int64) : TT := (sb_dec (mk v), sb_dg (mk v))
theorem tJ_nn {k : Nat} (hk : k < 2 ^ 31) : tJ (lN k) = (sb_dec k, sb_dg k) := by rw [tJ, mk_lN (by omega)]
theorem tJ_len {v : Int64} (h : smJ v) : (tJ v).2 ≤ 5 := by
  obtain ⟨k, hk, rfl⟩ := h
  rw [tJ_nn (by omega)]
  show sb_dg k ≤ 5
  unfold sb_dg
  (repeat' split) <;> omega
theorem nlT {w : Nat} (h : w < 2 ^ 31) : (-lN w).toInt = -(w : Int) := by
  rw [Int64.toInt_neg, pk_lT (by omega)]
  exact Int.bmod_eq_of_le (by omega) (by omega)
theorem nl_le {a b : Nat} (ha : a < 2 ^ 31) (hb : b < 2 ^ 31) : -lN a ≤ -lN b ↔ b ≤ a := by
  rw [Int64.le_iff_toInt_le, nlT ha, nlT hb]
  omega
theorem nl_i {k : Nat} (hk : k < 2 ^ 31) : (-lN k).toInt32 = -nI k := by
  apply Int32.toInt_inj.mp
  rw [Int64.toInt_toInt32, nlT hk, sb_negT hk]
  exact Int.bmod_eq_of_le (by omega) (by omega)
theorem nl_min {k : Nat} (hk : k < 100000) : 0 < lg_cmp (-lN k) (-2147483648) := by
  rw [lg_cmp_gt, Int64.lt_iff_toInt_lt, nlT (by omega)]
  have h : ((-2147483648 : Int64)).toInt = -2147483648 := by decide
  rw [h]
  omega
theorem nl_pos {k : Nat} (hk : k < 100000) : 0 ≤ lg_cmp (lN k) 0 := by
  rw [lg_cmp_ge, Int64.le_iff_toInt_le, pk_lT (by omega)]
  have h : ((0 : Int64)).toInt = 0 := by decide
  rw [h]
  omega
abbrev rJ13_stringSize_95d88 : Room := { frames := 0, cells := 0, slots := 0, locals := 0 }
set_option maxHeartbeats 4000000 in
set_option maxRecDepth 100000 in
theorem mJ13_stringSize_95d88 (l : Launch) (G : gG) (B0 : Nat) (w : va_W) (v : Int64) (hv : smJ v) : Met l yJ13_stringSize_95d88 (Cond.code yJ13_stringSize_95d88 cJ13_stringSize_95d88 6 (some .int) :: WG) rJ13_stringSize_95d88 (va_Pc [.long v] (PR G B0 (w))) (va_Qi (fun (r : Int32) (_ : Unit) => r = nI (tJ v).2) (fun (_ : Unit) (t_ : State) => va_P G.1 vwCl (w) t_.heap ∧ va_D (fun q => B0 ≤ q) (w)) (fun q => B0 ≤ q)) rJ13_stringSize_95d88.cells rJ13_stringSize_95d88.slots (fun q => B0 ≤ q) := by
  refine met_of RJ13 [(0, .long v)] rfl (by decide) (Nat.le_of_ble_eq_true rfl) rfl ?_
  intro p e s m args below meth c C hr hnm
  refine yq ?_
  intro QQ hQ
  obtain ⟨k, hk, rfl⟩ := hv
  · skip
    refine yy_iconst C (v := (nI 1)) dJ13_stringSize_95d88_0 (pc' := 1) rfl (by decide) ?_
    refine yy_istore_n C (L' := [(2, .int (nI 1)), (0, .long (lN k))]) dJ13_stringSize_95d88_1 (pc' := 2) rfl rfl (by decide) rfl ?_
    refine yy_lload_n C 1 dJ13_stringSize_95d88_2 (pc' := 3) rfl rfl rfl ?_
    refine yy_lconst C (v := 0) dJ13_stringSize_95d88_3 (pc' := 4) rfl (by decide) ?_
    refine yy_lcmp C dJ13_stringSize_95d88_4 (pc' := 5) rfl ?_
    refine yy_if_lt C dJ13_stringSize_95d88_5 (pc' := 8) rfl (tgt := 13) (by decide) (fun c_5 => ?_) (fun c_5 => ?_)
    · skip
      exact absurd (nl_pos hk) (Int32.not_le.mpr c_5)
    · skip
      refine yy_iconst C (v := (nI 0)) dJ13_stringSize_95d88_8 (pc' := 9) rfl (by decide) ?_
      refine yy_istore_n C (L' := [(2, .int (nI 0)), (0, .long (lN k))]) dJ13_stringSize_95d88_9 (pc' := 10) rfl rfl (by decide) rfl ?_
      refine yy_lload_n C 1 dJ13_stringSize_95d88_10 (pc' := 11) rfl rfl rfl ?_
      refine yy_lneg C (v := (-(lN k))) dJ13_stringSize_95d88_11 (pc' := 12) rfl rfl ?_
      refine yy_lstore_n C (L' := [(0, .long (-(lN k))), (2, .int (nI 0))]) dJ13_stringSize_95d88_12 (pc' := 13) rfl rfl (by decide) rfl ?_
      refine yy_ldc2 C dJ13_stringSize_95d88_13 (pc' := 16) rfl lg_J13_140 ?_
      refine yy_lstore_n C (L' := [(3, .long (-10)), (0, .long (-(lN k))), (2, .int (nI 0))]) dJ13_stringSize_95d88_16 (pc' := 17) rfl rfl (by decide) rfl ?_
      refine yy_iconst C (v := (nI 1)) dJ13_stringSize_95d88_17 (pc' := 18) rfl (by decide) ?_
      refine yy_istore C (L' := [(5, .int (nI 1)), (3, .long (-10)), (0, .long (-(lN k))), (2, .int (nI 0))]) dJ13_stringSize_95d88_18 (pc' := 20) rfl (by decide) rfl ?_
      refine yy_iload C 0 dJ13_stringSize_95d88_20 (pc' := 22) rfl rfl ?_
      refine yy_bipush C (v := (nI 19)) dJ13_stringSize_95d88_22 (pc' := 24) rfl (by decide) ?_
      refine yn_icmp_ge C (by decide) (by decide) dJ13_stringSize_95d88_24 (pc' := 27) rfl (tgt := 50) (by decide) (fun c_24 => ?_) (fun c_24 => ?_)
      · skip
        exact absurd c_24 (by decide)
      · skip
        refine yy_lload_n C 2 dJ13_stringSize_95d88_27 (pc' := 28) rfl rfl rfl ?_
        refine yy_lload_n C 1 dJ13_stringSize_95d88_28 (pc' := 29) rfl rfl rfl ?_
        refine yy_lcmp C dJ13_stringSize_95d88_29 (pc' := 30) rfl ?_
        refine yy_if_le C dJ13_stringSize_95d88_30 (pc' := 33) rfl (tgt := 38) (by decide) (fun c_30 => ?_) (fun c_30 => ?_)
        · skip
          have hz10 : 10 ≤ k := (nl_le (by omega) (by decide)).mp (show -lN k ≤ -lN 10 from (lg_cmp_le _ _).mp c_30)
          refine yy_ldc2 C dJ13_stringSize_95d88_38 (pc' := 41) rfl lg_J13_53 ?_
          refine yy_lload_n C 1 dJ13_stringSize_95d88_41 (pc' := 42) rfl rfl rfl ?_
          refine yy_lmul C (v := (-100)) dJ13_stringSize_95d88_42 (pc' := 43) rfl (by decide) ?_
          refine yy_lstore_n C (L' := [(3, .long (-100)), (5, .int (nI 1)), (0, .long (-(lN k))), (2, .int (nI 0))]) dJ13_stringSize_95d88_43 (pc' := 44) rfl rfl (by decide) rfl ?_
          refine yy_iinc C (v := (nI 2)) (L' := [(5, .int (nI 2)), (3, .long (-100)), (0, .long (-(lN k))), (2, .int (nI 0))]) 1 dJ13_stringSize_95d88_44 (pc' := 47) rfl rfl (by decide) (by decide) rfl ?_
          refine yy_goto C (tgt := 20) dJ13_stringSize_95d88_47 (by decide) ?_
          refine yy_iload C 0 dJ13_stringSize_95d88_20 (pc' := 22) rfl rfl ?_
          refine yy_bipush C (v := (nI 19)) dJ13_stringSize_95d88_22 (pc' := 24) rfl (by decide) ?_
          refine yn_icmp_ge C (by decide) (by decide) dJ13_stringSize_95d88_24 (pc' := 27) rfl (tgt := 50) (by decide) (fun c_24 => ?_) (fun c_24 => ?_)
          · skip
            exact absurd c_24 (by decide)
          · skip
            refine yy_lload_n C 2 dJ13_stringSize_95d88_27 (pc' := 28) rfl rfl rfl ?_
            refine yy_lload_n C 1 dJ13_stringSize_95d88_28 (pc' := 29) rfl rfl rfl ?_
            refine yy_lcmp C dJ13_stringSize_95d88_29 (pc' := 30) rfl ?_
            refine yy_if_le C dJ13_stringSize_95d88_30 (pc' := 33) rfl (tgt := 38) (by decide) (fun c_30 => ?_) (fun c_30 => ?_)
            · skip
              have hz100 : 100 ≤ k := (nl_le (by omega) (by decide)).mp (show -lN k ≤ -lN 100 from (lg_cmp_le _ _).mp c_30)
              refine yy_ldc2 C dJ13_stringSize_95d88_38 (pc' := 41) rfl lg_J13_53 ?_
              refine yy_lload_n C 1 dJ13_stringSize_95d88_41 (pc' := 42) rfl rfl rfl ?_
              refine yy_lmul C (v := (-1000)) dJ13_stringSize_95d88_42 (pc' := 43) rfl (by decide) ?_
              refine yy_lstore_n C (L' := [(3, .long (-1000)), (5, .int (nI 2)), (0, .long (-(lN k))), (2, .int (nI 0))]) dJ13_stringSize_95d88_43 (pc' := 44) rfl rfl (by decide) rfl ?_
              refine yy_iinc C (v := (nI 3)) (L' := [(5, .int (nI 3)), (3, .long (-1000)), (0, .long (-(lN k))), (2, .int (nI 0))]) 1 dJ13_stringSize_95d88_44 (pc' := 47) rfl rfl (by decide) (by decide) rfl ?_
              refine yy_goto C (tgt := 20) dJ13_stringSize_95d88_47 (by decide) ?_
              refine yy_iload C 0 dJ13_stringSize_95d88_20 (pc' := 22) rfl rfl ?_
              refine yy_bipush C (v := (nI 19)) dJ13_stringSize_95d88_22 (pc' := 24) rfl (by decide) ?_
              refine yn_icmp_ge C (by decide) (by decide) dJ13_stringSize_95d88_24 (pc' := 27) rfl (tgt := 50) (by decide) (fun c_24 => ?_) (fun c_24 => ?_)
              · skip
                exact absurd c_24 (by decide)
              · skip
                refine yy_lload_n C 2 dJ13_stringSize_95d88_27 (pc' := 28) rfl rfl rfl ?_
                refine yy_lload_n C 1 dJ13_stringSize_95d88_28 (pc' := 29) rfl rfl rfl ?_
                refine yy_lcmp C dJ13_stringSize_95d88_29 (pc' := 30) rfl ?_
                refine yy_if_le C dJ13_stringSize_95d88_30 (pc' := 33) rfl (tgt := 38) (by decide) (fun c_30 => ?_) (fun c_30 => ?_)
                · skip
                  have hz1000 : 1000 ≤ k := (nl_le (by omega) (by decide)).mp (show -lN k ≤ -lN 1000 from (lg_cmp_le _ _).mp c_30)
                  refine yy_ldc2 C dJ13_stringSize_95d88_38 (pc' := 41) rfl lg_J13_53 ?_
                  refine yy_lload_n C 1 dJ13_stringSize_95d88_41 (pc' := 42) rfl rfl rfl ?_
                  refine yy_lmul C (v := (-10000)) dJ13_stringSize_95d88_42 (pc' := 43) rfl (by decide) ?_
                  refine yy_lstore_n C (L' := [(3, .long (-10000)), (5, .int (nI 3)), (0, .long (-(lN k))), (2, .int (nI 0))]) dJ13_stringSize_95d88_43 (pc' := 44) rfl rfl (by decide) rfl ?_
                  refine yy_iinc C (v := (nI 4)) (L' := [(5, .int (nI 4)), (3, .long (-10000)), (0, .long (-(lN k))), (2, .int (nI 0))]) 1 dJ13_stringSize_95d88_44 (pc' := 47) rfl rfl (by decide) (by decide) rfl ?_
                  refine yy_goto C (tgt := 20) dJ13_stringSize_95d88_47 (by decide) ?_
                  refine yy_iload C 0 dJ13_stringSize_95d88_20 (pc' := 22) rfl rfl ?_
                  refine yy_bipush C (v := (nI 19)) dJ13_stringSize_95d88_22 (pc' := 24) rfl (by decide) ?_
                  refine yn_icmp_ge C (by decide) (by decide) dJ13_stringSize_95d88_24 (pc' := 27) rfl (tgt := 50) (by decide) (fun c_24 => ?_) (fun c_24 => ?_)
                  · skip
                    exact absurd c_24 (by decide)
                  · skip
                    refine yy_lload_n C 2 dJ13_stringSize_95d88_27 (pc' := 28) rfl rfl rfl ?_
                    refine yy_lload_n C 1 dJ13_stringSize_95d88_28 (pc' := 29) rfl rfl rfl ?_
                    refine yy_lcmp C dJ13_stringSize_95d88_29 (pc' := 30) rfl ?_
                    refine yy_if_le C dJ13_stringSize_95d88_30 (pc' := 33) rfl (tgt := 38) (by decide) (fun c_30 => ?_) (fun c_30 => ?_)
                    · skip
                      have hz10000 : 10000 ≤ k := (nl_le (by omega) (by decide)).mp (show -lN k ≤ -lN 10000 from (lg_cmp_le _ _).mp c_30)
                      refine yy_ldc2 C dJ13_stringSize_95d88_38 (pc' := 41) rfl lg_J13_53 ?_
                      refine yy_lload_n C 1 dJ13_stringSize_95d88_41 (pc' := 42) rfl rfl rfl ?_
                      refine yy_lmul C (v := (-100000)) dJ13_stringSize_95d88_42 (pc' := 43) rfl (by decide) ?_
                      refine yy_lstore_n C (L' := [(3, .long (-100000)), (5, .int (nI 4)), (0, .long (-(lN k))), (2, .int (nI 0))]) dJ13_stringSize_95d88_43 (pc' := 44) rfl rfl (by decide) rfl ?_
                      refine yy_iinc C (v := (nI 5)) (L' := [(5, .int (nI 5)), (3, .long (-100000)), (0, .long (-(lN k))), (2, .int (nI 0))]) 1 dJ13_stringSize_95d88_44 (pc' := 47) rfl rfl (by decide) (by decide) rfl ?_
                      refine yy_goto C (tgt := 20) dJ13_stringSize_95d88_47 (by decide) ?_
                      refine yy_iload C 0 dJ13_stringSize_95d88_20 (pc' := 22) rfl rfl ?_
                      refine yy_bipush C (v := (nI 19)) dJ13_stringSize_95d88_22 (pc' := 24) rfl (by decide) ?_
                      refine yn_icmp_ge C (by decide) (by decide) dJ13_stringSize_95d88_24 (pc' := 27) rfl (tgt := 50) (by decide) (fun c_24 => ?_) (fun c_24 => ?_)
                      · skip
                        exact absurd c_24 (by decide)
                      · skip
                        refine yy_lload_n C 2 dJ13_stringSize_95d88_27 (pc' := 28) rfl rfl rfl ?_
                        refine yy_lload_n C 1 dJ13_stringSize_95d88_28 (pc' := 29) rfl rfl rfl ?_
                        refine yy_lcmp C dJ13_stringSize_95d88_29 (pc' := 30) rfl ?_
                        refine yy_if_le C dJ13_stringSize_95d88_30 (pc' := 33) rfl (tgt := 38) (by decide) (fun c_30 => ?_) (fun c_30 => ?_)
                        · skip
                          have hz100000 : 100000 ≤ k := (nl_le (by omega) (by decide)).mp (show -lN k ≤ -lN 100000 from (lg_cmp_le _ _).mp c_30)
                          omega
                        · skip
                          have hz100000 : k < 100000 := Nat.not_le.mp (fun z => c_30 ((lg_cmp_le _ _).mpr ((nl_le (a := k) (b := 100000) (by omega) (by decide)).mpr z)))
                          refine yy_iload C 0 dJ13_stringSize_95d88_33 (pc' := 35) rfl rfl ?_
                          refine yy_iload_n C 3 dJ13_stringSize_95d88_35 (pc' := 36) rfl rfl rfl ?_
                          refine yy_iadd C (v := (nI 5)) dJ13_stringSize_95d88_36 (pc' := 37) rfl (by decide) ?_
                          subst hQ
                          exact ye_i C hr (vp_nar_int _) () dJ13_stringSize_95d88_37 rfl (by decide) (by decide) (by rw [tJ_nn (by omega)]; exact congrArg nI (by show _ = sb_dg k; unfold sb_dg; (repeat' split) <;> omega))
                    · skip
                      have hz10000 : k < 10000 := Nat.not_le.mp (fun z => c_30 ((lg_cmp_le _ _).mpr ((nl_le (a := k) (b := 10000) (by omega) (by decide)).mpr z)))
                      refine yy_iload C 0 dJ13_stringSize_95d88_33 (pc' := 35) rfl rfl ?_
                      refine yy_iload_n C 3 dJ13_stringSize_95d88_35 (pc' := 36) rfl rfl rfl ?_
                      refine yy_iadd C (v := (nI 4)) dJ13_stringSize_95d88_36 (pc' := 37) rfl (by decide) ?_
                      subst hQ
                      exact ye_i C hr (vp_nar_int _) () dJ13_stringSize_95d88_37 rfl (by decide) (by decide) (by rw [tJ_nn (by omega)]; exact congrArg nI (by show _ = sb_dg k; unfold sb_dg; (repeat' split) <;> omega))
                · skip
                  have hz1000 : k < 1000 := Nat.not_le.mp (fun z => c_30 ((lg_cmp_le _ _).mpr ((nl_le (a := k) (b := 1000) (by omega) (by decide)).mpr z)))
                  refine yy_iload C 0 dJ13_stringSize_95d88_33 (pc' := 35) rfl rfl ?_
                  refine yy_iload_n C 3 dJ13_stringSize_95d88_35 (pc' := 36) rfl rfl rfl ?_
                  refine yy_iadd C (v := (nI 3)) dJ13_stringSize_95d88_36 (pc' := 37) rfl (by decide) ?_
                  subst hQ
                  exact ye_i C hr (vp_nar_int _) () dJ13_stringSize_95d88_37 rfl (by decide) (by decide) (by rw [tJ_nn (by omega)]; exact congrArg nI (by show _ = sb_dg k; unfold sb_dg; (repeat' split) <;> omega))
            · skip
              have hz100 : k < 100 := Nat.not_le.mp (fun z => c_30 ((lg_cmp_le _ _).mpr ((nl_le (a := k) (b := 100) (by omega) (by decide)).mpr z)))
              refine yy_iload C 0 dJ13_stringSize_95d88_33 (pc' := 35) rfl rfl ?_
              refine yy_iload_n C 3 dJ13_stringSize_95d88_35 (pc' := 36) rfl rfl rfl ?_
              refine yy_iadd C (v := (nI 2)) dJ13_stringSize_95d88_36 (pc' := 37) rfl (by decide) ?_
              subst hQ
              exact ye_i C hr (vp_nar_int _) () dJ13_stringSize_95d88_37 rfl (by decide) (by decide) (by rw [tJ_nn (by omega)]; exact congrArg nI (by show _ = sb_dg k; unfold sb_dg; (repeat' split) <;> omega))
        · skip
          have hz10 : k < 10 := Nat.not_le.mp (fun z => c_30 ((lg_cmp_le _ _).mpr ((nl_le (a := k) (b := 10) (by omega) (by decide)).mpr z)))
          refine yy_iload C 0 dJ13_stringSize_95d88_33 (pc' := 35) rfl rfl ?_
          refine yy_iload_n C 3 dJ13_stringSize_95d88_35 (pc' := 36) rfl rfl rfl ?_
          refine yy_iadd C (v := (nI 1)) dJ13_stringSize_95d88_36 (pc' := 37) rfl (by decide) ?_
          subst hQ
          exact ye_i C hr (vp_nar_int _) () dJ13_stringSize_95d88_37 rfl (by decide) (by decide) (by rw [tJ_nn (by omega)]; exact congrArg nI (by show _ = sb_dg k; unfold sb_dg; (repeat' split) <;> omega))

abbrev rJ13_getChars_11360 : Room := { frames := 0, cells := 0, slots := 0, locals := 0 }
set_option maxHeartbeats 4000000 in
set_option maxRecDepth 100000 in
theorem mJ13_getChars_11360 (l : Launch) (G : gG) (B0 : Nat) (bv m_ n_ : Nat) (a : Nat → Int32) (F : va_W) (v : Int64) (hv : smJ v) (hm : m_ ≤ 1000) (hpm : n_ + (tJ v).2 ≤ m_) (hf : sb_Fit a) : Met l yJ13_getChars_11360 (Cond.code yJ13_getChars_11360 cJ13_getChars_11360 11 (some .int) :: WG) rJ13_getChars_11360 (va_Pc [.long v, .int (nI (n_ + (tJ v).2)), .ref (bv)] (PR G B0 (((bv, .inl (G.2.2.2.1, m_, .inl a)) :: F)))) (va_Qi (fun (r : Int32) (u : Nat → Int32) => r = nI n_ ∧ (∀ j, j < n_ → u j = a j) ∧ (∀ i, i < (tJ v).2 → (tJ v).1 i < 256 ∧ u (n_ + i) = sb_b ((tJ v).1 i)) ∧ sb_Fit u) (fun (u : Nat → Int32) (t_ : State) => va_P G.1 vwCl (((bv, .inl (G.2.2.2.1, m_, .inl u)) :: F)) t_.heap ∧ va_D (fun q => B0 ≤ q) (((bv, .inl (G.2.2.2.1, m_, .inl u)) :: F))) (fun q => B0 ≤ q)) rJ13_getChars_11360.cells rJ13_getChars_11360.slots (fun q => B0 ≤ q) := by
  refine met_of RJ13 [(0, .long v), (2, .int (nI (n_ + (tJ v).2))), (3, .ref (bv))] rfl (by decide) (Nat.le_of_ble_eq_true rfl) rfl ?_
  intro p e s m args below meth c C hr hnm
  refine yq ?_
  intro QQ hQ
  obtain ⟨k, hk, rfl⟩ := hv
  · skip
    have hpm2 : n_ + sb_dg k ≤ m_ := by
      rw [tJ_nn (by omega)] at hpm; exact hpm
    rw [tJ_nn (by omega)]
    refine yy_iload_n C 1 dJ13_getChars_11360_0 (pc' := 1) rfl rfl rfl ?_
    refine yy_istore C (L' := [(7, .int (nI (n_ + sb_dg k))), (0, .long (lN k)), (2, .int (nI (n_ + sb_dg k))), (3, .ref (bv))]) dJ13_getChars_11360_1 (pc' := 3) rfl (by decide) rfl ?_
    refine yy_lload_n C 1 dJ13_getChars_11360_3 (pc' := 4) rfl rfl rfl ?_
    refine yy_lconst C (v := 0) dJ13_getChars_11360_4 (pc' := 5) rfl (by decide) ?_
    refine yy_lcmp C dJ13_getChars_11360_5 (pc' := 6) rfl ?_
    refine yy_if_ge C dJ13_getChars_11360_6 (pc' := 9) rfl (tgt := 13) (by decide) (fun c_6 => ?_) (fun c_6 => ?_)
    · skip
      refine yy_iconst C (v := (nI 0)) dJ13_getChars_11360_13 (pc' := 14) rfl (by decide) ?_
      refine yy_istore C (L' := [(8, .int (nI 0)), (7, .int (nI (n_ + sb_dg k))), (0, .long (lN k)), (2, .int (nI (n_ + sb_dg k))), (3, .ref (bv))]) dJ13_getChars_11360_14 (pc' := 16) rfl (by decide) rfl ?_
      refine yy_iload C 0 dJ13_getChars_11360_16 (pc' := 18) rfl rfl ?_
      refine yy_if_ne C dJ13_getChars_11360_18 (pc' := 21) rfl (tgt := 24) (by decide) (fun c_18 => ?_) (fun c_18 => ?_)
      · skip
        exact absurd c_18 (by decide)
      · skip
        refine yy_lload_n C 2 dJ13_getChars_11360_21 (pc' := 22) rfl rfl rfl ?_
        refine yy_lneg C (v := (-(lN k))) dJ13_getChars_11360_22 (pc' := 23) rfl rfl ?_
        refine yy_lstore_n C (L' := [(0, .long (-(lN k))), (8, .int (nI 0)), (7, .int (nI (n_ + sb_dg k))), (2, .int (nI (n_ + sb_dg k))), (3, .ref (bv))]) dJ13_getChars_11360_23 (pc' := 24) rfl rfl (by decide) rfl ?_
        refine yy_lload_n C 0 dJ13_getChars_11360_24 (pc' := 25) rfl rfl rfl ?_
        refine yy_ldc2 C dJ13_getChars_11360_25 (pc' := 28) rfl lg_J13_129 ?_
        refine yy_lcmp C dJ13_getChars_11360_28 (pc' := 29) rfl ?_
        refine yy_if_gt C dJ13_getChars_11360_29 (pc' := 32) rfl (tgt := 82) (by decide) (fun c_29 => ?_) (fun c_29 => ?_)
        · skip
          refine yy_lload_n C 0 dJ13_getChars_11360_82 (pc' := 83) rfl rfl rfl ?_
          refine yy_l2i C (v := (-nI k)) dJ13_getChars_11360_83 (pc' := 84) rfl (nl_i (by omega)) ?_
          refine yy_istore C (L' := [(10, .int (-nI k)), (0, .long (-(lN k))), (8, .int (nI 0)), (7, .int (nI (n_ + sb_dg k))), (2, .int (nI (n_ + sb_dg k))), (3, .ref (bv))]) dJ13_getChars_11360_84 (pc' := 86) rfl (by decide) rfl ?_
          have lp_86 : ∀ (f_ : Nat) (kk : Nat) (e_ : Nat) (p_ : Nat) (a1 : Nat → Int32), (hkk : kk = k / 10 ^ e_) → (hkl : kk < 100000) → (hed : e_ + sb_dg kk = sb_dg k) → (hp_ : p_ = n_ + sb_dg k - e_) → (hlo : ∀ j, j < n_ → a1 j = a j) → (hW : WR k (n_ + sb_dg k) e_ a1) → (hf1 : sb_Fit a1) → kk < f_ → YY p l e rJ13_getChars_11360 s m args below meth c G B0 11 QQ 86 [(7, .int (nI p_)), (10, .int (-nI kk)), (3, .ref (bv)), (8, .int (nI 0))] [] (((bv, .inl (G.2.2.2.1, m_, .inl a1)) :: F)) 0 0 := by
            intro f_
            induction f_ with
            | zero => intro kk e_ p_ a1 hkk hkl hed hp_ hlo hW hf1 hf_; exact absurd hf_ (Nat.not_lt_zero _)
            | succ f_ ih =>
              intro kk e_ p_ a1 hkk hkl hed hp_ hlo hW hf1 hf_
              refine yy_iload C 1 dJ13_getChars_11360_86 (pc' := 88) rfl rfl ?_
              refine yy_bipush C (v := (-100)) dJ13_getChars_11360_88 (pc' := 90) rfl (by decide) ?_
              refine yy_icmp_gt C dJ13_getChars_11360_90 (pc' := 93) rfl (tgt := 143) (by decide) (fun c_90 => ?_) (fun c_90 => ?_)
              · skip
                have hk100 : kk < 100 := (nl_100 (by omega)).mp c_90
                have hdg0 := dg_ge (k := kk)
                refine yy_aload_n C 2 dJ13_getChars_11360_143 (pc' := 144) rfl rfl rfl ?_
                refine yy_iinc C (v := (nI (p_ - 1))) (L' := [(7, .int (nI (p_ - 1))), (10, .int (-nI kk)), (3, .ref (bv)), (8, .int (nI 0))]) 0 dJ13_getChars_11360_144 (pc' := 147) rfl rfl (m1i (by omega)) (by decide) rfl ?_
                refine yy_iload C 0 dJ13_getChars_11360_147 (pc' := 149) rfl rfl ?_
                obtain ⟨tt1, hZtt1, hTtt1⟩ := (cSV C).2.1
                refine yy_gets C (v := .ref tt1) hZtt1 sk_J13_133 rfl dJ13_getChars_11360_149 (pc' := 152) rfl ?_
                refine yy_iload C 1 dJ13_getChars_11360_152 (pc' := 154) rfl rfl ?_
                refine yy_ineg C (v := (nI kk)) dJ13_getChars_11360_154 (pc' := 155) rfl Int32.neg_neg ?_
                refine yy_tb C hTtt1 dJ13_getChars_11360_155 (pc' := 156) rfl (by omega) (by decide) ?_
                refine yy_eqi (tbO_b kk (by omega)).2.2 ?_
                refine yy_bast C (w' := ((bv, .inl (G.2.2.2.1, m_, .inl (upd a1 (p_ - 1) (sb_b (48 + kk % 10))))) :: F)) 0 dJ13_getChars_11360_156 (pc' := 157) rfl rfl (by omega) (by omega) (pk_vb _) rfl ?_
                refine yy_iload C 1 dJ13_getChars_11360_157 (pc' := 159) rfl rfl ?_
                refine yy_bipush C (v := (-9)) dJ13_getChars_11360_159 (pc' := 161) rfl (by decide) ?_
                refine yy_icmp_ge C dJ13_getChars_11360_161 (pc' := 164) rfl (tgt := 178) (by decide) (fun c_161 => ?_) (fun c_161 => ?_)
                · skip
                  have hk9 : kk ≤ 9 := (nl_9 (by omega)).mp c_161
                  refine yy_iload C 3 dJ13_getChars_11360_178 (pc' := 180) rfl rfl ?_
                  refine yy_if_eq C dJ13_getChars_11360_180 (pc' := 183) rfl (tgt := 192) (by decide) (fun c_180 => ?_) (fun c_180 => ?_)
                  · skip
                    refine yy_iload C 0 dJ13_getChars_11360_192 (pc' := 194) rfl rfl ?_
                    subst hQ
                    exact ye_i C hr (vp_nar_int _) (upd a1 (p_ - 1) (sb_b (48 + kk % 10))) dJ13_getChars_11360_194 rfl (by decide) (by decide) (by rw [tJ_nn (by omega)]; exact ⟨congrArg nI (by have := dg_1 (k := kk) (by omega); omega), fun j hj => by rw [pk_un (by have := dg_1 (k := kk) (by omega); omega)]; exact hlo j hj, WR.dec (show e_ + 1 = sb_dg k by have := dg_1 (k := kk) (by omega); omega) (hW.one (by have := dg_1 (k := kk) (by omega); omega) hp_ (by rw [← hkk])), sb_fitU hf1 (sb_fitB _)⟩)
                  · skip
                    exact absurd c_180 (by decide)
                · skip
                  have hk9 : ¬ kk < 10 := fun z => c_161 ((nl_9 (by omega)).mpr (by omega))
                  have hdg3 := dg_2 hk9 hk100
                  refine yy_aload_n C 2 dJ13_getChars_11360_164 (pc' := 165) rfl rfl rfl ?_
                  refine yy_iinc C (v := (nI ((p_ - 1) - 1))) (L' := [(7, .int (nI ((p_ - 1) - 1))), (10, .int (-nI kk)), (3, .ref (bv)), (8, .int (nI 0))]) 0 dJ13_getChars_11360_165 (pc' := 168) rfl rfl (m1i (by omega)) (by decide) rfl ?_
                  refine yy_iload C 0 dJ13_getChars_11360_168 (pc' := 170) rfl rfl ?_
                  obtain ⟨tt2, hZtt2, hTtt2⟩ := (cSV C).2.2.1
                  refine yy_gets C (v := .ref tt2) hZtt2 sk_J13_137 rfl dJ13_getChars_11360_170 (pc' := 173) rfl ?_
                  refine yy_iload C 1 dJ13_getChars_11360_173 (pc' := 175) rfl rfl ?_
                  refine yy_ineg C (v := (nI kk)) dJ13_getChars_11360_175 (pc' := 176) rfl Int32.neg_neg ?_
                  refine yy_tb C hTtt2 dJ13_getChars_11360_176 (pc' := 177) rfl (by omega) (by decide) ?_
                  refine yy_eqi (tbT_b kk (by omega)).2 ?_
                  refine yy_bast C (w' := ((bv, .inl (G.2.2.2.1, m_, .inl (upd (upd a1 (p_ - 1) (sb_b (48 + kk % 10))) ((p_ - 1) - 1) (sb_b (48 + kk / 10))))) :: F)) 0 dJ13_getChars_11360_177 (pc' := 178) rfl rfl (by omega) (by omega) (pk_vb _) rfl ?_
                  refine yy_iload C 3 dJ13_getChars_11360_178 (pc' := 180) rfl rfl ?_
                  refine yy_if_eq C dJ13_getChars_11360_180 (pc' := 183) rfl (tgt := 192) (by decide) (fun c_180 => ?_) (fun c_180 => ?_)
                  · skip
                    refine yy_iload C 0 dJ13_getChars_11360_192 (pc' := 194) rfl rfl ?_
                    subst hQ
                    exact ye_i C hr (vp_nar_int _) (upd (upd a1 (p_ - 1) (sb_b (48 + kk % 10))) ((p_ - 1) - 1) (sb_b (48 + kk / 10))) dJ13_getChars_11360_194 rfl (by decide) (by decide) (by rw [tJ_nn (by omega)]; exact ⟨congrArg nI (by omega), fun j hj => by rw [pk_un (by omega), pk_un (by omega)]; exact hlo j hj, WR.dec (show e_ + 2 = sb_dg k by omega) (hW.two (by omega) hp_ (by rw [← hkk]) (by rw [Nat.pow_succ, ← Nat.div_div_eq_div_mul, ← hkk]; omega)), sb_fitU (sb_fitU hf1 (sb_fitB _)) (sb_fitB _)⟩)
                  · skip
                    exact absurd c_180 (by decide)
              · skip
                have hk100 : 100 ≤ kk := Nat.not_lt.mp (fun z => c_90 ((nl_100 (by omega)).mpr z))
                have hdg2 := sb_dg100 (w := kk) hk100 (by omega)
                have hdg1 := dg_ge (k := kk / 100)
                refine yy_iload C 1 dJ13_getChars_11360_93 (pc' := 95) rfl rfl ?_
                refine yy_bipush C (v := (nI 100)) dJ13_getChars_11360_95 (pc' := 97) rfl (by decide) ?_
                refine yy_idiv C (v := (-nI (kk / 100))) dJ13_getChars_11360_97 (pc' := 98) rfl (by decide) (sb_ndiv (by omega)) ?_
                refine yy_istore C (L' := [(9, .int (-nI (kk / 100))), (7, .int (nI p_)), (10, .int (-nI kk)), (3, .ref (bv)), (8, .int (nI 0))]) dJ13_getChars_11360_98 (pc' := 100) rfl (by decide) rfl ?_
                refine yy_iload C 0 dJ13_getChars_11360_100 (pc' := 102) rfl rfl ?_
                refine yy_bipush C (v := (nI 100)) dJ13_getChars_11360_102 (pc' := 104) rfl (by decide) ?_
                refine yy_imul C (v := ((-nI (kk / 100)) * (nI 100))) dJ13_getChars_11360_104 (pc' := 105) rfl rfl ?_
                refine yy_iload C 2 dJ13_getChars_11360_105 (pc' := 107) rfl rfl ?_
                refine yy_isub C (v := (nI (kk % 100))) dJ13_getChars_11360_107 (pc' := 108) rfl (sb_nrem (by omega)) ?_
                refine yy_istore C (L' := [(6, .int (nI (kk % 100))), (9, .int (-nI (kk / 100))), (7, .int (nI p_)), (10, .int (-nI kk)), (3, .ref (bv)), (8, .int (nI 0))]) dJ13_getChars_11360_108 (pc' := 110) rfl (by decide) rfl ?_
                refine yy_iload C 1 dJ13_getChars_11360_110 (pc' := 112) rfl rfl ?_
                refine yy_istore C (L' := [(10, .int (-nI (kk / 100))), (6, .int (nI (kk % 100))), (9, .int (-nI (kk / 100))), (7, .int (nI p_)), (3, .ref (bv)), (8, .int (nI 0))]) dJ13_getChars_11360_112 (pc' := 114) rfl (by decide) rfl ?_
                refine yy_aload_n C 4 dJ13_getChars_11360_114 (pc' := 115) rfl rfl rfl ?_
                refine yy_iinc C (v := (nI (p_ - 1))) (L' := [(7, .int (nI (p_ - 1))), (10, .int (-nI (kk / 100))), (6, .int (nI (kk % 100))), (9, .int (-nI (kk / 100))), (3, .ref (bv)), (8, .int (nI 0))]) 3 dJ13_getChars_11360_115 (pc' := 118) rfl rfl (m1i (by omega)) (by decide) rfl ?_
                refine yy_iload C 0 dJ13_getChars_11360_118 (pc' := 120) rfl rfl ?_
                obtain ⟨tt1, hZtt1, hTtt1⟩ := (cSV C).2.1
                refine yy_gets C (v := .ref tt1) hZtt1 sk_J13_133 rfl dJ13_getChars_11360_120 (pc' := 123) rfl ?_
                refine yy_iload C 2 dJ13_getChars_11360_123 (pc' := 125) rfl rfl ?_
                refine yy_tb C hTtt1 dJ13_getChars_11360_125 (pc' := 126) rfl (by omega) (by decide) ?_
                refine yy_eqi (tbO_b (kk % 100) (by omega)).2.2 ?_
                refine yy_bast C (w' := ((bv, .inl (G.2.2.2.1, m_, .inl (upd a1 (p_ - 1) (sb_b (48 + (kk % 100) % 10))))) :: F)) 0 dJ13_getChars_11360_126 (pc' := 127) rfl rfl (by omega) (by omega) (pk_vb _) rfl ?_
                refine yy_aload_n C 4 dJ13_getChars_11360_127 (pc' := 128) rfl rfl rfl ?_
                refine yy_iinc C (v := (nI ((p_ - 1) - 1))) (L' := [(7, .int (nI ((p_ - 1) - 1))), (10, .int (-nI (kk / 100))), (6, .int (nI (kk % 100))), (9, .int (-nI (kk / 100))), (3, .ref (bv)), (8, .int (nI 0))]) 0 dJ13_getChars_11360_128 (pc' := 131) rfl rfl (m1i (by omega)) (by decide) rfl ?_
                refine yy_iload C 0 dJ13_getChars_11360_131 (pc' := 133) rfl rfl ?_
                obtain ⟨tt2, hZtt2, hTtt2⟩ := (cSV C).2.2.1
                refine yy_gets C (v := .ref tt2) hZtt2 sk_J13_137 rfl dJ13_getChars_11360_133 (pc' := 136) rfl ?_
                refine yy_iload C 2 dJ13_getChars_11360_136 (pc' := 138) rfl rfl ?_
                refine yy_tb C hTtt2 dJ13_getChars_11360_138 (pc' := 139) rfl (by omega) (by decide) ?_
                refine yy_eqi (tbT_b (kk % 100) (by omega)).2 ?_
                refine yy_bast C (w' := ((bv, .inl (G.2.2.2.1, m_, .inl (upd (upd a1 (p_ - 1) (sb_b (48 + (kk % 100) % 10))) ((p_ - 1) - 1) (sb_b (48 + (kk % 100) / 10))))) :: F)) 0 dJ13_getChars_11360_139 (pc' := 140) rfl rfl (by omega) (by omega) (pk_vb _) rfl ?_
                refine yy_goto C (tgt := 86) dJ13_getChars_11360_140 (by decide) ?_
                refine yy_loc [0, 1, 4, 5] rfl ?_
                exact ih (kk / 100) (e_ + 2) (p_ - 1 - 1) _ (by rw [hkk, Nat.div_div_eq_div_mul, Nat.pow_add]) (by omega) (by omega) (by omega) (fun j hj => by rw [pk_un (by omega), pk_un (by omega)]; exact hlo j hj) (hW.two (by omega) hp_ (by rw [← hkk]; omega) (by rw [Nat.pow_succ, ← Nat.div_div_eq_div_mul, ← hkk]; omega)) (sb_fitU (sb_fitU hf1 (sb_fitB _)) (sb_fitB _)) (by omega)
          refine yy_loc (L' := [(7, .int (nI (n_ + sb_dg k))), (10, .int (-nI k)), (3, .ref (bv)), (8, .int (nI 0))]) [3, 0, 5, 2] rfl ?_
          exact lp_86 (k + 1) k 0 (n_ + sb_dg k) a (by rw [Nat.pow_zero, Nat.div_one]) (by omega) (by omega) (by omega) (fun _ _ => rfl) (fun i hi => absurd hi (Nat.not_lt_zero i)) hf (Nat.lt_succ_self _)
        · skip
          exact absurd (nl_min hk) c_29
    · skip
      exact absurd (nl_pos hk) c_6

abbrev rJ5_append_66267 : Room := { frames := 4, cells := 1, slots := 1000, locals := 91 }
set_option maxHeartbeats 4000000 in
set_option maxRecDepth 100000 in
theorem mJ5_append_66267 (l : Launch) (G : gG) (B0 : Nat) (sb : Nat) (x : TT) (b : BU) (F : va_W) (v : Int64) (hv : smJ v) (h : BO x b) (hq : x.2 + (tJ v).2 < 500) : Met l yJ5_append_66267 (Cond.code yJ5_append_66267 cJ5_append_66267 5 (some (.object "java/lang/AbstractStringBuilder")) :: WG) rJ5_append_66267 (va_Pc [.ref (sb), .long v] (PR G B0 (((sb, .inr (1, [.ref (b.1), .int (nI 0), .int (nI 0), .int (nI x.2)])) :: (b.1, .inl (G.2.2.2.1, b.2.1, .inl b.2.2)) :: F)))) (va_Qr (fun (u : BU) => BO (tcat x (tJ v)) u) (fun (u : BU) (a_ : Nat) (t_ : State) => a_ = sb ∧ va_P G.1 vwCl (((sb, .inr (1, [.ref (u.1), .int (nI 0), .int (nI 0), .int (nI ((tcat x (tJ v)).2))])) :: (u.1, .inl (G.2.2.2.1, u.2.1, .inl u.2.2)) :: F)) t_.heap ∧ va_D (fun q => B0 ≤ q) (((sb, .inr (1, [.ref (u.1), .int (nI 0), .int (nI 0), .int (nI ((tcat x (tJ v)).2))])) :: (u.1, .inl (G.2.2.2.1, u.2.1, .inl u.2.2)) :: F))) (fun q => B0 ≤ q)) rJ5_append_66267.cells rJ5_append_66267.slots (fun q => B0 ≤ q) := by
  refine met_of RJ5 [(0, .ref (sb)), (1, .long v)] rfl (by decide) (Nat.le_of_ble_eq_true rfl) rfl ?_
  intro p e s m args below meth c C hr hnm
  refine yq ?_
  intro QQ hQ
  refine yy_aload_n C 0 dJ5_append_66267_0 (pc' := 1) rfl rfl rfl ?_
  refine yy_get C (v := .int (nI x.2)) fk_J5_79 0 dJ5_append_66267_1 (pc' := 4) rfl rfl rfl ?_
  refine yy_istore_n C (L' := [(3, .int (nI x.2)), (0, .ref (sb)), (1, .long v)]) dJ5_append_66267_4 (pc' := 5) rfl rfl (by decide) rfl ?_
  refine yy_iload_n C 0 dJ5_append_66267_5 (pc' := 6) rfl rfl rfl ?_
  refine yy_lload_n C 2 dJ5_append_66267_6 (pc' := 7) rfl rfl rfl ?_
  refine yc_i (yr_S C (n := 1) (As := [.long v]) (rest := [.int (nI x.2)]) lk_J5_254 cd_J13_stringSize_95d88 st_J13_stringSize_95d88 (mJ13_stringSize_95d88 l G B0 ((sb, .inr (1, [.ref (b.1), .int (nI 0), .int (nI 0), .int (nI x.2)])) :: (b.1, .inl (G.2.2.2.1, b.2.1, .inl b.2.2)) :: F) v hv) ⟨by decide, by decide⟩ ⟨by decide, by decide⟩ rfl rfl (Nat.le_of_ble_eq_true rfl) dJ5_append_66267_7) (pc' := 10) rfl (fun r1 _ hw1 => ?_)
  subst hw1
  refine yy_iadd C (v := (nI (x.2 + ((tJ v).2)))) dJ5_append_66267_10 (pc' := 11) rfl (nI_add x.2 ((tJ v).2)) ?_
  refine yy_istore C (L' := [(4, .int (nI (x.2 + ((tJ v).2)))), (3, .int (nI x.2)), (0, .ref (sb)), (1, .long v)]) dJ5_append_66267_11 (pc' := 13) rfl (by decide) rfl ?_
  refine yy_aload_n C 2 dJ5_append_66267_13 (pc' := 14) rfl rfl rfl ?_
  refine yy_iload C 0 dJ5_append_66267_14 (pc' := 16) rfl rfl ?_
  refine yc_v (yr_U C (n := 1) (As := [.int (nI (x.2 + ((tJ v).2)))]) (rest := []) (x := yJ5_ensureCapacityInternal_d00df) (owner := yJ5_ensureCapacityInternal_d00df.cls) (Cn := RJ4) ly_J5_100 ii_J5 ⟨by decide, by decide, by decide +kernel⟩ sm_J5_ensureCapacityInternal_d00df im_J5_ensureCapacityInternal_d00df cd_J5_ensureCapacityInternal_d00df cd_J5_ensureCapacityInternal_d00df im_J5_ensureCapacityInternal_d00df (C.2.2.2.2.1 _ sx_J5_ensureCapacityInternal_d00df) (mJ5_ensureCapacityInternal_d00df l G B0 sb x b F (x.2 + ((tJ v).2)) h (by omega)) ⟨by decide, by decide⟩ ⟨by decide, by decide⟩ 0 rfl rfl rfl rfl (Nat.le_of_ble_eq_true rfl) dJ5_append_66267_16) (pc' := 19) rfl (fun u1 hw2 => ?_)
  obtain ⟨hB1, hB2⟩ := hw2
  refine yy_aload_n C 2 dJ5_append_66267_19 (pc' := 20) rfl rfl rfl ?_
  refine yc_i (yr_U C (n := 0) (As := []) (rest := []) (x := yJ5_isLatin1_aae02) (owner := yJ5_isLatin1_aae02.cls) (Cn := RJ4) ly_J5_83 ii_J5 ⟨by decide, by decide, by decide +kernel⟩ sm_J5_isLatin1_aae02 im_J5_isLatin1_aae02 cd_J5_isLatin1_aae02 cd_J5_isLatin1_aae02 im_J5_isLatin1_aae02 (C.2.2.2.2.1 _ sx_J5_isLatin1_aae02) (mJ5_isLatin1_aae02 l G B0 sb x.2 u1 F) ⟨by decide, by decide⟩ ⟨by decide, by decide⟩ 0 rfl rfl rfl rfl (Nat.le_of_ble_eq_true rfl) dJ5_append_66267_20) (pc' := 23) rfl (fun r3 _ hw3 => ?_)
  subst hw3
  refine yy_if_eq C dJ5_append_66267_23 (pc' := 26) rfl (tgt := 40) (by decide) (fun c_23 => ?_) (fun c_23 => ?_)
  · skip
    exact absurd c_23 (by decide)
  · skip
    refine yy_lload_n C 3 dJ5_append_66267_26 (pc' := 27) rfl rfl rfl ?_
    refine yy_iload C 0 dJ5_append_66267_27 (pc' := 29) rfl rfl ?_
    refine yy_aload_n C 2 dJ5_append_66267_29 (pc' := 30) rfl rfl rfl ?_
    refine yy_get C (v := .ref (u1.1)) fk_J5_15 0 dJ5_append_66267_30 (pc' := 33) rfl rfl rfl ?_
    refine yy_perm (w' := ((u1.1, .inl (G.2.2.2.1, u1.2.1, .inl u1.2.2)) :: (sb, .inr (1, [.ref (u1.1), .int (nI 0), .int (nI 0), .int (nI x.2)])) :: F)) (pm_1_0 _ _ _) ?_
    refine yc_i (yr_S C (n := 3) (As := [.long v, .int (nI (x.2 + ((tJ v).2))), .ref (u1.1)]) (rest := []) lk_J5_259 cd_J13_getChars_11360 st_J13_getChars_11360 (mJ13_getChars_11360 l G B0 (u1.1) u1.2.1 x.2 u1.2.2 ((sb, .inr (1, [.ref (u1.1), .int (nI 0), .int (nI 0), .int (nI x.2)])) :: F) v hv hB1.2.1 (by omega) hB1.2.2.2) ⟨by decide, by decide⟩ ⟨by decide, by decide⟩ rfl rfl (Nat.le_of_ble_eq_true rfl) dJ5_append_66267_33) (pc' := 36) rfl (fun r4 u2 hw4 => ?_)
    obtain ⟨hr3, hg1, hg2, hg3⟩ := hw4
    refine yy_pop C dJ5_append_66267_36 (pc' := 37) rfl rfl ?_
    refine yy_goto C (tgt := 52) dJ5_append_66267_37 (by decide) ?_
    refine yy_aload_n C 2 dJ5_append_66267_52 (pc' := 53) rfl rfl rfl ?_
    refine yy_iload C 0 dJ5_append_66267_53 (pc' := 55) rfl rfl ?_
    refine yy_put C (w' := ((u1.1, .inl (G.2.2.2.1, u1.2.1, .inl u2)) :: (sb, .inr (1, [.ref (u1.1), .int (nI 0), .int (nI 0), .int (nI (x.2 + ((tJ v).2)))])) :: F)) fk_J5_79 fpJ4 rfl 1 dJ5_append_66267_55 (pc' := 58) rfl rfl rfl rfl (Nat.le_of_ble_eq_true rfl) rfl ?_
    refine yy_aload_n C 2 dJ5_append_66267_58 (pc' := 59) rfl rfl rfl ?_
    refine yy_perm (w' := ((sb, .inr (1, [.ref (u1.1), .int (nI 0), .int (nI 0), .int (nI (x.2 + ((tJ v).2)))])) :: (u1.1, .inl (G.2.2.2.1, u1.2.1, .inl u2)) :: F)) (pm_1_0 _ _ _) ?_
    subst hQ
    exact ye_r C hr (Or.inl ⟨_, rfl⟩) (u1.1, u1.2.1, u2) dJ5_append_66267_59 rfl (by decide) (by decide) (hB1.put (y := tJ v) hB2 hB1.2.1 hg1 hg2 hg3)

abbrev rJ4_append_f7089 : Room := { frames := 5, cells := 1, slots := 1000, locals := 115 }
set_option maxHeartbeats 4000000 in
set_option maxRecDepth 100000 in
theorem mJ4_append_f7089 (l : Launch) (G : gG) (B0 : Nat) (sb : Nat) (x : TT) (b : BU) (F : va_W) (v : Int64) (hv : smJ v) (h : BO x b) (hq : x.2 + (tJ v).2 < 500) : Met l yJ4_append_f7089 (Cond.code yJ4_append_f7089 cJ4_append_f7089 3 (some (.object "java/lang/StringBuilder")) :: WG) rJ4_append_f7089 (va_Pc [.ref (sb), .long v] (PR G B0 (((sb, .inr (1, [.ref (b.1), .int (nI 0), .int (nI 0), .int (nI x.2)])) :: (b.1, .inl (G.2.2.2.1, b.2.1, .inl b.2.2)) :: F)))) (va_Qr (fun (u : BU) => BO (tcat x (tJ v)) u) (fun (u : BU) (a_ : Nat) (t_ : State) => a_ = sb ∧ va_P G.1 vwCl (((sb, .inr (1, [.ref (u.1), .int (nI 0), .int (nI 0), .int (nI ((tcat x (tJ v)).2))])) :: (u.1, .inl (G.2.2.2.1, u.2.1, .inl u.2.2)) :: F)) t_.heap ∧ va_D (fun q => B0 ≤ q) (((sb, .inr (1, [.ref (u.1), .int (nI 0), .int (nI 0), .int (nI ((tcat x (tJ v)).2))])) :: (u.1, .inl (G.2.2.2.1, u.2.1, .inl u.2.2)) :: F))) (fun q => B0 ≤ q)) rJ4_append_f7089.cells rJ4_append_f7089.slots (fun q => B0 ≤ q) := by
  refine met_of RJ4 [(0, .ref (sb)), (1, .long v)] rfl (by decide) (Nat.le_of_ble_eq_true rfl) rfl ?_
  intro p e s m args below meth c C hr hnm
  refine yq ?_
  intro QQ hQ
  refine yy_aload_n C 0 dJ4_append_f7089_0 (pc' := 1) rfl rfl rfl ?_
  refine yy_lload_n C 1 dJ4_append_f7089_1 (pc' := 2) rfl rfl rfl ?_
  refine yc_r (yr_SU C (n := 1) (As := [.long v]) (rest := []) ly_J4_56 ii_J5 ⟨by decide, by decide +kernel⟩ sm_J5_append_66267 su_J4 cd_J5_append_66267 im_J5_append_66267 (mJ5_append_66267 l G B0 sb x b F v hv h hq) ⟨by decide, by decide⟩ ⟨by decide, by decide⟩ 0 rfl rfl rfl rfl (Nat.le_of_ble_eq_true rfl) dJ4_append_f7089_2) (pc' := 5) rfl (fun u1 hw1 => ?_)
  refine yy_pop C dJ4_append_f7089_5 (pc' := 6) rfl rfl ?_
  refine yy_aload_n C 0 dJ4_append_f7089_6 (pc' := 7) rfl rfl rfl ?_
  subst hQ
  exact ye_r C hr (Or.inl ⟨_, rfl⟩) u1 dJ4_append_f7089_7 rfl (by decide) (by decide) hw1
