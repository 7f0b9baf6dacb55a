abbrev rJ6_stringSize_0f7a4 : Room := { frames := 0, cells := 0, slots := 0, locals := 0 }
set_option maxHeartbeats 4000000 in
set_option maxRecDepth 100000 in
theorem mJ6_stringSize_0f7a4 (l : Launch) (G : gG) (B0 : Nat) (w : va_W) (v : Int32) (hv : smI v) : Met l yJ6_stringSize_0f7a4 (Cond.code yJ6_stringSize_0f7a4 cJ6_stringSize_0f7a4 4 (some .int) :: WG) rJ6_stringSize_0f7a4 (va_Pc [.int v] (PR G B0 (w))) (va_Qi (fun (r : Int32) (_ : Unit) => r = nI (tI v).2) (fun (_ : Unit) (t_ : State) => va_P G.1 vwCl (w) t_.heap ∧ va_D (fun q => B0 ≤ q) (w)) (fun q => B0 ≤ q)) rJ6_stringSize_0f7a4.cells rJ6_stringSize_0f7a4.slots (fun q => B0 ≤ q) := by
  refine met_of RJ6 [(0, .int v)] rfl (by decide) (Nat.le_of_ble_eq_true rfl) rfl ?_
  intro p e s m args below meth c C hr hnm
  refine yq ?_
  intro QQ hQ
  rcases hv with ⟨k, hk, rfl⟩ | ⟨k, hk1, hk2, rfl⟩
  · skip
    refine yy_iconst C (v := (nI 1)) dJ6_stringSize_0f7a4_0 (pc' := 1) rfl (by decide) ?_
    refine yy_istore_n C (L' := [(1, .int (nI 1)), (0, .int (nI k))]) dJ6_stringSize_0f7a4_1 (pc' := 2) rfl rfl (by decide) rfl ?_
    refine yy_iload_n C 1 dJ6_stringSize_0f7a4_2 (pc' := 3) rfl rfl rfl ?_
    refine yy_if_lt C dJ6_stringSize_0f7a4_3 (pc' := 6) rfl (tgt := 11) (by decide) (fun c_3 => ?_) (fun c_3 => ?_)
    · skip
      exact absurd c_3 (nI_pos (by omega))
    · skip
      refine yy_iconst C (v := (nI 0)) dJ6_stringSize_0f7a4_6 (pc' := 7) rfl (by decide) ?_
      refine yy_istore_n C (L' := [(1, .int (nI 0)), (0, .int (nI k))]) dJ6_stringSize_0f7a4_7 (pc' := 8) rfl rfl (by decide) rfl ?_
      refine yy_iload_n C 1 dJ6_stringSize_0f7a4_8 (pc' := 9) rfl rfl rfl ?_
      refine yy_ineg C (v := (-(nI k))) dJ6_stringSize_0f7a4_9 (pc' := 10) rfl rfl ?_
      refine yy_istore_n C (L' := [(0, .int (-(nI k))), (1, .int (nI 0))]) dJ6_stringSize_0f7a4_10 (pc' := 11) rfl rfl (by decide) rfl ?_
      refine yy_bipush C (v := (-10)) dJ6_stringSize_0f7a4_11 (pc' := 13) rfl (by decide) ?_
      refine yy_istore_n C (L' := [(2, .int (-10)), (0, .int (-(nI k))), (1, .int (nI 0))]) dJ6_stringSize_0f7a4_13 (pc' := 14) rfl rfl (by decide) rfl ?_
      refine yy_iconst C (v := (nI 1)) dJ6_stringSize_0f7a4_14 (pc' := 15) rfl (by decide) ?_
      refine yy_istore_n C (L' := [(3, .int (nI 1)), (2, .int (-10)), (0, .int (-(nI k))), (1, .int (nI 0))]) dJ6_stringSize_0f7a4_15 (pc' := 16) rfl rfl (by decide) rfl ?_
      refine yy_iload_n C 0 dJ6_stringSize_0f7a4_16 (pc' := 17) rfl rfl rfl ?_
      refine yy_bipush C (v := (nI 10)) dJ6_stringSize_0f7a4_17 (pc' := 19) rfl (by decide) ?_
      refine yn_icmp_ge C (by decide) (by decide) dJ6_stringSize_0f7a4_19 (pc' := 22) rfl (tgt := 42) (by decide) (fun c_19 => ?_) (fun c_19 => ?_)
      · skip
        exact absurd c_19 (by decide)
      · skip
        refine yy_iload_n C 2 dJ6_stringSize_0f7a4_22 (pc' := 23) rfl rfl rfl ?_
        refine yy_iload_n C 1 dJ6_stringSize_0f7a4_23 (pc' := 24) rfl rfl rfl ?_
        refine yy_icmp_le C dJ6_stringSize_0f7a4_24 (pc' := 27) rfl (tgt := 31) (by decide) (fun c_24 => ?_) (fun c_24 => ?_)
        · skip
          have hz10 : 10 ≤ k := (sb_nle (by omega) (by decide)).mp (show -nI k ≤ -nI 10 from c_24)
          refine yy_bipush C (v := (nI 10)) dJ6_stringSize_0f7a4_31 (pc' := 33) rfl (by decide) ?_
          refine yy_iload_n C 1 dJ6_stringSize_0f7a4_33 (pc' := 34) rfl rfl rfl ?_
          refine yy_imul C (v := (-100)) dJ6_stringSize_0f7a4_34 (pc' := 35) rfl (by decide) ?_
          refine yy_istore_n C (L' := [(2, .int (-100)), (3, .int (nI 1)), (0, .int (-(nI k))), (1, .int (nI 0))]) dJ6_stringSize_0f7a4_35 (pc' := 36) rfl rfl (by decide) rfl ?_
          refine yy_iinc C (v := (nI 2)) (L' := [(3, .int (nI 2)), (2, .int (-100)), (0, .int (-(nI k))), (1, .int (nI 0))]) 1 dJ6_stringSize_0f7a4_36 (pc' := 39) rfl rfl (by decide) (by decide) rfl ?_
          refine yy_goto C (tgt := 16) dJ6_stringSize_0f7a4_39 (by decide) ?_
          refine yy_iload_n C 0 dJ6_stringSize_0f7a4_16 (pc' := 17) rfl rfl rfl ?_
          refine yy_bipush C (v := (nI 10)) dJ6_stringSize_0f7a4_17 (pc' := 19) rfl (by decide) ?_
          refine yn_icmp_ge C (by decide) (by decide) dJ6_stringSize_0f7a4_19 (pc' := 22) rfl (tgt := 42) (by decide) (fun c_19 => ?_) (fun c_19 => ?_)
          · skip
            exact absurd c_19 (by decide)
          · skip
            refine yy_iload_n C 2 dJ6_stringSize_0f7a4_22 (pc' := 23) rfl rfl rfl ?_
            refine yy_iload_n C 1 dJ6_stringSize_0f7a4_23 (pc' := 24) rfl rfl rfl ?_
            refine yy_icmp_le C dJ6_stringSize_0f7a4_24 (pc' := 27) rfl (tgt := 31) (by decide) (fun c_24 => ?_) (fun c_24 => ?_)
            · skip
              have hz100 : 100 ≤ k := (sb_nle (by omega) (by decide)).mp (show -nI k ≤ -nI 100 from c_24)
              refine yy_bipush C (v := (nI 10)) dJ6_stringSize_0f7a4_31 (pc' := 33) rfl (by decide) ?_
              refine yy_iload_n C 1 dJ6_stringSize_0f7a4_33 (pc' := 34) rfl rfl rfl ?_
              refine yy_imul C (v := (-1000)) dJ6_stringSize_0f7a4_34 (pc' := 35) rfl (by decide) ?_
              refine yy_istore_n C (L' := [(2, .int (-1000)), (3, .int (nI 2)), (0, .int (-(nI k))), (1, .int (nI 0))]) dJ6_stringSize_0f7a4_35 (pc' := 36) rfl rfl (by decide) rfl ?_
              refine yy_iinc C (v := (nI 3)) (L' := [(3, .int (nI 3)), (2, .int (-1000)), (0, .int (-(nI k))), (1, .int (nI 0))]) 1 dJ6_stringSize_0f7a4_36 (pc' := 39) rfl rfl (by decide) (by decide) rfl ?_
              refine yy_goto C (tgt := 16) dJ6_stringSize_0f7a4_39 (by decide) ?_
              refine yy_iload_n C 0 dJ6_stringSize_0f7a4_16 (pc' := 17) rfl rfl rfl ?_
              refine yy_bipush C (v := (nI 10)) dJ6_stringSize_0f7a4_17 (pc' := 19) rfl (by decide) ?_
              refine yn_icmp_ge C (by decide) (by decide) dJ6_stringSize_0f7a4_19 (pc' := 22) rfl (tgt := 42) (by decide) (fun c_19 => ?_) (fun c_19 => ?_)
              · skip
                exact absurd c_19 (by decide)
              · skip
                refine yy_iload_n C 2 dJ6_stringSize_0f7a4_22 (pc' := 23) rfl rfl rfl ?_
                refine yy_iload_n C 1 dJ6_stringSize_0f7a4_23 (pc' := 24) rfl rfl rfl ?_
                refine yy_icmp_le C dJ6_stringSize_0f7a4_24 (pc' := 27) rfl (tgt := 31) (by decide) (fun c_24 => ?_) (fun c_24 => ?_)
                · skip
                  have hz1000 : 1000 ≤ k := (sb_nle (by omega) (by decide)).mp (show -nI k ≤ -nI 1000 from c_24)
                  refine yy_bipush C (v := (nI 10)) dJ6_stringSize_0f7a4_31 (pc' := 33) rfl (by decide) ?_
                  refine yy_iload_n C 1 dJ6_stringSize_0f7a4_33 (pc' := 34) rfl rfl rfl ?_
                  refine yy_imul C (v := (-10000)) dJ6_stringSize_0f7a4_34 (pc' := 35) rfl (by decide) ?_
                  refine yy_istore_n C (L' := [(2, .int (-10000)), (3, .int (nI 3)), (0, .int (-(nI k))), (1, .int (nI 0))]) dJ6_stringSize_0f7a4_35 (pc' := 36) rfl rfl (by decide) rfl ?_
                  refine yy_iinc C (v := (nI 4)) (L' := [(3, .int (nI 4)), (2, .int (-10000)), (0, .int (-(nI k))), (1, .int (nI 0))]) 1 dJ6_stringSize_0f7a4_36 (pc' := 39) rfl rfl (by decide) (by decide) rfl ?_
                  refine yy_goto C (tgt := 16) dJ6_stringSize_0f7a4_39 (by decide) ?_
                  refine yy_iload_n C 0 dJ6_stringSize_0f7a4_16 (pc' := 17) rfl rfl rfl ?_
                  refine yy_bipush C (v := (nI 10)) dJ6_stringSize_0f7a4_17 (pc' := 19) rfl (by decide) ?_
                  refine yn_icmp_ge C (by decide) (by decide) dJ6_stringSize_0f7a4_19 (pc' := 22) rfl (tgt := 42) (by decide) (fun c_19 => ?_) (fun c_19 => ?_)
                  · skip
                    exact absurd c_19 (by decide)
                  · skip
                    refine yy_iload_n C 2 dJ6_stringSize_0f7a4_22 (pc' := 23) rfl rfl rfl ?_
                    refine yy_iload_n C 1 dJ6_stringSize_0f7a4_23 (pc' := 24) rfl rfl rfl ?_
                    refine yy_icmp_le C dJ6_stringSize_0f7a4_24 (pc' := 27) rfl (tgt := 31) (by decide) (fun c_24 => ?_) (fun c_24 => ?_)
                    · skip
                      have hz10000 : 10000 ≤ k := (sb_nle (by omega) (by decide)).mp (show -nI k ≤ -nI 10000 from c_24)
                      refine yy_bipush C (v := (nI 10)) dJ6_stringSize_0f7a4_31 (pc' := 33) rfl (by decide) ?_
                      refine yy_iload_n C 1 dJ6_stringSize_0f7a4_33 (pc' := 34) rfl rfl rfl ?_
                      refine yy_imul C (v := (-100000)) dJ6_stringSize_0f7a4_34 (pc' := 35) rfl (by decide) ?_
                      refine yy_istore_n C (L' := [(2, .int (-100000)), (3, .int (nI 4)), (0, .int (-(nI k))), (1, .int (nI 0))]) dJ6_stringSize_0f7a4_35 (pc' := 36) rfl rfl (by decide) rfl ?_
                      refine yy_iinc C (v := (nI 5)) (L' := [(3, .int (nI 5)), (2, .int (-100000)), (0, .int (-(nI k))), (1, .int (nI 0))]) 1 dJ6_stringSize_0f7a4_36 (pc' := 39) rfl rfl (by decide) (by decide) rfl ?_
                      refine yy_goto C (tgt := 16) dJ6_stringSize_0f7a4_39 (by decide) ?_
                      refine yy_iload_n C 0 dJ6_stringSize_0f7a4_16 (pc' := 17) rfl rfl rfl ?_
                      refine yy_bipush C (v := (nI 10)) dJ6_stringSize_0f7a4_17 (pc' := 19) rfl (by decide) ?_
                      refine yn_icmp_ge C (by decide) (by decide) dJ6_stringSize_0f7a4_19 (pc' := 22) rfl (tgt := 42) (by decide) (fun c_19 => ?_) (fun c_19 => ?_)
                      · skip
                        exact absurd c_19 (by decide)
                      · skip
                        refine yy_iload_n C 2 dJ6_stringSize_0f7a4_22 (pc' := 23) rfl rfl rfl ?_
                        refine yy_iload_n C 1 dJ6_stringSize_0f7a4_23 (pc' := 24) rfl rfl rfl ?_
                        refine yy_icmp_le C dJ6_stringSize_0f7a4_24 (pc' := 27) rfl (tgt := 31) (by decide) (fun c_24 => ?_) (fun c_24 => ?_)
                        · skip
                          have hz100000 : 100000 ≤ k := (sb_nle (by omega) (by decide)).mp (show -nI k ≤ -nI 100000 from c_24)
                          omega
                        · skip
                          have hz100000 : k < 100000 := Nat.not_le.mp (fun z => c_24 ((sb_nle (a := k) (b := 100000) (by omega) (by decide)).mpr z))
                          refine yy_iload_n C 0 dJ6_stringSize_0f7a4_27 (pc' := 28) rfl rfl rfl ?_
                          refine yy_iload_n C 3 dJ6_stringSize_0f7a4_28 (pc' := 29) rfl rfl rfl ?_
                          refine yy_iadd C (v := (nI 5)) dJ6_stringSize_0f7a4_29 (pc' := 30) rfl (by decide) ?_
                          subst hQ
                          exact ye_i C hr (vp_nar_int _) () dJ6_stringSize_0f7a4_30 rfl (by decide) (by decide) (by rw [tI_nn (by omega)]; exact congrArg nI (by show _ = sb_dg k; unfold sb_dg; (repeat' split) <;> omega))
                    · skip
                      have hz10000 : k < 10000 := Nat.not_le.mp (fun z => c_24 ((sb_nle (a := k) (b := 10000) (by omega) (by decide)).mpr z))
                      refine yy_iload_n C 0 dJ6_stringSize_0f7a4_27 (pc' := 28) rfl rfl rfl ?_
                      refine yy_iload_n C 3 dJ6_stringSize_0f7a4_28 (pc' := 29) rfl rfl rfl ?_
                      refine yy_iadd C (v := (nI 4)) dJ6_stringSize_0f7a4_29 (pc' := 30) rfl (by decide) ?_
                      subst hQ
                      exact ye_i C hr (vp_nar_int _) () dJ6_stringSize_0f7a4_30 rfl (by decide) (by decide) (by rw [tI_nn (by omega)]; exact congrArg nI (by show _ = sb_dg k; unfold sb_dg; (repeat' split) <;> omega))
                · skip
                  have hz1000 : k < 1000 := Nat.not_le.mp (fun z => c_24 ((sb_nle (a := k) (b := 1000) (by omega) (by decide)).mpr z))
                  refine yy_iload_n C 0 dJ6_stringSize_0f7a4_27 (pc' := 28) rfl rfl rfl ?_
                  refine yy_iload_n C 3 dJ6_stringSize_0f7a4_28 (pc' := 29) rfl rfl rfl ?_
                  refine yy_iadd C (v := (nI 3)) dJ6_stringSize_0f7a4_29 (pc' := 30) rfl (by decide) ?_
                  subst hQ
                  exact ye_i C hr (vp_nar_int _) () dJ6_stringSize_0f7a4_30 rfl (by decide) (by decide) (by rw [tI_nn (by omega)]; exact congrArg nI (by show _ = sb_dg k; unfold sb_dg; (repeat' split) <;> omega))
            · skip
              have hz100 : k < 100 := Nat.not_le.mp (fun z => c_24 ((sb_nle (a := k) (b := 100) (by omega) (by decide)).mpr z))
              refine yy_iload_n C 0 dJ6_stringSize_0f7a4_27 (pc' := 28) rfl rfl rfl ?_
              refine yy_iload_n C 3 dJ6_stringSize_0f7a4_28 (pc' := 29) rfl rfl rfl ?_
              refine yy_iadd C (v := (nI 2)) dJ6_stringSize_0f7a4_29 (pc' := 30) rfl (by decide) ?_
              subst hQ
              exact ye_i C hr (vp_nar_int _) () dJ6_stringSize_0f7a4_30 rfl (by decide) (by decide) (by rw [tI_nn (by omega)]; exact congrArg nI (by show _ = sb_dg k; unfold sb_dg; (repeat' split) <;> omega))
        · skip
          have hz10 : k < 10 := Nat.not_le.mp (fun z => c_24 ((sb_nle (a := k) (b := 10) (by omega) (by decide)).mpr z))
          refine yy_iload_n C 0 dJ6_stringSize_0f7a4_27 (pc' := 28) rfl rfl rfl ?_
          refine yy_iload_n C 3 dJ6_stringSize_0f7a4_28 (pc' := 29) rfl rfl rfl ?_
          refine yy_iadd C (v := (nI 1)) dJ6_stringSize_0f7a4_29 (pc' := 30) rfl (by decide) ?_
          subst hQ
          exact ye_i C hr (vp_nar_int _) () dJ6_stringSize_0f7a4_30 rfl (by decide) (by decide) (by rw [tI_nn (by omega)]; exact congrArg nI (by show _ = sb_dg k; unfold sb_dg; (repeat' split) <;> omega))
  · skip
    refine yy_iconst C (v := (nI 1)) dJ6_stringSize_0f7a4_0 (pc' := 1) rfl (by decide) ?_
    refine yy_istore_n C (L' := [(1, .int (nI 1)), (0, .int (-nI k))]) dJ6_stringSize_0f7a4_1 (pc' := 2) rfl rfl (by decide) rfl ?_
    refine yy_iload_n C 1 dJ6_stringSize_0f7a4_2 (pc' := 3) rfl rfl rfl ?_
    refine yy_if_lt C dJ6_stringSize_0f7a4_3 (pc' := 6) rfl (tgt := 11) (by decide) (fun c_3 => ?_) (fun c_3 => ?_)
    · skip
      refine yy_bipush C (v := (-10)) dJ6_stringSize_0f7a4_11 (pc' := 13) rfl (by decide) ?_
      refine yy_istore_n C (L' := [(2, .int (-10)), (1, .int (nI 1)), (0, .int (-nI k))]) dJ6_stringSize_0f7a4_13 (pc' := 14) rfl rfl (by decide) rfl ?_
      refine yy_iconst C (v := (nI 1)) dJ6_stringSize_0f7a4_14 (pc' := 15) rfl (by decide) ?_
      refine yy_istore_n C (L' := [(3, .int (nI 1)), (2, .int (-10)), (1, .int (nI 1)), (0, .int (-nI k))]) dJ6_stringSize_0f7a4_15 (pc' := 16) rfl rfl (by decide) rfl ?_
      refine yy_iload_n C 0 dJ6_stringSize_0f7a4_16 (pc' := 17) rfl rfl rfl ?_
      refine yy_bipush C (v := (nI 10)) dJ6_stringSize_0f7a4_17 (pc' := 19) rfl (by decide) ?_
      refine yn_icmp_ge C (by decide) (by decide) dJ6_stringSize_0f7a4_19 (pc' := 22) rfl (tgt := 42) (by decide) (fun c_19 => ?_) (fun c_19 => ?_)
      · skip
        exact absurd c_19 (by decide)
      · skip
        refine yy_iload_n C 3 dJ6_stringSize_0f7a4_22 (pc' := 23) rfl rfl rfl ?_
        refine yy_iload_n C 1 dJ6_stringSize_0f7a4_23 (pc' := 24) rfl rfl rfl ?_
        refine yy_icmp_le C dJ6_stringSize_0f7a4_24 (pc' := 27) rfl (tgt := 31) (by decide) (fun c_24 => ?_) (fun c_24 => ?_)
        · skip
          exact absurd ((sb_nle (by omega) (by decide)).mp (show -nI k ≤ -nI 10 from c_24)) (by omega)
        · skip
          have hz10 : k < 10 := Nat.not_le.mp (fun z => c_24 ((sb_nle (a := k) (b := 10) (by omega) (by decide)).mpr z))
          refine yy_iload_n C 0 dJ6_stringSize_0f7a4_27 (pc' := 28) rfl rfl rfl ?_
          refine yy_iload_n C 2 dJ6_stringSize_0f7a4_28 (pc' := 29) rfl rfl rfl ?_
          refine yy_iadd C (v := (nI 2)) dJ6_stringSize_0f7a4_29 (pc' := 30) rfl (by decide) ?_
          subst hQ
          exact ye_i C hr (vp_nar_int _) () dJ6_stringSize_0f7a4_30 rfl (by decide) (by decide) (by rw [tI_ng hk1 (by omega)])
    · skip
      exact absurd (neg_nI hk1 (by omega)) c_3

abbrev rJ6_getChars_ba4f3 : Room := { frames := 0, cells := 0, slots := 0, locals := 0 }
set_option maxHeartbeats 4000000 in
set_option maxRecDepth 100000 in
theorem mJ6_getChars_ba4f3 (l : Launch) (G : gG) (B0 : Nat) (bv m_ n_ : Nat) (a : Nat → Int32) (F : va_W) (v : Int32) (hv : smI v) (hm : m_ ≤ 1000) (hpm : n_ + (tI v).2 ≤ m_) (hf : sb_Fit a) : Met l yJ6_getChars_ba4f3 (Cond.code yJ6_getChars_ba4f3 cJ6_getChars_ba4f3 7 (some .int) :: WG) rJ6_getChars_ba4f3 (va_Pc [.int v, .int (nI (n_ + (tI v).2)), .ref (bv)] (PR G B0 (((bv, .inl (G.2.2.2.1, m_, .inl a)) :: F)))) (va_Qi (fun (r : Int32) (u : Nat → Int32) => r = nI n_ ∧ (∀ j, j < n_ → u j = a j) ∧ (∀ i, i < (tI v).2 → (tI v).1 i < 256 ∧ u (n_ + i) = sb_b ((tI v).1 i)) ∧ sb_Fit u) (fun (u : Nat → Int32) (t_ : State) => va_P G.1 vwCl (((bv, .inl (G.2.2.2.1, m_, .inl u)) :: F)) t_.heap ∧ va_D (fun q => B0 ≤ q) (((bv, .inl (G.2.2.2.1, m_, .inl u)) :: F))) (fun q => B0 ≤ q)) rJ6_getChars_ba4f3.cells rJ6_getChars_ba4f3.slots (fun q => B0 ≤ q) := by
  refine met_of RJ6 [(0, .int v), (1, .int (nI (n_ + (tI v).2))), (2, .ref (bv))] rfl (by decide) (Nat.le_of_ble_eq_true rfl) rfl ?_
  intro p e s m args below meth c C hr hnm
  refine yq ?_
  intro QQ hQ
  rcases hv with ⟨k, hk, rfl⟩ | ⟨k, hk1, hk2, rfl⟩
  · skip
    have hpm2 : n_ + sb_dg k ≤ m_ := by
      rw [tI_nn (by omega)] at hpm; exact hpm
    rw [tI_nn (by omega)]
    refine yy_iload_n C 1 dJ6_getChars_ba4f3_0 (pc' := 1) rfl rfl rfl ?_
    refine yy_istore C (L' := [(5, .int (nI (n_ + sb_dg k))), (0, .int (nI k)), (1, .int (nI (n_ + sb_dg k))), (2, .ref (bv))]) dJ6_getChars_ba4f3_1 (pc' := 3) rfl (by decide) rfl ?_
    refine yy_iload_n C 1 dJ6_getChars_ba4f3_3 (pc' := 4) rfl rfl rfl ?_
    refine yy_if_ge C dJ6_getChars_ba4f3_4 (pc' := 7) rfl (tgt := 11) (by decide) (fun c_4 => ?_) (fun c_4 => ?_)
    · skip
      refine yy_iconst C (v := (nI 0)) dJ6_getChars_ba4f3_11 (pc' := 12) rfl (by decide) ?_
      refine yy_istore C (L' := [(6, .int (nI 0)), (5, .int (nI (n_ + sb_dg k))), (0, .int (nI k)), (1, .int (nI (n_ + sb_dg k))), (2, .ref (bv))]) dJ6_getChars_ba4f3_12 (pc' := 14) rfl (by decide) rfl ?_
      refine yy_iload C 0 dJ6_getChars_ba4f3_14 (pc' := 16) rfl rfl ?_
      refine yy_if_ne C dJ6_getChars_ba4f3_16 (pc' := 19) rfl (tgt := 22) (by decide) (fun c_16 => ?_) (fun c_16 => ?_)
      · skip
        exact absurd c_16 (by decide)
      · skip
        refine yy_iload_n C 2 dJ6_getChars_ba4f3_19 (pc' := 20) rfl rfl rfl ?_
        refine yy_ineg C (v := (-(nI k))) dJ6_getChars_ba4f3_20 (pc' := 21) rfl rfl ?_
        refine yy_istore_n C (L' := [(0, .int (-(nI k))), (6, .int (nI 0)), (5, .int (nI (n_ + sb_dg k))), (1, .int (nI (n_ + sb_dg k))), (2, .ref (bv))]) dJ6_getChars_ba4f3_21 (pc' := 22) rfl rfl (by decide) rfl ?_
        have lp_22 : ∀ (f_ : Nat) (kk : Nat) (e_ : Nat) (p_ : Nat) (a1 : Nat → Int32), (hkk : kk = k / 10 ^ e_) → (hkl : kk < 100000) → (hed : e_ + sb_dg kk = sb_dg k) → (hp_ : p_ = n_ + sb_dg k - e_) → (hlo : ∀ j, j < n_ → a1 j = a j) → (hW : WR k (n_ + sb_dg k) e_ a1) → (hf1 : sb_Fit a1) → kk < f_ → YY p l e rJ6_getChars_ba4f3 s m args below meth c G B0 7 QQ 22 [(5, .int (nI p_)), (0, .int (-nI kk)), (2, .ref (bv)), (6, .int (nI 0))] [] (((bv, .inl (G.2.2.2.1, m_, .inl a1)) :: F)) 0 0 := by
          intro f_
          induction f_ with
          | zero => intro kk e_ p_ a1 hkk hkl hed hp_ hlo hW hf1 hf_; exact absurd hf_ (Nat.not_lt_zero _)
          | succ f_ ih =>
            intro kk e_ p_ a1 hkk hkl hed hp_ hlo hW hf1 hf_
            refine yy_iload_n C 1 dJ6_getChars_ba4f3_22 (pc' := 23) rfl rfl rfl ?_
            refine yy_bipush C (v := (-100)) dJ6_getChars_ba4f3_23 (pc' := 25) rfl (by decide) ?_
            refine yy_icmp_gt C dJ6_getChars_ba4f3_25 (pc' := 28) rfl (tgt := 72) (by decide) (fun c_25 => ?_) (fun c_25 => ?_)
            · skip
              have hk100 : kk < 100 := (nl_100 (by omega)).mp c_25
              have hdg0 := dg_ge (k := kk)
              refine yy_aload_n C 2 dJ6_getChars_ba4f3_72 (pc' := 73) rfl rfl rfl ?_
              refine yy_iinc C (v := (nI (p_ - 1))) (L' := [(5, .int (nI (p_ - 1))), (0, .int (-nI kk)), (2, .ref (bv)), (6, .int (nI 0))]) 0 dJ6_getChars_ba4f3_73 (pc' := 76) rfl rfl (m1i (by omega)) (by decide) rfl ?_
              refine yy_iload C 0 dJ6_getChars_ba4f3_76 (pc' := 78) rfl rfl ?_
              obtain ⟨tt1, hZtt1, hTtt1⟩ := (cSV C).2.1
              refine yy_gets C (v := .ref tt1) hZtt1 sk_J6_83 rfl dJ6_getChars_ba4f3_78 (pc' := 81) rfl ?_
              refine yy_iload_n C 1 dJ6_getChars_ba4f3_81 (pc' := 82) rfl rfl rfl ?_
              refine yy_ineg C (v := (nI kk)) dJ6_getChars_ba4f3_82 (pc' := 83) rfl Int32.neg_neg ?_
              refine yy_tb C hTtt1 dJ6_getChars_ba4f3_83 (pc' := 84) rfl (by omega) (by decide) ?_
              refine yy_eqi (tbO_b kk (by omega)).2.2 ?_
              refine yy_bast C (w' := ((bv, .inl (G.2.2.2.1, m_, .inl (upd a1 (p_ - 1) (sb_b (48 + kk % 10))))) :: F)) 0 dJ6_getChars_ba4f3_84 (pc' := 85) rfl rfl (by omega) (by omega) (pk_vb _) rfl ?_
              refine yy_iload_n C 1 dJ6_getChars_ba4f3_85 (pc' := 86) rfl rfl rfl ?_
              refine yy_bipush C (v := (-9)) dJ6_getChars_ba4f3_86 (pc' := 88) rfl (by decide) ?_
              refine yy_icmp_ge C dJ6_getChars_ba4f3_88 (pc' := 91) rfl (tgt := 104) (by decide) (fun c_88 => ?_) (fun c_88 => ?_)
              · skip
                have hk9 : kk ≤ 9 := (nl_9 (by omega)).mp c_88
                refine yy_iload C 3 dJ6_getChars_ba4f3_104 (pc' := 106) rfl rfl ?_
                refine yy_if_eq C dJ6_getChars_ba4f3_106 (pc' := 109) rfl (tgt := 118) (by decide) (fun c_106 => ?_) (fun c_106 => ?_)
                · skip
                  refine yy_iload C 0 dJ6_getChars_ba4f3_118 (pc' := 120) rfl rfl ?_
                  subst hQ
                  exact ye_i C hr (vp_nar_int _) (upd a1 (p_ - 1) (sb_b (48 + kk % 10))) dJ6_getChars_ba4f3_120 rfl (by decide) (by decide) (by rw [tI_nn (by omega)]; exact ⟨congrArg nI (by have := dg_1 (k := kk) (by omega); omega), fun j hj => by rw [pk_un (by have := dg_1 (k := kk) (by omega); omega)]; exact hlo j hj, WR.dec (show e_ + 1 = sb_dg k by have := dg_1 (k := kk) (by omega); omega) (hW.one (by have := dg_1 (k := kk) (by omega); omega) hp_ (by rw [← hkk])), sb_fitU hf1 (sb_fitB _)⟩)
                · skip
                  exact absurd c_106 (by decide)
              · skip
                have hk9 : ¬ kk < 10 := fun z => c_88 ((nl_9 (by omega)).mpr (by omega))
                have hdg3 := dg_2 hk9 hk100
                refine yy_aload_n C 2 dJ6_getChars_ba4f3_91 (pc' := 92) rfl rfl rfl ?_
                refine yy_iinc C (v := (nI ((p_ - 1) - 1))) (L' := [(5, .int (nI ((p_ - 1) - 1))), (0, .int (-nI kk)), (2, .ref (bv)), (6, .int (nI 0))]) 0 dJ6_getChars_ba4f3_92 (pc' := 95) rfl rfl (m1i (by omega)) (by decide) rfl ?_
                refine yy_iload C 0 dJ6_getChars_ba4f3_95 (pc' := 97) rfl rfl ?_
                obtain ⟨tt2, hZtt2, hTtt2⟩ := (cSV C).2.2.1
                refine yy_gets C (v := .ref tt2) hZtt2 sk_J6_87 rfl dJ6_getChars_ba4f3_97 (pc' := 100) rfl ?_
                refine yy_iload_n C 1 dJ6_getChars_ba4f3_100 (pc' := 101) rfl rfl rfl ?_
                refine yy_ineg C (v := (nI kk)) dJ6_getChars_ba4f3_101 (pc' := 102) rfl Int32.neg_neg ?_
                refine yy_tb C hTtt2 dJ6_getChars_ba4f3_102 (pc' := 103) rfl (by omega) (by decide) ?_
                refine yy_eqi (tbT_b kk (by omega)).2 ?_
                refine yy_bast C (w' := ((bv, .inl (G.2.2.2.1, m_, .inl (upd (upd a1 (p_ - 1) (sb_b (48 + kk % 10))) ((p_ - 1) - 1) (sb_b (48 + kk / 10))))) :: F)) 0 dJ6_getChars_ba4f3_103 (pc' := 104) rfl rfl (by omega) (by omega) (pk_vb _) rfl ?_
                refine yy_iload C 3 dJ6_getChars_ba4f3_104 (pc' := 106) rfl rfl ?_
                refine yy_if_eq C dJ6_getChars_ba4f3_106 (pc' := 109) rfl (tgt := 118) (by decide) (fun c_106 => ?_) (fun c_106 => ?_)
                · skip
                  refine yy_iload C 0 dJ6_getChars_ba4f3_118 (pc' := 120) rfl rfl ?_
                  subst hQ
                  exact ye_i C hr (vp_nar_int _) (upd (upd a1 (p_ - 1) (sb_b (48 + kk % 10))) ((p_ - 1) - 1) (sb_b (48 + kk / 10))) dJ6_getChars_ba4f3_120 rfl (by decide) (by decide) (by rw [tI_nn (by omega)]; exact ⟨congrArg nI (by omega), fun j hj => by rw [pk_un (by omega), pk_un (by omega)]; exact hlo j hj, WR.dec (show e_ + 2 = sb_dg k by omega) (hW.two (by omega) hp_ (by rw [← hkk]) (by rw [Nat.pow_succ, ← Nat.div_div_eq_div_mul, ← hkk]; omega)), sb_fitU (sb_fitU hf1 (sb_fitB _)) (sb_fitB _)⟩)
                · skip
                  exact absurd c_106 (by decide)
            · skip
              have hk100 : 100 ≤ kk := Nat.not_lt.mp (fun z => c_25 ((nl_100 (by omega)).mpr z))
              have hdg2 := sb_dg100 (w := kk) hk100 (by omega)
              have hdg1 := dg_ge (k := kk / 100)
              refine yy_iload_n C 1 dJ6_getChars_ba4f3_28 (pc' := 29) rfl rfl rfl ?_
              refine yy_bipush C (v := (nI 100)) dJ6_getChars_ba4f3_29 (pc' := 31) rfl (by decide) ?_
              refine yy_idiv C (v := (-nI (kk / 100))) dJ6_getChars_ba4f3_31 (pc' := 32) rfl (by decide) (sb_ndiv (by omega)) ?_
              refine yy_istore_n C (L' := [(3, .int (-nI (kk / 100))), (5, .int (nI p_)), (0, .int (-nI kk)), (2, .ref (bv)), (6, .int (nI 0))]) dJ6_getChars_ba4f3_32 (pc' := 33) rfl rfl (by decide) rfl ?_
              refine yy_iload_n C 0 dJ6_getChars_ba4f3_33 (pc' := 34) rfl rfl rfl ?_
              refine yy_bipush C (v := (nI 100)) dJ6_getChars_ba4f3_34 (pc' := 36) rfl (by decide) ?_
              refine yy_imul C (v := ((-nI (kk / 100)) * (nI 100))) dJ6_getChars_ba4f3_36 (pc' := 37) rfl rfl ?_
              refine yy_iload_n C 2 dJ6_getChars_ba4f3_37 (pc' := 38) rfl rfl rfl ?_
              refine yy_isub C (v := (nI (kk % 100))) dJ6_getChars_ba4f3_38 (pc' := 39) rfl (sb_nrem (by omega)) ?_
              refine yy_istore C (L' := [(4, .int (nI (kk % 100))), (3, .int (-nI (kk / 100))), (5, .int (nI p_)), (0, .int (-nI kk)), (2, .ref (bv)), (6, .int (nI 0))]) dJ6_getChars_ba4f3_39 (pc' := 41) rfl (by decide) rfl ?_
              refine yy_iload_n C 1 dJ6_getChars_ba4f3_41 (pc' := 42) rfl rfl rfl ?_
              refine yy_istore_n C (L' := [(0, .int (-nI (kk / 100))), (4, .int (nI (kk % 100))), (3, .int (-nI (kk / 100))), (5, .int (nI p_)), (2, .ref (bv)), (6, .int (nI 0))]) dJ6_getChars_ba4f3_42 (pc' := 43) rfl rfl (by decide) rfl ?_
              refine yy_aload_n C 4 dJ6_getChars_ba4f3_43 (pc' := 44) rfl rfl rfl ?_
              refine yy_iinc C (v := (nI (p_ - 1))) (L' := [(5, .int (nI (p_ - 1))), (0, .int (-nI (kk / 100))), (4, .int (nI (kk % 100))), (3, .int (-nI (kk / 100))), (2, .ref (bv)), (6, .int (nI 0))]) 3 dJ6_getChars_ba4f3_44 (pc' := 47) rfl rfl (m1i (by omega)) (by decide) rfl ?_
              refine yy_iload C 0 dJ6_getChars_ba4f3_47 (pc' := 49) rfl rfl ?_
              obtain ⟨tt1, hZtt1, hTtt1⟩ := (cSV C).2.1
              refine yy_gets C (v := .ref tt1) hZtt1 sk_J6_83 rfl dJ6_getChars_ba4f3_49 (pc' := 52) rfl ?_
              refine yy_iload C 2 dJ6_getChars_ba4f3_52 (pc' := 54) rfl rfl ?_
              refine yy_tb C hTtt1 dJ6_getChars_ba4f3_54 (pc' := 55) rfl (by omega) (by decide) ?_
              refine yy_eqi (tbO_b (kk % 100) (by omega)).2.2 ?_
              refine yy_bast C (w' := ((bv, .inl (G.2.2.2.1, m_, .inl (upd a1 (p_ - 1) (sb_b (48 + (kk % 100) % 10))))) :: F)) 0 dJ6_getChars_ba4f3_55 (pc' := 56) rfl rfl (by omega) (by omega) (pk_vb _) rfl ?_
              refine yy_aload_n C 4 dJ6_getChars_ba4f3_56 (pc' := 57) rfl rfl rfl ?_
              refine yy_iinc C (v := (nI ((p_ - 1) - 1))) (L' := [(5, .int (nI ((p_ - 1) - 1))), (0, .int (-nI (kk / 100))), (4, .int (nI (kk % 100))), (3, .int (-nI (kk / 100))), (2, .ref (bv)), (6, .int (nI 0))]) 0 dJ6_getChars_ba4f3_57 (pc' := 60) rfl rfl (m1i (by omega)) (by decide) rfl ?_
              refine yy_iload C 0 dJ6_getChars_ba4f3_60 (pc' := 62) rfl rfl ?_
              obtain ⟨tt2, hZtt2, hTtt2⟩ := (cSV C).2.2.1
              refine yy_gets C (v := .ref tt2) hZtt2 sk_J6_87 rfl dJ6_getChars_ba4f3_62 (pc' := 65) rfl ?_
              refine yy_iload C 2 dJ6_getChars_ba4f3_65 (pc' := 67) rfl rfl ?_
              refine yy_tb C hTtt2 dJ6_getChars_ba4f3_67 (pc' := 68) rfl (by omega) (by decide) ?_
              refine yy_eqi (tbT_b (kk % 100) (by omega)).2 ?_
              refine yy_bast C (w' := ((bv, .inl (G.2.2.2.1, m_, .inl (upd (upd a1 (p_ - 1) (sb_b (48 + (kk % 100) % 10))) ((p_ - 1) - 1) (sb_b (48 + (kk % 100) / 10))))) :: F)) 0 dJ6_getChars_ba4f3_68 (pc' := 69) rfl rfl (by omega) (by omega) (pk_vb _) rfl ?_
              refine yy_goto C (tgt := 22) dJ6_getChars_ba4f3_69 (by decide) ?_
              refine yy_loc [0, 1, 4, 5] rfl ?_
              exact ih (kk / 100) (e_ + 2) (p_ - 1 - 1) _ (by rw [hkk, Nat.div_div_eq_div_mul, Nat.pow_add]) (by omega) (by have := sb_dg100 (w := kk) hk100 (by omega); omega) (by omega) (fun j hj => by rw [pk_un (by omega), pk_un (by omega)]; exact hlo j hj) (hW.two (by have := dg_ge (k := kk / 100); omega) hp_ (by rw [← hkk]; omega) (by rw [Nat.pow_succ, ← Nat.div_div_eq_div_mul, ← hkk]; omega)) (sb_fitU (sb_fitU hf1 (sb_fitB _)) (sb_fitB _)) (by omega)
        refine yy_loc (L' := [(5, .int (nI (n_ + sb_dg k))), (0, .int (-(nI k))), (2, .ref (bv)), (6, .int (nI 0))]) [2, 0, 4, 1] rfl ?_
        exact lp_22 (k + 1) k 0 (n_ + sb_dg k) a (by rw [Nat.pow_zero, Nat.div_one]) (by omega) (by omega) (by omega) (fun _ _ => rfl) (fun i hi => absurd hi (Nat.not_lt_zero i)) hf (Nat.lt_succ_self _)
    · skip
      exact absurd (Int32.not_lt.mp (nI_pos (n := k) (by omega))) c_4
  · skip
    have hpm2 : n_ + 2 ≤ m_ := by
      rw [tI_ng hk1 (by omega)] at hpm; exact hpm
    rw [tI_ng hk1 (by omega)]
    refine yy_iload_n C 1 dJ6_getChars_ba4f3_0 (pc' := 1) rfl rfl rfl ?_
    refine yy_istore C (L' := [(5, .int (nI (n_ + 2))), (0, .int (-nI k)), (1, .int (nI (n_ + 2))), (2, .ref (bv))]) dJ6_getChars_ba4f3_1 (pc' := 3) rfl (by decide) rfl ?_
    refine yy_iload_n C 1 dJ6_getChars_ba4f3_3 (pc' := 4) rfl rfl rfl ?_
    refine yy_if_ge C dJ6_getChars_ba4f3_4 (pc' := 7) rfl (tgt := 11) (by decide) (fun c_4 => ?_) (fun c_4 => ?_)
    · skip
      exact absurd (neg_nI hk1 (by omega)) (Int32.not_lt.mpr c_4)
    · skip
      refine yy_iconst C (v := (nI 1)) dJ6_getChars_ba4f3_7 (pc' := 8) rfl (by decide) ?_
      refine yy_goto C (tgt := 12) dJ6_getChars_ba4f3_8 (by decide) ?_
      refine yy_istore C (L' := [(6, .int (nI 1)), (5, .int (nI (n_ + 2))), (0, .int (-nI k)), (1, .int (nI (n_ + 2))), (2, .ref (bv))]) dJ6_getChars_ba4f3_12 (pc' := 14) rfl (by decide) rfl ?_
      refine yy_iload C 0 dJ6_getChars_ba4f3_14 (pc' := 16) rfl rfl ?_
      refine yy_if_ne C dJ6_getChars_ba4f3_16 (pc' := 19) rfl (tgt := 22) (by decide) (fun c_16 => ?_) (fun c_16 => ?_)
      · skip
        refine yy_iload_n C 2 dJ6_getChars_ba4f3_22 (pc' := 23) rfl rfl rfl ?_
        refine yy_bipush C (v := (-100)) dJ6_getChars_ba4f3_23 (pc' := 25) rfl (by decide) ?_
        refine yy_icmp_gt C dJ6_getChars_ba4f3_25 (pc' := 28) rfl (tgt := 72) (by decide) (fun c_25 => ?_) (fun c_25 => ?_)
        · skip
          refine yy_aload_n C 4 dJ6_getChars_ba4f3_72 (pc' := 73) rfl rfl rfl ?_
          refine yy_iinc C (v := (nI ((n_ + 2) - 1))) (L' := [(5, .int (nI ((n_ + 2) - 1))), (6, .int (nI 1)), (0, .int (-nI k)), (1, .int (nI (n_ + 2))), (2, .ref (bv))]) 1 dJ6_getChars_ba4f3_73 (pc' := 76) rfl rfl (m1i (by omega)) (by decide) rfl ?_
          refine yy_iload C 0 dJ6_getChars_ba4f3_76 (pc' := 78) rfl rfl ?_
          obtain ⟨tt1, hZtt1, hTtt1⟩ := (cSV C).2.1
          refine yy_gets C (v := .ref tt1) hZtt1 sk_J6_83 rfl dJ6_getChars_ba4f3_78 (pc' := 81) rfl ?_
          refine yy_iload_n C 2 dJ6_getChars_ba4f3_81 (pc' := 82) rfl rfl rfl ?_
          refine yy_ineg C (v := (nI k)) dJ6_getChars_ba4f3_82 (pc' := 83) rfl Int32.neg_neg ?_
          refine yy_tb C hTtt1 dJ6_getChars_ba4f3_83 (pc' := 84) rfl (by omega) (by decide) ?_
          refine yy_eqi (tbO_b k (by omega)).2.2 ?_
          refine yy_bast C (w' := ((bv, .inl (G.2.2.2.1, m_, .inl (upd a ((n_ + 2) - 1) (sb_b (48 + k % 10))))) :: F)) 0 dJ6_getChars_ba4f3_84 (pc' := 85) rfl rfl (by omega) (by omega) (pk_vb _) rfl ?_
          refine yy_iload_n C 2 dJ6_getChars_ba4f3_85 (pc' := 86) rfl rfl rfl ?_
          refine yy_bipush C (v := (-9)) dJ6_getChars_ba4f3_86 (pc' := 88) rfl (by decide) ?_
          refine yy_icmp_ge C dJ6_getChars_ba4f3_88 (pc' := 91) rfl (tgt := 104) (by decide) (fun c_88 => ?_) (fun c_88 => ?_)
          · skip
            have hk9 : k ≤ 9 := (nl_9 (by omega)).mp c_88
            refine yy_iload C 1 dJ6_getChars_ba4f3_104 (pc' := 106) rfl rfl ?_
            refine yy_if_eq C dJ6_getChars_ba4f3_106 (pc' := 109) rfl (tgt := 118) (by decide) (fun c_106 => ?_) (fun c_106 => ?_)
            · skip
              exact absurd c_106 (by decide)
            · skip
              refine yy_aload_n C 4 dJ6_getChars_ba4f3_109 (pc' := 110) rfl rfl rfl ?_
              refine yy_iinc C (v := (nI (((n_ + 2) - 1) - 1))) (L' := [(5, .int (nI (((n_ + 2) - 1) - 1))), (6, .int (nI 1)), (0, .int (-nI k)), (1, .int (nI (n_ + 2))), (2, .ref (bv))]) 0 dJ6_getChars_ba4f3_110 (pc' := 113) rfl rfl (m1i (by omega)) (by decide) rfl ?_
              refine yy_iload C 0 dJ6_getChars_ba4f3_113 (pc' := 115) rfl rfl ?_
              refine yy_bipush C (v := (nI 45)) dJ6_getChars_ba4f3_115 (pc' := 117) rfl (by decide) ?_
              refine yy_bast C (w' := ((bv, .inl (G.2.2.2.1, m_, .inl (upd (upd a ((n_ + 2) - 1) (sb_b (48 + k % 10))) (((n_ + 2) - 1) - 1) (nI 45)))) :: F)) 0 dJ6_getChars_ba4f3_117 (pc' := 118) rfl rfl (by omega) (by omega) (by decide) rfl ?_
              refine yy_iload C 0 dJ6_getChars_ba4f3_118 (pc' := 120) rfl rfl ?_
              subst hQ
              exact ye_i C hr (vp_nar_int _) (upd (upd a ((n_ + 2) - 1) (sb_b (48 + k % 10))) (((n_ + 2) - 1) - 1) (nI 45)) dJ6_getChars_ba4f3_120 rfl (by decide) (by decide) (by rw [tI_ng hk1 (by omega)]; exact ⟨congrArg nI (by omega), fun j hj => by rw [pk_un (by omega), pk_un (by omega)], fun i hi => by
                          have hi2 : i < 2 := hi
                          obtain rfl | rfl : i = 0 ∨ i = 1 := by omega
                          · exact ⟨by show 45 < 256; decide, by rw [show n_ + 0 = n_ + 2 - 1 - 1 by omega, pk_us]; show nI 45 = sb_b 45; decide⟩
                          · exact ⟨by show 48 + k % 10 < 256; omega, by rw [pk_un (by omega), show n_ + 1 = n_ + 2 - 1 by omega, pk_us]; rfl⟩, sb_fitU (sb_fitU hf (sb_fitB _)) (show fits FieldType.byte (Value.int (sb_b 45)) = true from sb_fitB 45)⟩)
          · skip
            exact absurd ((nl_9 (by omega)).mpr (by omega)) c_88
        · skip
          exact absurd ((nl_100 (by omega)).mpr (by omega)) c_25
      · skip
        exact absurd c_16 (by decide)

abbrev rJ5_append_c97b9 : Room := { frames := 4, cells := 1, slots := 1000, locals := 91 }
set_option maxHeartbeats 4000000 in
set_option maxRecDepth 100000 in
theorem mJ5_append_c97b9 (l : Launch) (G : gG) (B0 : Nat) (sb : Nat) (x : TT) (b : BU) (F : va_W) (v : Int32) (hv : smI v) (h : BO x b) (hq : x.2 + (tI v).2 < 500) : Met l yJ5_append_c97b9 (Cond.code yJ5_append_c97b9 cJ5_append_c97b9 4 (some (.object "java/lang/AbstractStringBuilder")) :: WG) rJ5_append_c97b9 (va_Pc [.ref (sb), .int v] (PR G B0 (((sb, .inr (1, [.ref (b.1), .int (nI 0), .int (nI 0), .int (nI x.2)])) :: (b.1, .inl (G.2.2.2.1, b.2.1, .inl b.2.2)) :: F)))) (va_Qr (fun (u : BU) => BO (tcat x (tI v)) u) (fun (u : BU) (a_ : Nat) (t_ : State) => a_ = sb ∧ va_P G.1 vwCl (((sb, .inr (1, [.ref (u.1), .int (nI 0), .int (nI 0), .int (nI ((tcat x (tI v)).2))])) :: (u.1, .inl (G.2.2.2.1, u.2.1, .inl u.2.2)) :: F)) t_.heap ∧ va_D (fun q => B0 ≤ q) (((sb, .inr (1, [.ref (u.1), .int (nI 0), .int (nI 0), .int (nI ((tcat x (tI v)).2))])) :: (u.1, .inl (G.2.2.2.1, u.2.1, .inl u.2.2)) :: F))) (fun q => B0 ≤ q)) rJ5_append_c97b9.cells rJ5_append_c97b9.slots (fun q => B0 ≤ q) := by
  refine met_of RJ5 [(0, .ref (sb)), (1, .int v)] rfl (by decide) (Nat.le_of_ble_eq_true rfl) rfl ?_
  intro p e s m args below meth c C hr hnm
  refine yq ?_
  intro QQ hQ
  refine yy_aload_n C 0 dJ5_append_c97b9_0 (pc' := 1) rfl rfl rfl ?_
  refine yy_get C (v := .int (nI x.2)) fk_J5_79 0 dJ5_append_c97b9_1 (pc' := 4) rfl rfl rfl ?_
  refine yy_istore_n C (L' := [(2, .int (nI x.2)), (0, .ref (sb)), (1, .int v)]) dJ5_append_c97b9_4 (pc' := 5) rfl rfl (by decide) rfl ?_
  refine yy_iload_n C 0 dJ5_append_c97b9_5 (pc' := 6) rfl rfl rfl ?_
  refine yy_iload_n C 2 dJ5_append_c97b9_6 (pc' := 7) rfl rfl rfl ?_
  refine yc_i (yr_S C (n := 1) (As := [.int v]) (rest := [.int (nI x.2)]) lk_J5_245 cd_J6_stringSize_0f7a4 st_J6_stringSize_0f7a4 (mJ6_stringSize_0f7a4 l G B0 ((sb, .inr (1, [.ref (b.1), .int (nI 0), .int (nI 0), .int (nI x.2)])) :: (b.1, .inl (G.2.2.2.1, b.2.1, .inl b.2.2)) :: F) v hv) ⟨by decide, by decide⟩ ⟨by decide, by decide⟩ rfl rfl (Nat.le_of_ble_eq_true rfl) dJ5_append_c97b9_7) (pc' := 10) rfl (fun r1 _ hw1 => ?_)
  subst hw1
  refine yy_iadd C (v := (nI (x.2 + ((tI v).2)))) dJ5_append_c97b9_10 (pc' := 11) rfl (nI_add x.2 ((tI v).2)) ?_
  refine yy_istore_n C (L' := [(3, .int (nI (x.2 + ((tI v).2)))), (2, .int (nI x.2)), (0, .ref (sb)), (1, .int v)]) dJ5_append_c97b9_11 (pc' := 12) rfl rfl (by decide) rfl ?_
  refine yy_aload_n C 2 dJ5_append_c97b9_12 (pc' := 13) rfl rfl rfl ?_
  refine yy_iload_n C 0 dJ5_append_c97b9_13 (pc' := 14) rfl rfl rfl ?_
  refine yc_v (yr_U C (n := 1) (As := [.int (nI (x.2 + ((tI v).2)))]) (rest := []) (x := yJ5_ensureCapacityInternal_d00df) (owner := yJ5_ensureCapacityInternal_d00df.cls) (Cn := RJ4) ly_J5_100 ii_J5 ⟨by decide, by decide, by decide +kernel⟩ sm_J5_ensureCapacityInternal_d00df im_J5_ensureCapacityInternal_d00df cd_J5_ensureCapacityInternal_d00df cd_J5_ensureCapacityInternal_d00df im_J5_ensureCapacityInternal_d00df (C.2.2.2.2.1 _ sx_J5_ensureCapacityInternal_d00df) (mJ5_ensureCapacityInternal_d00df l G B0 sb x b F (x.2 + ((tI v).2)) h (by omega)) ⟨by decide, by decide⟩ ⟨by decide, by decide⟩ 0 rfl rfl rfl rfl (Nat.le_of_ble_eq_true rfl) dJ5_append_c97b9_14) (pc' := 17) rfl (fun u1 hw2 => ?_)
  obtain ⟨hB1, hB2⟩ := hw2
  refine yy_aload_n C 2 dJ5_append_c97b9_17 (pc' := 18) rfl rfl rfl ?_
  refine yc_i (yr_U C (n := 0) (As := []) (rest := []) (x := yJ5_isLatin1_aae02) (owner := yJ5_isLatin1_aae02.cls) (Cn := RJ4) ly_J5_83 ii_J5 ⟨by decide, by decide, by decide +kernel⟩ sm_J5_isLatin1_aae02 im_J5_isLatin1_aae02 cd_J5_isLatin1_aae02 cd_J5_isLatin1_aae02 im_J5_isLatin1_aae02 (C.2.2.2.2.1 _ sx_J5_isLatin1_aae02) (mJ5_isLatin1_aae02 l G B0 sb x.2 u1 F) ⟨by decide, by decide⟩ ⟨by decide, by decide⟩ 0 rfl rfl rfl rfl (Nat.le_of_ble_eq_true rfl) dJ5_append_c97b9_18) (pc' := 21) rfl (fun r3 _ hw3 => ?_)
  subst hw3
  refine yy_if_eq C dJ5_append_c97b9_21 (pc' := 24) rfl (tgt := 37) (by decide) (fun c_21 => ?_) (fun c_21 => ?_)
  · skip
    exact absurd c_21 (by decide)
  · skip
    refine yy_iload_n C 3 dJ5_append_c97b9_24 (pc' := 25) rfl rfl rfl ?_
    refine yy_iload_n C 0 dJ5_append_c97b9_25 (pc' := 26) rfl rfl rfl ?_
    refine yy_aload_n C 2 dJ5_append_c97b9_26 (pc' := 27) rfl rfl rfl ?_
    refine yy_get C (v := .ref (u1.1)) fk_J5_15 0 dJ5_append_c97b9_27 (pc' := 30) rfl rfl rfl ?_
    refine yy_perm (w' := ((u1.1, .inl (G.2.2.2.1, u1.2.1, .inl u1.2.2)) :: (sb, .inr (1, [.ref (u1.1), .int (nI 0), .int (nI 0), .int (nI x.2)])) :: F)) (pm_1_0 _ _ _) ?_
    refine yc_i (yr_S C (n := 3) (As := [.int v, .int (nI (x.2 + ((tI v).2))), .ref (u1.1)]) (rest := []) lk_J5_248 cd_J6_getChars_ba4f3 st_J6_getChars_ba4f3 (mJ6_getChars_ba4f3 l G B0 (u1.1) u1.2.1 x.2 u1.2.2 ((sb, .inr (1, [.ref (u1.1), .int (nI 0), .int (nI 0), .int (nI x.2)])) :: F) v hv hB1.2.1 (by omega) hB1.2.2.2) ⟨by decide, by decide⟩ ⟨by decide, by decide⟩ rfl rfl (Nat.le_of_ble_eq_true rfl) dJ5_append_c97b9_30) (pc' := 33) rfl (fun r4 u2 hw4 => ?_)
    obtain ⟨hr3, hg1, hg2, hg3⟩ := hw4
    refine yy_pop C dJ5_append_c97b9_33 (pc' := 34) rfl rfl ?_
    refine yy_goto C (tgt := 48) dJ5_append_c97b9_34 (by decide) ?_
    refine yy_aload_n C 2 dJ5_append_c97b9_48 (pc' := 49) rfl rfl rfl ?_
    refine yy_iload_n C 0 dJ5_append_c97b9_49 (pc' := 50) rfl rfl rfl ?_
    refine yy_put C (w' := ((u1.1, .inl (G.2.2.2.1, u1.2.1, .inl u2)) :: (sb, .inr (1, [.ref (u1.1), .int (nI 0), .int (nI 0), .int (nI (x.2 + ((tI v).2)))])) :: F)) fk_J5_79 fpJ4 rfl 1 dJ5_append_c97b9_50 (pc' := 53) rfl rfl rfl rfl (Nat.le_of_ble_eq_true rfl) rfl ?_
    refine yy_aload_n C 2 dJ5_append_c97b9_53 (pc' := 54) rfl rfl rfl ?_
    refine yy_perm (w' := ((sb, .inr (1, [.ref (u1.1), .int (nI 0), .int (nI 0), .int (nI (x.2 + ((tI v).2)))])) :: (u1.1, .inl (G.2.2.2.1, u1.2.1, .inl u2)) :: F)) (pm_1_0 _ _ _) ?_
    subst hQ
    exact ye_r C hr (Or.inl ⟨_, rfl⟩) (u1.1, u1.2.1, u2) dJ5_append_c97b9_54 rfl (by decide) (by decide) (hB1.put (y := tI v) hB2 hB1.2.1 hg1 hg2 hg3)

abbrev rJ4_append_bf812 : Room := { frames := 5, cells := 1, slots := 1000, locals := 114 }
set_option maxHeartbeats 4000000 in
set_option maxRecDepth 100000 in
theorem mJ4_append_bf812 (l : Launch) (G : gG) (B0 : Nat) (sb : Nat) (x : TT) (b : BU) (F : va_W) (v : Int32) (hv : smI v) (h : BO x b) (hq : x.2 + (tI v).2 < 500) : Met l yJ4_append_bf812 (Cond.code yJ4_append_bf812 cJ4_append_bf812 2 (some (.object "java/lang/StringBuilder")) :: WG) rJ4_append_bf812 (va_Pc [.ref (sb), .int v] (PR G B0 (((sb, .inr (1, [.ref (b.1), .int (nI 0), .int (nI 0), .int (nI x.2)])) :: (b.1, .inl (G.2.2.2.1, b.2.1, .inl b.2.2)) :: F)))) (va_Qr (fun (u : BU) => BO (tcat x (tI v)) u) (fun (u : BU) (a_ : Nat) (t_ : State) => a_ = sb ∧ va_P G.1 vwCl (((sb, .inr (1, [.ref (u.1), .int (nI 0), .int (nI 0), .int (nI ((tcat x (tI v)).2))])) :: (u.1, .inl (G.2.2.2.1, u.2.1, .inl u.2.2)) :: F)) t_.heap ∧ va_D (fun q => B0 ≤ q) (((sb, .inr (1, [.ref (u.1), .int (nI 0), .int (nI 0), .int (nI ((tcat x (tI v)).2))])) :: (u.1, .inl (G.2.2.2.1, u.2.1, .inl u.2.2)) :: F))) (fun q => B0 ≤ q)) rJ4_append_bf812.cells rJ4_append_bf812.slots (fun q => B0 ≤ q) := by
  refine met_of RJ4 [(0, .ref (sb)), (1, .int v)] rfl (by decide) (Nat.le_of_ble_eq_true rfl) rfl ?_
  intro p e s m args below meth c C hr hnm
  refine yq ?_
  intro QQ hQ
  refine yy_aload_n C 0 dJ4_append_bf812_0 (pc' := 1) rfl rfl rfl ?_
  refine yy_iload_n C 1 dJ4_append_bf812_1 (pc' := 2) rfl rfl rfl ?_
  refine yc_r (yr_SU C (n := 1) (As := [.int v]) (rest := []) ly_J4_53 ii_J5 ⟨by decide, by decide +kernel⟩ sm_J5_append_c97b9 su_J4 cd_J5_append_c97b9 im_J5_append_c97b9 (mJ5_append_c97b9 l G B0 sb x b F v hv h hq) ⟨by decide, by decide⟩ ⟨by decide, by decide⟩ 0 rfl rfl rfl rfl (Nat.le_of_ble_eq_true rfl) dJ4_append_bf812_2) (pc' := 5) rfl (fun u1 hw1 => ?_)
  refine yy_pop C dJ4_append_bf812_5 (pc' := 6) rfl rfl ?_
  refine yy_aload_n C 0 dJ4_append_bf812_6 (pc' := 7) rfl rfl rfl ?_
  subst hQ
  exact ye_r C hr (Or.inl ⟨_, rfl⟩) u1 dJ4_append_bf812_7 rfl (by decide) (by decide) hw1
