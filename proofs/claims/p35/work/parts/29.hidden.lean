abbrev rL_hidden : Room := { frames := 9, cells := 378, slots := 2270, locals := 158 }
set_option maxHeartbeats 4000000 in
set_option maxRecDepth 100000 in
theorem mL_hidden (l : Launch) (hl0 : l.stackTraces = false) (G : gG) (B0 : Nat) (ad : Nat → Nat) (F : va_W) (S : SA) (hR : RI S) : Met l yL_hidden (Cond.code yL_hidden cL_hidden 8 (some .boolean) :: WG) rL_hidden (va_Pc [.ref (ad 0), .int (nI (S.1 1))] (PR G B0 (wA G ad S ++ F))) (va_Qi (fun (r : Int32) (u : Nat × (Nat → Int32)) => r = nI 1) (fun (u : Nat × (Nat → Int32)) (t_ : State) => va_P G.1 vwCl (wA G ad S ++ ((u.1, .inl (G.2.1, 8, .inl u.2)) :: F)) t_.heap ∧ va_D (fun q => B0 ≤ q) (wA G ad S ++ ((u.1, .inl (G.2.1, 8, .inl u.2)) :: F))) (fun q => B0 ≤ q)) rL_hidden.cells rL_hidden.slots (fun q => B0 ≤ q) := by
  refine met_of RL [(0, .ref (ad 0)), (1, .int (nI (S.1 1)))] rfl (by decide) (Nat.le_of_ble_eq_true rfl) rfl ?_
  intro p e s m args below meth c C hr hnm
  refine yq ?_
  intro QQ hQ
  have hL_ := hR.1.1.2.1
  refine yy_iconst C (v := (nI 0)) dL_hidden_0 (pc' := 1) rfl (by decide) ?_
  refine yy_istore_n C (L' := [(2, .int (nI 0)), (0, .ref (ad 0)), (1, .int (nI (S.1 1)))]) dL_hidden_1 (pc' := 2) rfl rfl (by decide) rfl ?_
  refine yy_bipush C (v := (nI 8)) dL_hidden_2 (pc' := 4) rfl (by decide) ?_
  refine yy_newaI C (N := 8) ac_int dL_hidden_4 (pc' := 6) rfl (by decide) (by decide) (Nat.le_of_ble_eq_true rfl) (Nat.le_of_ble_eq_true rfl) (fun q1 => ?_)
  refine yy_widen (cs2 := 1) (ss2 := 8) (Nat.le_of_ble_eq_true rfl) (Nat.le_of_ble_eq_true rfl) ?_
  refine yy_perm (w' := wA G ad S ++ ((q1, .inl (G.2.1, 8, .inl (fun _ => 0))) :: F)) List.perm_middle.symm ?_
  refine yy_astore_n C (L' := [(3, .ref (q1)), (2, .int (nI 0)), (0, .ref (ad 0)), (1, .int (nI (S.1 1)))]) dL_hidden_6 (pc' := 7) rfl rfl (by decide) rfl ?_
  refine yy_iconst C (v := (nI 0)) dL_hidden_7 (pc' := 8) rfl (by decide) ?_
  refine yy_istore C (L' := [(4, .int (nI 0)), (3, .ref (q1)), (2, .int (nI 0)), (0, .ref (ad 0)), (1, .int (nI (S.1 1)))]) dL_hidden_8 (pc' := 10) rfl (by decide) rfl ?_
  have lp_10 : ∀ (f10_ : Nat) (l_ : Nat) (cn : Nat → Int32), (hl : l_ ≤ S.1 1) → (hc : ∀ j, j < 8 → cn j = nI (linesIn S (nI j) l_)) → S.1 1 - l_ < f10_ → YY p l e rL_hidden s m args below meth c G B0 8 QQ 10 [(4, .int (nI l_)), (2, .int (nI (fb_ct (hidA S) l_))), (3, .ref (q1)), (0, .ref (ad 0)), (1, .int (nI (S.1 1)))] [] (wA G ad S ++ ((q1, .inl (G.2.1, 8, .inl cn)) :: F)) (1 + 9 * l_) (8 + 54 * l_) := by
    intro f10_
    induction f10_ with
    | zero => intro l_ cn hl hc hf_; exact absurd hf_ (Nat.not_lt_zero _)
    | succ f10_ ih10 =>
      intro l_ cn hl hc hf10_
      refine yy_widen (cs2 := 1 + 9 * l_ + 0) (ss2 := 8 + 54 * l_ + 0) (Nat.le_refl _) (Nat.le_refl _) ?_
      refine yy_iload C 0 dL_hidden_10 (pc' := 12) rfl rfl ?_
      refine yy_iload_n C 4 dL_hidden_12 (pc' := 13) rfl rfl rfl ?_
      refine yn_icmp_ge C (by omega) (by omega) dL_hidden_13 (pc' := 16) rfl (tgt := 106) (by decide) (fun c_13 => ?_) (fun c_13 => ?_)
      · skip
        refine yy_widen (cs2 := 361) (ss2 := 2168) (show 1 + 9 * l_ + 0 ≤ 361 by omega) (show 8 + 54 * l_ + 0 ≤ 2168 by omega) ?_
        obtain rfl : l_ = S.1 1 := by omega
        refine yy_iconst C (v := (nI 0)) dL_hidden_106 (pc' := 107) rfl (by decide) ?_
        refine yy_istore C (L' := [(4, .int (nI 0)), (2, .int (nI (fb_ct (hidA S) (S.1 1)))), (3, .ref (q1)), (0, .ref (ad 0)), (1, .int (nI (S.1 1)))]) dL_hidden_107 (pc' := 109) rfl (by decide) rfl ?_
        have lp_109 : ∀ (f109_ : Nat) (d_ : Nat), (hd8 : d_ ≤ 8) → 8 - d_ < f109_ → YY p l e rL_hidden s m args below meth c G B0 8 QQ 109 [(4, .int (nI d_)), (2, .int (nI (fb_ct (hidA S) (S.1 1)))), (3, .ref (q1)), (0, .ref (ad 0)), (1, .int (nI (S.1 1)))] [] (wA G ad S ++ ((q1, .inl (G.2.1, 8, .inl cn)) :: F)) (361 + 2 * d_) (2168 + 12 * d_) := by
          intro f109_
          induction f109_ with
          | zero => intro d_ hd8 hf_; exact absurd hf_ (Nat.not_lt_zero _)
          | succ f109_ ih109 =>
            intro d_ hd8 hf109_
            refine yy_widen (cs2 := 361 + 2 * d_ + 0) (ss2 := 2168 + 12 * d_ + 0) (Nat.le_refl _) (Nat.le_refl _) ?_
            refine yy_iload C 0 dL_hidden_109 (pc' := 111) rfl rfl ?_
            refine yy_bipush C (v := (nI 8)) dL_hidden_111 (pc' := 113) rfl (by decide) ?_
            refine yn_icmp_ge C (by omega) (by decide) dL_hidden_113 (pc' := 116) rfl (tgt := 147) (by decide) (fun c_113 => ?_) (fun c_113 => ?_)
            · skip
              refine yy_widen (cs2 := 377) (ss2 := 2264) (show 361 + 2 * d_ + 0 ≤ 377 by omega) (show 2168 + 12 * d_ + 0 ≤ 2264 by omega) ?_
              refine yy_iload_n C 1 dL_hidden_147 (pc' := 148) rfl rfl rfl ?_
              refine yy_aload_n C 3 dL_hidden_148 (pc' := 149) rfl rfl rfl ?_
              refine yc_i (yr_V C (As := []) (rest := [.int (nI (fb_ct (hidA S) (S.1 1)))]) lk_L_175 cd_X6_hidden im_X6_hidden se_X6_hidden (mX6_hidden l G B0 ad ((q1, .inl (G.2.1, 8, .inl cn)) :: F) S hR.1.1) ⟨by decide, by decide⟩ ⟨(show 377 + 0 ≤ 378 by omega), (show 2264 + 0 ≤ 2270 by omega)⟩ 0 rfl rfl rfl rfl (Nat.le_of_ble_eq_true rfl) dL_hidden_149) (pc' := 152) rfl (fun r1 _ hw1 => ?_)
              obtain rfl : r1 = nI (fb_ct (hidA S) (S.1 1)) := hw1
              refine yy_icmp_ne C dL_hidden_152 (pc' := 155) rfl (tgt := 168) (by decide) (fun c_152 => ?_) (fun c_152 => ?_)
              · skip
                exact absurd rfl c_152
              · skip
                refine yy_aload_n C 3 dL_hidden_155 (pc' := 156) rfl rfl rfl ?_
                refine yy_iload_n C 4 dL_hidden_156 (pc' := 157) rfl rfl rfl ?_
                refine yc_i (yr_SW C (As := [.ref (ad 0), .int (nI (S.1 1))]) (rest := []) lk_L_204 cd_L_isHidden st_L_isHidden (mL_isHidden l hl0 G B0 ad ((q1, .inl (G.2.1, 8, .inl cn)) :: F) S (nI (S.1 1)) hR.1.1) ⟨by decide, by decide⟩ ⟨(show 377 + 1 ≤ 378 by omega), (show 2264 + 6 ≤ 2270 by omega)⟩ rfl rfl (Nat.le_of_ble_eq_true rfl) dL_hidden_157) (pc' := 160) rfl (fun r2 _ hw2 => ?_)
                obtain rfl : r2 = (-1) := hw2.trans (hd_out hR.1)
                refine yy_widen (cs2 := 378) (ss2 := 2270) (show 377 + 1 ≤ 378 by omega) (show 2264 + 6 ≤ 2270 by omega) ?_
                refine yy_iconst C (v := (-1)) dL_hidden_160 (pc' := 161) rfl (by decide) ?_
                refine yy_icmp_ne C dL_hidden_161 (pc' := 164) rfl (tgt := 168) (by decide) (fun c_161 => ?_) (fun c_161 => ?_)
                · skip
                  exact absurd c_161 (by decide)
                · skip
                  refine yy_iconst C (v := (nI 1)) dL_hidden_164 (pc' := 165) rfl (by decide) ?_
                  refine yy_goto C (tgt := 169) dL_hidden_165 (by decide) ?_
                  subst hQ
                  exact ye_i C hr rfl (q1, cn) dL_hidden_169 rfl (by decide) (by decide) rfl
            · skip
              have hd9 : d_ < 8 := by omega
              by_cases hdd : d_ < S.1 0
              · skip
                refine yy_aload_n C 3 dL_hidden_116 (pc' := 117) rfl rfl rfl ?_
                refine yy_iload C 0 dL_hidden_117 (pc' := 119) rfl rfl ?_
                refine yc_i (yr_SW C (As := [.ref (ad 0), .int (nI d_)]) (rest := []) lk_L_200 cd_L_lines st_L_lines (mL_lines l hl0 G B0 ad ((q1, .inl (G.2.1, 8, .inl cn)) :: F) S (nI d_) hR.1.1) ⟨by decide, by decide⟩ ⟨(show 361 + 2 * d_ + 0 + 1 ≤ 378 by omega), (show 2168 + 12 * d_ + 0 + 6 ≤ 2270 by omega)⟩ rfl rfl (Nat.le_of_ble_eq_true rfl) dL_hidden_119) (pc' := 122) rfl (fun r1 _ hw1 => ?_)
                obtain rfl : r1 = (nI (linesIn S (nI d_) (S.1 1))) := hw1.trans (hd_lines hR.1 hdd)
                refine yy_widen (cs2 := 361 + 2 * d_ + 1) (ss2 := 2168 + 12 * d_ + 6) (show 361 + 2 * d_ + 0 + 1 ≤ 361 + 2 * d_ + 1 by omega) (show 2168 + 12 * d_ + 0 + 6 ≤ 2168 + 12 * d_ + 6 by omega) ?_
                refine yy_aload_n C 2 dL_hidden_122 (pc' := 123) rfl rfl rfl ?_
                refine yy_iload C 0 dL_hidden_123 (pc' := 125) rfl rfl ?_
                refine yy_iald C 28 dL_hidden_125 (pc' := 126) rfl rfl (by omega) (by omega) ?_
                refine yy_eqi (hc d_ (by omega)) ?_
                refine yy_icmp_eq C dL_hidden_126 (pc' := 129) rfl (tgt := 141) (by decide) (fun c_126 => ?_) (fun c_126 => ?_)
                · skip
                  refine yy_iinc C (v := (nI (d_ + 1))) (L' := [(4, .int (nI (d_ + 1))), (2, .int (nI (fb_ct (hidA S) (S.1 1)))), (3, .ref (q1)), (0, .ref (ad 0)), (1, .int (nI (S.1 1)))]) 0 dL_hidden_141 (pc' := 144) rfl rfl (nI_add d_ 1) (by decide) rfl ?_
                  refine yy_goto C (tgt := 109) dL_hidden_144 (by decide) ?_
                  refine yy_loc [0, 1, 2, 3, 4] rfl ?_
                  refine yy_widen (cs2 := 361 + 2 * (d_ + 1)) (ss2 := 2168 + 12 * (d_ + 1)) (show 361 + 2 * d_ + 1 ≤ 361 + 2 * (d_ + 1) by omega) (show 2168 + 12 * d_ + 6 ≤ 2168 + 12 * (d_ + 1) by omega) ?_
                  exact ih109 (d_ + 1) (by omega) (by omega)
                · skip
                  exact absurd rfl c_126
              · skip
                refine yy_aload_n C 3 dL_hidden_116 (pc' := 117) rfl rfl rfl ?_
                refine yy_iload C 0 dL_hidden_117 (pc' := 119) rfl rfl ?_
                refine yc_i (yr_SW C (As := [.ref (ad 0), .int (nI d_)]) (rest := []) lk_L_200 cd_L_lines st_L_lines (mL_lines l hl0 G B0 ad ((q1, .inl (G.2.1, 8, .inl cn)) :: F) S (nI d_) hR.1.1) ⟨by decide, by decide⟩ ⟨(show 361 + 2 * d_ + 0 + 1 ≤ 378 by omega), (show 2168 + 12 * d_ + 0 + 6 ≤ 2270 by omega)⟩ rfl rfl (Nat.le_of_ble_eq_true rfl) dL_hidden_119) (pc' := 122) rfl (fun r1 _ hw1 => ?_)
                obtain rfl : r1 = (-1) := hw1.trans (hd_linesN hR.1 hdd hd9)
                refine yy_widen (cs2 := 361 + 2 * d_ + 1) (ss2 := 2168 + 12 * d_ + 6) (show 361 + 2 * d_ + 0 + 1 ≤ 361 + 2 * d_ + 1 by omega) (show 2168 + 12 * d_ + 0 + 6 ≤ 2168 + 12 * d_ + 6 by omega) ?_
                refine yy_aload_n C 2 dL_hidden_122 (pc' := 123) rfl rfl rfl ?_
                refine yy_iload C 0 dL_hidden_123 (pc' := 125) rfl rfl ?_
                refine yy_iald C 28 dL_hidden_125 (pc' := 126) rfl rfl (by omega) (by omega) ?_
                refine yy_eqi (hc d_ (by omega)) ?_
                refine yy_icmp_eq C dL_hidden_126 (pc' := 129) rfl (tgt := 141) (by decide) (fun c_126 => ?_) (fun c_126 => ?_)
                · skip
                  refine yy_iinc C (v := (nI (d_ + 1))) (L' := [(4, .int (nI (d_ + 1))), (2, .int (nI (fb_ct (hidA S) (S.1 1)))), (3, .ref (q1)), (0, .ref (ad 0)), (1, .int (nI (S.1 1)))]) 0 dL_hidden_141 (pc' := 144) rfl rfl (nI_add d_ 1) (by decide) rfl ?_
                  refine yy_goto C (tgt := 109) dL_hidden_144 (by decide) ?_
                  refine yy_loc [0, 1, 2, 3, 4] rfl ?_
                  refine yy_widen (cs2 := 361 + 2 * (d_ + 1)) (ss2 := 2168 + 12 * (d_ + 1)) (show 361 + 2 * d_ + 1 ≤ 361 + 2 * (d_ + 1) by omega) (show 2168 + 12 * d_ + 6 ≤ 2168 + 12 * (d_ + 1) by omega) ?_
                  exact ih109 (d_ + 1) (by omega) (by omega)
                · skip
                  refine yy_aload_n C 3 dL_hidden_129 (pc' := 130) rfl rfl rfl ?_
                  refine yy_iload C 0 dL_hidden_130 (pc' := 132) rfl rfl ?_
                  refine yc_i (yr_SW C (As := [.ref (ad 0), .int (nI d_)]) (rest := []) lk_L_200 cd_L_lines st_L_lines (mL_lines l hl0 G B0 ad ((q1, .inl (G.2.1, 8, .inl cn)) :: F) S (nI d_) hR.1.1) ⟨by decide, by decide⟩ ⟨(show 361 + 2 * d_ + 1 + 1 ≤ 378 by omega), (show 2168 + 12 * d_ + 6 + 6 ≤ 2270 by omega)⟩ rfl rfl (Nat.le_of_ble_eq_true rfl) dL_hidden_132) (pc' := 135) rfl (fun r2 _ hw2 => ?_)
                  obtain rfl : r2 = (-1) := hw2.trans (hd_linesN hR.1 hdd hd9)
                  refine yy_widen (cs2 := 361 + 2 * d_ + 2) (ss2 := 2168 + 12 * d_ + 12) (show 361 + 2 * d_ + 1 + 1 ≤ 361 + 2 * d_ + 2 by omega) (show 2168 + 12 * d_ + 6 + 6 ≤ 2168 + 12 * d_ + 12 by omega) ?_
                  refine yy_iconst C (v := (-1)) dL_hidden_135 (pc' := 136) rfl (by decide) ?_
                  refine yy_icmp_eq C dL_hidden_136 (pc' := 139) rfl (tgt := 141) (by decide) (fun c_136 => ?_) (fun c_136 => ?_)
                  · skip
                    refine yy_iinc C (v := (nI (d_ + 1))) (L' := [(4, .int (nI (d_ + 1))), (2, .int (nI (fb_ct (hidA S) (S.1 1)))), (3, .ref (q1)), (0, .ref (ad 0)), (1, .int (nI (S.1 1)))]) 0 dL_hidden_141 (pc' := 144) rfl rfl (nI_add d_ 1) (by decide) rfl ?_
                    refine yy_goto C (tgt := 109) dL_hidden_144 (by decide) ?_
                    refine yy_loc [0, 1, 2, 3, 4] rfl ?_
                    refine yy_widen (cs2 := 361 + 2 * (d_ + 1)) (ss2 := 2168 + 12 * (d_ + 1)) (show 361 + 2 * d_ + 2 ≤ 361 + 2 * (d_ + 1) by omega) (show 2168 + 12 * d_ + 12 ≤ 2168 + 12 * (d_ + 1) by omega) ?_
                    exact ih109 (d_ + 1) (by omega) (by omega)
                  · skip
                    exact absurd c_136 (by decide)
        refine yy_loc (L' := [(4, .int (nI 0)), (2, .int (nI (fb_ct (hidA S) (S.1 1)))), (3, .ref (q1)), (0, .ref (ad 0)), (1, .int (nI (S.1 1)))]) [0, 1, 2, 3, 4] rfl ?_
        refine yy_widen (cs2 := 361 + 2 * 0) (ss2 := 2168 + 12 * 0) (Nat.le_refl _) (Nat.le_refl _) ?_
        exact lp_109 9 0 (Nat.zero_le _) (by omega)
      · skip
        have hl2 : l_ < S.1 1 := by omega
        obtain ⟨d_, hd_, ed1, ed2, ed4⟩ := hd_line hR.1 hl2
        refine yy_iload_n C 1 dL_hidden_16 (pc' := 17) rfl rfl rfl ?_
        refine yy_aload_n C 3 dL_hidden_17 (pc' := 18) rfl rfl rfl ?_
        refine yy_iload C 0 dL_hidden_18 (pc' := 20) rfl rfl ?_
        refine yc_i (yr_SW C (As := [.ref (ad 0), .int (nI l_)]) (rest := [.int (nI (fb_ct (hidA S) l_))]) lk_L_204 cd_L_isHidden st_L_isHidden (mL_isHidden l hl0 G B0 ad ((q1, .inl (G.2.1, 8, .inl cn)) :: F) S (nI l_) hR.1.1) ⟨by decide, by decide⟩ ⟨(show 1 + 9 * l_ + 0 + 1 ≤ 378 by omega), (show 8 + 54 * l_ + 0 + 6 ≤ 2270 by omega)⟩ rfl rfl (Nat.le_of_ble_eq_true rfl) dL_hidden_20) (pc' := 23) rfl (fun r1 _ hw1 => ?_)
        obtain rfl : r1 = (nI (if hidA S l_ = true then 1 else 0)) := hw1.trans (hd_hid hR.1 hl2)
        refine yy_widen (cs2 := 1 + 9 * l_ + 1) (ss2 := 8 + 54 * l_ + 6) (show 1 + 9 * l_ + 0 + 1 ≤ 1 + 9 * l_ + 1 by omega) (show 8 + 54 * l_ + 0 + 6 ≤ 8 + 54 * l_ + 6 by omega) ?_
        refine yy_iadd C (v := (nI (fb_ct (hidA S) (l_ + 1)))) dL_hidden_23 (pc' := 24) rfl (by rw [fb_ct_succ]; exact nI_add _ _) ?_
        refine yy_istore_n C (L' := [(2, .int (nI (fb_ct (hidA S) (l_ + 1)))), (4, .int (nI l_)), (3, .ref (q1)), (0, .ref (ad 0)), (1, .int (nI (S.1 1)))]) dL_hidden_24 (pc' := 25) rfl rfl (by decide) rfl ?_
        refine yy_aload_n C 3 dL_hidden_25 (pc' := 26) rfl rfl rfl ?_
        refine yy_iload C 1 dL_hidden_26 (pc' := 28) rfl rfl ?_
        refine yc_i (yr_SW C (As := [.ref (ad 0), .int (nI l_)]) (rest := []) lk_L_208 cd_L_documentOf st_L_documentOf (mL_documentOf l hl0 G B0 ad ((q1, .inl (G.2.1, 8, .inl cn)) :: F) S (nI l_) hR.1.1) ⟨by decide, by decide⟩ ⟨(show 1 + 9 * l_ + 1 + 1 ≤ 378 by omega), (show 8 + 54 * l_ + 6 + 6 ≤ 2270 by omega)⟩ rfl rfl (Nat.le_of_ble_eq_true rfl) dL_hidden_28) (pc' := 31) rfl (fun r2 _ hw2 => ?_)
        obtain rfl : r2 = (nI d_) := hw2.trans ed1
        refine yy_widen (cs2 := 1 + 9 * l_ + 2) (ss2 := 8 + 54 * l_ + 12) (show 1 + 9 * l_ + 1 + 1 ≤ 1 + 9 * l_ + 2 by omega) (show 8 + 54 * l_ + 6 + 6 ≤ 8 + 54 * l_ + 12 by omega) ?_
        refine yy_istore C (L' := [(5, .int (nI d_)), (2, .int (nI (fb_ct (hidA S) (l_ + 1)))), (4, .int (nI l_)), (3, .ref (q1)), (0, .ref (ad 0)), (1, .int (nI (S.1 1)))]) dL_hidden_31 (pc' := 33) rfl (by decide) rfl ?_
        refine yy_aload_n C 4 dL_hidden_33 (pc' := 34) rfl rfl rfl ?_
        refine yy_iload C 2 dL_hidden_34 (pc' := 36) rfl rfl ?_
        refine yc_i (yr_SW C (As := [.ref (ad 0), .int (nI l_)]) (rest := []) lk_L_210 cd_L_indexOf st_L_indexOf (mL_indexOf l hl0 G B0 ad ((q1, .inl (G.2.1, 8, .inl cn)) :: F) S (nI l_) hR.1.1) ⟨by decide, by decide⟩ ⟨(show 1 + 9 * l_ + 2 + 1 ≤ 378 by omega), (show 8 + 54 * l_ + 12 + 6 ≤ 2270 by omega)⟩ rfl rfl (Nat.le_of_ble_eq_true rfl) dL_hidden_36) (pc' := 39) rfl (fun r3 _ hw3 => ?_)
        obtain rfl : r3 = (nI (linesIn S (nI d_) l_)) := hw3.trans ed2
        refine yy_widen (cs2 := 1 + 9 * l_ + 3) (ss2 := 8 + 54 * l_ + 18) (show 1 + 9 * l_ + 2 + 1 ≤ 1 + 9 * l_ + 3 by omega) (show 8 + 54 * l_ + 12 + 6 ≤ 8 + 54 * l_ + 18 by omega) ?_
        refine yy_aload_n C 3 dL_hidden_39 (pc' := 40) rfl rfl rfl ?_
        refine yy_iload C 0 dL_hidden_40 (pc' := 42) rfl rfl ?_
        refine yy_iald C 28 dL_hidden_42 (pc' := 43) rfl rfl (by omega) (by omega) ?_
        refine yy_eqi (hc d_ (by omega)) ?_
        refine yy_icmp_eq C dL_hidden_43 (pc' := 46) rfl (tgt := 48) (by decide) (fun c_43 => ?_) (fun c_43 => ?_)
        · skip
          refine yy_aload_n C 3 dL_hidden_48 (pc' := 49) rfl rfl rfl ?_
          refine yy_iload C 0 dL_hidden_49 (pc' := 51) rfl rfl ?_
          refine yy_dup2 C dL_hidden_51 (pc' := 52) rfl rfl rfl ?_
          refine yy_iald C 28 dL_hidden_52 (pc' := 53) rfl rfl (by omega) (by omega) ?_
          refine yy_eqi (hc d_ (by omega)) ?_
          refine yy_iconst C (v := (nI 1)) dL_hidden_53 (pc' := 54) rfl (by decide) ?_
          refine yy_iadd C (v := (nI ((linesIn S (nI d_) l_) + 1))) dL_hidden_54 (pc' := 55) rfl (nI_add (linesIn S (nI d_) l_) 1) ?_
          refine yy_iast C (w' := wA G ad S ++ ((q1, .inl (G.2.1, 8, .inl (upd cn d_ (nI ((linesIn S (nI d_) l_) + 1))))) :: F)) 28 dL_hidden_55 (pc' := 56) rfl rfl (by omega) (by omega) rfl ?_
          refine yy_iconst C (v := (nI 0)) dL_hidden_56 (pc' := 57) rfl (by decide) ?_
          refine yy_istore C (L' := [(6, .int (nI 0)), (5, .int (nI d_)), (2, .int (nI (fb_ct (hidA S) (l_ + 1)))), (4, .int (nI l_)), (3, .ref (q1)), (0, .ref (ad 0)), (1, .int (nI (S.1 1)))]) dL_hidden_57 (pc' := 59) rfl (by decide) rfl ?_
          refine yy_iconst C (v := (nI 0)) dL_hidden_59 (pc' := 60) rfl (by decide) ?_
          refine yy_istore C (L' := [(7, .int (nI 0)), (6, .int (nI 0)), (5, .int (nI d_)), (2, .int (nI (fb_ct (hidA S) (l_ + 1)))), (4, .int (nI l_)), (3, .ref (q1)), (0, .ref (ad 0)), (1, .int (nI (S.1 1)))]) dL_hidden_60 (pc' := 62) rfl (by decide) rfl ?_
          have lp_62 : ∀ (f62_ : Nat) (a_ : Nat), (ha_ : a_ ≤ 5) → 5 - a_ < f62_ → YY p l e rL_hidden s m args below meth c G B0 8 QQ 62 [(7, .int (nI a_)), (6, .int (nI (fb_ct (fun z => hb S z l_) a_))), (4, .int (nI l_)), (2, .int (nI (fb_ct (hidA S) (l_ + 1)))), (3, .ref (q1)), (0, .ref (ad 0)), (1, .int (nI (S.1 1)))] [] (wA G ad S ++ ((q1, .inl (G.2.1, 8, .inl (upd cn d_ (nI ((linesIn S (nI d_) l_) + 1))))) :: F)) (1 + 9 * l_ + 3 + 1 * a_) (8 + 54 * l_ + 18 + 6 * a_) := by
            intro f62_
            induction f62_ with
            | zero => intro a_ ha_ hf_; exact absurd hf_ (Nat.not_lt_zero _)
            | succ f62_ ih62 =>
              intro a_ ha_ hf62_
              refine yy_widen (cs2 := 1 + 9 * l_ + 3 + 1 * a_ + 0) (ss2 := 8 + 54 * l_ + 18 + 6 * a_ + 0) (Nat.le_refl _) (Nat.le_refl _) ?_
              refine yy_iload C 0 dL_hidden_62 (pc' := 64) rfl rfl ?_
              refine yy_iconst C (v := (nI 5)) dL_hidden_64 (pc' := 65) rfl (by decide) ?_
              refine yn_icmp_ge C (by omega) (by decide) dL_hidden_65 (pc' := 68) rfl (tgt := 87) (by decide) (fun c_65 => ?_) (fun c_65 => ?_)
              · skip
                refine yy_widen (cs2 := 1 + 9 * l_ + 8) (ss2 := 8 + 54 * l_ + 48) (show 1 + 9 * l_ + 3 + 1 * a_ + 0 ≤ 1 + 9 * l_ + 8 by omega) (show 8 + 54 * l_ + 18 + 6 * a_ + 0 ≤ 8 + 54 * l_ + 48 by omega) ?_
                obtain rfl : a_ = 5 := by omega
                refine yy_iload C 1 dL_hidden_87 (pc' := 89) rfl rfl ?_
                refine yy_aload_n C 5 dL_hidden_89 (pc' := 90) rfl rfl rfl ?_
                refine yy_iload C 2 dL_hidden_90 (pc' := 92) rfl rfl ?_
                refine yc_i (yr_SW C (As := [.ref (ad 0), .int (nI l_)]) (rest := [.int (nI (fb_ct (fun z => hb S z l_) 5))]) lk_L_206 cd_L_holders st_L_holders (mL_holders l hl0 G B0 ad ((q1, .inl (G.2.1, 8, .inl (upd cn d_ (nI ((linesIn S (nI d_) l_) + 1))))) :: F) S (nI l_) hR.1.1) ⟨by decide, by decide⟩ ⟨(show 1 + 9 * l_ + 8 + 1 ≤ 378 by omega), (show 8 + 54 * l_ + 48 + 6 ≤ 2270 by omega)⟩ rfl rfl (Nat.le_of_ble_eq_true rfl) dL_hidden_92) (pc' := 95) rfl (fun r4 _ hw4 => ?_)
                obtain rfl : r4 = (nI (fb_ct (fun z => hb S z l_) 5)) := hw4.trans (hd_holders hR.1 hl2)
                refine yy_widen (cs2 := 1 + 9 * l_ + 9) (ss2 := 8 + 54 * l_ + 54) (show 1 + 9 * l_ + 8 + 1 ≤ 1 + 9 * l_ + 9 by omega) (show 8 + 54 * l_ + 48 + 6 ≤ 8 + 54 * l_ + 54 by omega) ?_
                refine yy_icmp_eq C dL_hidden_95 (pc' := 98) rfl (tgt := 100) (by decide) (fun c_95 => ?_) (fun c_95 => ?_)
                · skip
                  refine yy_iinc C (v := (nI (l_ + 1))) (L' := [(4, .int (nI (l_ + 1))), (7, .int (nI 5)), (6, .int (nI (fb_ct (fun z => hb S z l_) 5))), (2, .int (nI (fb_ct (hidA S) (l_ + 1)))), (3, .ref (q1)), (0, .ref (ad 0)), (1, .int (nI (S.1 1)))]) 2 dL_hidden_100 (pc' := 103) rfl rfl (nI_add l_ 1) (by decide) rfl ?_
                  refine yy_goto C (tgt := 10) dL_hidden_103 (by decide) ?_
                  refine yy_loc [0, 3, 4, 5, 6] rfl ?_
                  refine yy_widen (cs2 := 1 + 9 * (l_ + 1)) (ss2 := 8 + 54 * (l_ + 1)) (show 1 + 9 * l_ + 9 ≤ 1 + 9 * (l_ + 1) by omega) (show 8 + 54 * l_ + 54 ≤ 8 + 54 * (l_ + 1) by omega) ?_
                  exact ih10 (l_ + 1) _ (by omega) (hd_step hc hd_ ed4) (by omega)
                · skip
                  exact absurd rfl c_95
              · skip
                refine yy_iload C 1 dL_hidden_68 (pc' := 70) rfl rfl ?_
                refine yy_aload_n C 5 dL_hidden_70 (pc' := 71) rfl rfl rfl ?_
                refine yy_iload C 0 dL_hidden_71 (pc' := 73) rfl rfl ?_
                refine yy_iload C 2 dL_hidden_73 (pc' := 75) rfl rfl ?_
                refine yc_i (yr_SW C (As := [.ref (ad 0), .int (nI a_), .int (nI l_)]) (rest := [.int (nI (fb_ct (fun z => hb S z l_) a_))]) lk_L_218 cd_L_holds st_L_holds (mL_holds l hl0 G B0 ad ((q1, .inl (G.2.1, 8, .inl (upd cn d_ (nI ((linesIn S (nI d_) l_) + 1))))) :: F) S (nI a_) (nI l_) hR.1.1) ⟨by decide, by decide⟩ ⟨(show 1 + 9 * l_ + 3 + 1 * a_ + 0 + 1 ≤ 378 by omega), (show 8 + 54 * l_ + 18 + 6 * a_ + 0 + 6 ≤ 2270 by omega)⟩ rfl rfl (Nat.le_of_ble_eq_true rfl) dL_hidden_75) (pc' := 78) rfl (fun r4 _ hw4 => ?_)
                obtain rfl : r4 = (nI (if hb S a_ l_ = true then 1 else 0)) := hw4.trans (hd_holds hR.1 (by omega) hl2)
                refine yy_widen (cs2 := 1 + 9 * l_ + 3 + 1 * a_ + 1) (ss2 := 8 + 54 * l_ + 18 + 6 * a_ + 6) (show 1 + 9 * l_ + 3 + 1 * a_ + 0 + 1 ≤ 1 + 9 * l_ + 3 + 1 * a_ + 1 by omega) (show 8 + 54 * l_ + 18 + 6 * a_ + 0 + 6 ≤ 8 + 54 * l_ + 18 + 6 * a_ + 6 by omega) ?_
                refine yy_iadd C (v := (nI (fb_ct (fun z => hb S z l_) (a_ + 1)))) dL_hidden_78 (pc' := 79) rfl (by rw [fb_ct_succ]; exact nI_add _ _) ?_
                refine yy_istore C (L' := [(6, .int (nI (fb_ct (fun z => hb S z l_) (a_ + 1)))), (7, .int (nI a_)), (4, .int (nI l_)), (2, .int (nI (fb_ct (hidA S) (l_ + 1)))), (3, .ref (q1)), (0, .ref (ad 0)), (1, .int (nI (S.1 1)))]) dL_hidden_79 (pc' := 81) rfl (by decide) rfl ?_
                refine yy_iinc C (v := (nI (a_ + 1))) (L' := [(7, .int (nI (a_ + 1))), (6, .int (nI (fb_ct (fun z => hb S z l_) (a_ + 1)))), (4, .int (nI l_)), (2, .int (nI (fb_ct (hidA S) (l_ + 1)))), (3, .ref (q1)), (0, .ref (ad 0)), (1, .int (nI (S.1 1)))]) 1 dL_hidden_81 (pc' := 84) rfl rfl (nI_add a_ 1) (by decide) rfl ?_
                refine yy_goto C (tgt := 62) dL_hidden_84 (by decide) ?_
                refine yy_loc [0, 1, 2, 3, 4, 5, 6] rfl ?_
                refine yy_widen (cs2 := 1 + 9 * l_ + 3 + 1 * (a_ + 1)) (ss2 := 8 + 54 * l_ + 18 + 6 * (a_ + 1)) (show 1 + 9 * l_ + 3 + 1 * a_ + 1 ≤ 1 + 9 * l_ + 3 + 1 * (a_ + 1) by omega) (show 8 + 54 * l_ + 18 + 6 * a_ + 6 ≤ 8 + 54 * l_ + 18 + 6 * (a_ + 1) by omega) ?_
                exact ih62 (a_ + 1) (by omega) (by omega)
          refine yy_loc (L' := [(7, .int (nI 0)), (6, .int (nI 0)), (4, .int (nI l_)), (2, .int (nI (fb_ct (hidA S) (l_ + 1)))), (3, .ref (q1)), (0, .ref (ad 0)), (1, .int (nI (S.1 1)))]) [0, 1, 4, 3, 5, 6, 7] rfl ?_
          refine yy_widen (cs2 := 1 + 9 * l_ + 3 + 1 * 0) (ss2 := 8 + 54 * l_ + 18 + 6 * 0) (Nat.le_refl _) (Nat.le_refl _) ?_
          exact lp_62 6 0 (Nat.zero_le _) (by omega)
        · skip
          exact absurd rfl c_43
  refine yy_loc (L' := [(4, .int (nI 0)), (2, .int (nI 0)), (3, .ref (q1)), (0, .ref (ad 0)), (1, .int (nI (S.1 1)))]) [0, 2, 1, 3, 4] rfl ?_
  refine yy_widen (cs2 := 1 + 9 * 0) (ss2 := 8 + 54 * 0) (Nat.le_refl _) (Nat.le_refl _) ?_
  exact lp_10 (S.1 1 + 1) 0 (fun _ => 0) (Nat.zero_le _) (fun _ _ => rfl) (by omega)
