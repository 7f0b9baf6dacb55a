set_option maxHeartbeats 4000000 in
set_option maxRecDepth 100000 in
theorem law_open (l : Launch) (hl0 : l.stackTraces = false) {p : Program} {e : Env} {s : State} {m : MethodId} {args : Array Value} {below : List Frame} {meth : Method} {c : Code} {G : gG} {B0 : Nat} {QQ : State → Prop} (C : CX p s m args meth c cL_law RL 10 G B0) {b L0 : Nat} {xs : Nat → Int32} (hX : va_X b L0 xs s s.heap) (hbl : b < s.heap.size) (hbB : b < B0) (hL31 : L0 < 2 ^ 31) (ad : Nat → Nat) (K : ∀ S : SA, YY p l e room_1 s m args below meth c G B0 10 QQ 638 [] [] (wA G ad S ++ []) 600104 7301314) : YY p l e room_1 s m args below meth c G B0 10 QQ 8 [(1, .ref (ad 0)), (0, .ref b)] [] (wA G ad S0 ++ []) 100 2000 := by
  refine yy_iconst C (v := (nI 0)) dL_law_8 (pc' := 9) rfl (by decide) ?_
  refine yy_istore_n C (L' := [(2, .int (nI 0)), (1, .ref (ad 0)), (0, .ref (b))]) dL_law_9 (pc' := 10) rfl rfl (by decide) rfl ?_
  refine yy_aload_n C 1 dL_law_10 (pc' := 11) rfl rfl rfl ?_
  refine yy_iconst C (v := (nI 0)) dL_law_11 (pc' := 12) rfl (by decide) ?_
  refine yy_iconst C (v := (nI 5)) dL_law_12 (pc' := 13) rfl (by decide) ?_
  refine yc_i (yr_SW C (As := [.ref (ad 0), .int (nI 0), .int (nI 5)]) (rest := []) lk_L_134 cd_L_addLine st_L_addLine (mL_addLine l hl0 G B0 ad [] S0 (nI 0) (nI 5) rb0.1) ⟨by decide, by decide⟩ ⟨(show 100 + 1 ≤ 600104 by omega), (show 2000 + 6 ≤ 7301314 by omega)⟩ rfl rfl (Nat.le_of_ble_eq_true rfl) dL_law_13) (pc' := 16) rfl (fun r1 u1 hw1 => ?_)
  obtain ⟨hr_13, hu_13⟩ := mut_no (k := 1) hw1 (by decide +kernel) (fun ⟨_, z, _⟩ => z.1) (by decide)
  refine yy_perm (w' := wA G ad S0 ++ []) (by rw [hu_13]) ?_
  refine yy_eqi (z' := -1) hr_13 ?_
  refine yy_widen (cs2 := 101) (ss2 := 2006) (show 100 + 1 ≤ 101 by omega) (show 2000 + 6 ≤ 2006 by omega) ?_
  refine yy_iconst C (v := (-1)) dL_law_16 (pc' := 17) rfl (by decide) ?_
  refine yy_icmp_ne C dL_law_17 (pc' := 20) rfl (tgt := 130) (by decide) (fun c_17 => ?_) (fun c_17 => ?_)
  · skip
    exact absurd c_17 (by decide)
  · skip
    refine yy_aload_n C 1 dL_law_20 (pc' := 21) rfl rfl rfl ?_
    refine yy_iconst C (v := (nI 0)) dL_law_21 (pc' := 22) rfl (by decide) ?_
    refine yy_iconst C (v := (nI 0)) dL_law_22 (pc' := 23) rfl (by decide) ?_
    refine yc_i (yr_SW C (As := [.ref (ad 0), .int (nI 0), .int (nI 0)]) (rest := []) lk_L_153 cd_L_request st_L_request (mL_request l hl0 G B0 ad [] S0 (nI 0) (nI 0) rb0.1) ⟨by decide, by decide⟩ ⟨(show 101 + 1 ≤ 600104 by omega), (show 2006 + 6 ≤ 7301314 by omega)⟩ rfl rfl (Nat.le_of_ble_eq_true rfl) dL_law_23) (pc' := 26) rfl (fun r2 u2 hw2 => ?_)
    obtain ⟨hr_23, hu_23⟩ := mut_no (k := 2) hw2 (by decide +kernel) (fun z => z.1.1) (by decide)
    refine yy_perm (w' := wA G ad S0 ++ []) (by rw [hu_23]) ?_
    refine yy_eqi (z' := -2) hr_23 ?_
    refine yy_widen (cs2 := 102) (ss2 := 2012) (show 101 + 1 ≤ 102 by omega) (show 2006 + 6 ≤ 2012 by omega) ?_
    refine yy_bipush C (v := (-2)) dL_law_26 (pc' := 28) rfl (by decide) ?_
    refine yy_icmp_ne C dL_law_28 (pc' := 31) rfl (tgt := 130) (by decide) (fun c_28 => ?_) (fun c_28 => ?_)
    · skip
      exact absurd c_28 (by decide)
    · skip
      refine yy_aload_n C 1 dL_law_31 (pc' := 32) rfl rfl rfl ?_
      refine yy_iconst C (v := (nI 5)) dL_law_32 (pc' := 33) rfl (by decide) ?_
      refine yy_iconst C (v := (nI 0)) dL_law_33 (pc' := 34) rfl (by decide) ?_
      refine yc_i (yr_SW C (As := [.ref (ad 0), .int (nI 5), .int (nI 0)]) (rest := []) lk_L_153 cd_L_request st_L_request (mL_request l hl0 G B0 ad [] S0 (nI 5) (nI 0) rb0.1) ⟨by decide, by decide⟩ ⟨(show 102 + 1 ≤ 600104 by omega), (show 2012 + 6 ≤ 7301314 by omega)⟩ rfl rfl (Nat.le_of_ble_eq_true rfl) dL_law_34) (pc' := 37) rfl (fun r3 u3 hw3 => ?_)
      obtain ⟨hr_34, hu_34⟩ := mut_no (k := 1) hw3 (by decide +kernel) (fun z => z.1.1) (by decide)
      refine yy_perm (w' := wA G ad S0 ++ []) (by rw [hu_34]) ?_
      refine yy_eqi (z' := -1) hr_34 ?_
      refine yy_widen (cs2 := 103) (ss2 := 2018) (show 102 + 1 ≤ 103 by omega) (show 2012 + 6 ≤ 2018 by omega) ?_
      refine yy_iconst C (v := (-1)) dL_law_37 (pc' := 38) rfl (by decide) ?_
      refine yy_icmp_ne C dL_law_38 (pc' := 41) rfl (tgt := 130) (by decide) (fun c_38 => ?_) (fun c_38 => ?_)
      · skip
        exact absurd c_38 (by decide)
      · skip
        refine yy_aload_n C 1 dL_law_41 (pc' := 42) rfl rfl rfl ?_
        refine yy_iconst C (v := (nI 5)) dL_law_42 (pc' := 43) rfl (by decide) ?_
        refine yy_iconst C (v := (nI 4)) dL_law_43 (pc' := 44) rfl (by decide) ?_
        refine yy_iconst C (v := (nI 0)) dL_law_44 (pc' := 45) rfl (by decide) ?_
        refine yc_i (yr_SW C (As := [.ref (ad 0), .int (nI 5), .int (nI 4), .int (nI 0)]) (rest := []) lk_L_142 cd_L_addRule st_L_addRule (mL_addRule l hl0 G B0 ad [] S0 (nI 5) (nI 4) (nI 0) rb0.1) ⟨by decide, by decide⟩ ⟨(show 103 + 1 ≤ 600104 by omega), (show 2018 + 6 ≤ 7301314 by omega)⟩ rfl rfl (Nat.le_of_ble_eq_true rfl) dL_law_45) (pc' := 48) rfl (fun r4 u4 hw4 => ?_)
        obtain ⟨hr_45, hu_45⟩ := mut_no (k := 1) hw4 (by decide +kernel) (fun z => z.1.1) (by decide)
        refine yy_perm (w' := wA G ad S0 ++ []) (by rw [hu_45]) ?_
        refine yy_eqi (z' := -1) hr_45 ?_
        refine yy_widen (cs2 := 104) (ss2 := 2024) (show 103 + 1 ≤ 104 by omega) (show 2018 + 6 ≤ 2024 by omega) ?_
        refine yy_iconst C (v := (-1)) dL_law_48 (pc' := 49) rfl (by decide) ?_
        refine yy_icmp_ne C dL_law_49 (pc' := 52) rfl (tgt := 130) (by decide) (fun c_49 => ?_) (fun c_49 => ?_)
        · skip
          exact absurd c_49 (by decide)
        · skip
          refine yy_aload_n C 1 dL_law_52 (pc' := 53) rfl rfl rfl ?_
          refine yy_iconst C (v := (nI 0)) dL_law_53 (pc' := 54) rfl (by decide) ?_
          refine yy_iconst C (v := (nI 0)) dL_law_54 (pc' := 55) rfl (by decide) ?_
          refine yy_iconst C (v := (nI 0)) dL_law_55 (pc' := 56) rfl (by decide) ?_
          refine yy_iconst C (v := (nI 0)) dL_law_56 (pc' := 57) rfl (by decide) ?_
          refine yc_i (yr_SW C (As := [.ref (ad 0), .int (nI 0), .int (nI 0), .int (nI 0), .int (nI 0)]) (rest := []) lk_L_145 cd_L_addSpan st_L_addSpan (mL_addSpan l hl0 G B0 ad [] S0 (nI 0) (nI 0) (nI 0) (nI 0) rb0.1) ⟨by decide, by decide⟩ ⟨(show 104 + 1 ≤ 600104 by omega), (show 2024 + 6 ≤ 7301314 by omega)⟩ rfl rfl (Nat.le_of_ble_eq_true rfl) dL_law_57) (pc' := 60) rfl (fun r5 u5 hw5 => ?_)
          obtain ⟨hr_57, hu_57⟩ := mut_no (k := 1) hw5 (by decide +kernel) (fun z => z.1.1) (by decide)
          refine yy_perm (w' := wA G ad S0 ++ []) (by rw [hu_57]) ?_
          refine yy_eqi (z' := -1) hr_57 ?_
          refine yy_widen (cs2 := 105) (ss2 := 2030) (show 104 + 1 ≤ 105 by omega) (show 2024 + 6 ≤ 2030 by omega) ?_
          refine yy_iconst C (v := (-1)) dL_law_60 (pc' := 61) rfl (by decide) ?_
          refine yy_icmp_ne C dL_law_61 (pc' := 64) rfl (tgt := 130) (by decide) (fun c_61 => ?_) (fun c_61 => ?_)
          · skip
            exact absurd c_61 (by decide)
          · skip
            refine yy_aload_n C 1 dL_law_64 (pc' := 65) rfl rfl rfl ?_
            refine yy_iconst C (v := (nI 0)) dL_law_65 (pc' := 66) rfl (by decide) ?_
            refine yc_i (yr_SW C (As := [.ref (ad 0), .int (nI 0)]) (rest := []) lk_L_148 cd_L_lift st_L_lift (mL_lift l hl0 G B0 ad [] S0 (nI 0) rb0.1) ⟨by decide, by decide⟩ ⟨(show 105 + 1 ≤ 600104 by omega), (show 2030 + 6 ≤ 7301314 by omega)⟩ rfl rfl (Nat.le_of_ble_eq_true rfl) dL_law_66) (pc' := 69) rfl (fun r6 u6 hw6 => ?_)
            obtain ⟨hr_66, hu_66⟩ := mut_no (k := 1) hw6 (by decide +kernel) (fun ⟨_, z, _⟩ => z.1) (by decide)
            refine yy_perm (w' := wA G ad S0 ++ []) (by rw [hu_66]) ?_
            refine yy_eqi (z' := -1) hr_66 ?_
            refine yy_widen (cs2 := 106) (ss2 := 2036) (show 105 + 1 ≤ 106 by omega) (show 2030 + 6 ≤ 2036 by omega) ?_
            refine yy_iconst C (v := (-1)) dL_law_69 (pc' := 70) rfl (by decide) ?_
            refine yy_icmp_ne C dL_law_70 (pc' := 73) rfl (tgt := 130) (by decide) (fun c_70 => ?_) (fun c_70 => ?_)
            · skip
              exact absurd c_70 (by decide)
            · skip
              refine yy_aload_n C 1 dL_law_73 (pc' := 74) rfl rfl rfl ?_
              refine yc_f (yr_SW C (As := [.ref (ad 0)]) (rest := []) lk_L_188 cd_L_answeredShare st_L_answeredShare (mL_answeredShare l hl0 G B0 ad [] S0 rb0.1) ⟨by decide, by decide⟩ ⟨(show 106 + 1 ≤ 600104 by omega), (show 2036 + 6 ≤ 7301314 by omega)⟩ rfl rfl (Nat.le_of_ble_eq_true rfl) dL_law_74) (pc' := 77) rfl (fun r7 _ hw7 => ?_)
              obtain rfl : r7 = 3212836864 := hw7.trans (by decide +kernel)
              refine yy_widen (cs2 := 107) (ss2 := 2042) (show 106 + 1 ≤ 107 by omega) (show 2036 + 6 ≤ 2042 by omega) ?_
              refine yy_ldcf C dL_law_77 (pc' := 79) rfl lf_L_114 ?_
              refine yy_fcmp C dL_law_79 (pc' := 80) rfl ?_
              refine yy_eqi (z' := nI 0) (by decide +kernel) ?_
              refine yy_if_ne C dL_law_80 (pc' := 83) rfl (tgt := 130) (by decide) (fun c_80 => ?_) (fun c_80 => ?_)
              · skip
                exact absurd c_80 (by decide)
              · skip
                refine yy_aload_n C 1 dL_law_83 (pc' := 84) rfl rfl rfl ?_
                refine yy_iconst C (v := (nI 0)) dL_law_84 (pc' := 85) rfl (by decide) ?_
                refine yy_iconst C (v := (nI 1)) dL_law_85 (pc' := 86) rfl (by decide) ?_
                refine yc_i (yr_SW C (As := [.ref (ad 0), .int (nI 0), .int (nI 1)]) (rest := []) lk_L_161 cd_L_pay st_L_pay (mL_pay l hl0 G B0 ad [] S0 (nI 0) (nI 1) rb0.1) ⟨by decide, by decide⟩ ⟨(show 107 + 1 ≤ 600104 by omega), (show 2042 + 6 ≤ 7301314 by omega)⟩ rfl rfl (Nat.le_of_ble_eq_true rfl) dL_law_86) (pc' := 89) rfl (fun r8 u7 hw8 => ?_)
                obtain ⟨hr_86, hu_86⟩ := mut_no (k := 1) hw8 (by decide +kernel) (fun ⟨_, z, _⟩ => z.1) (by decide)
                refine yy_perm (w' := wA G ad S0 ++ []) (by rw [hu_86]) ?_
                refine yy_eqi (z' := -1) hr_86 ?_
                refine yy_widen (cs2 := 108) (ss2 := 2048) (show 107 + 1 ≤ 108 by omega) (show 2042 + 6 ≤ 2048 by omega) ?_
                refine yy_iconst C (v := (-1)) dL_law_89 (pc' := 90) rfl (by decide) ?_
                refine yy_icmp_ne C dL_law_90 (pc' := 93) rfl (tgt := 130) (by decide) (fun c_90 => ?_) (fun c_90 => ?_)
                · skip
                  exact absurd c_90 (by decide)
                · skip
                  refine yy_aload_n C 1 dL_law_93 (pc' := 94) rfl rfl rfl ?_
                  refine yy_iconst C (v := (nI 0)) dL_law_94 (pc' := 95) rfl (by decide) ?_
                  refine yc_i (yr_SW C (As := [.ref (ad 0), .int (nI 0)]) (rest := []) lk_L_163 cd_L_pass st_L_pass (mL_pass l hl0 G B0 ad [] S0 (nI 0) rb0.1) ⟨by decide, by decide⟩ ⟨(show 108 + 1 ≤ 600104 by omega), (show 2048 + 6 ≤ 7301314 by omega)⟩ rfl rfl (Nat.le_of_ble_eq_true rfl) dL_law_95) (pc' := 98) rfl (fun r9 u8 hw9 => ?_)
                  obtain ⟨hr_95, hu_95⟩ := mut_no (k := 1) hw9 (by decide +kernel) (fun ⟨_, z, _⟩ => z.1) (by decide)
                  refine yy_perm (w' := wA G ad S0 ++ []) (by rw [hu_95]) ?_
                  refine yy_eqi (z' := -1) hr_95 ?_
                  refine yy_widen (cs2 := 109) (ss2 := 2054) (show 108 + 1 ≤ 109 by omega) (show 2048 + 6 ≤ 2054 by omega) ?_
                  refine yy_iconst C (v := (-1)) dL_law_98 (pc' := 99) rfl (by decide) ?_
                  refine yy_icmp_ne C dL_law_99 (pc' := 102) rfl (tgt := 130) (by decide) (fun c_99 => ?_) (fun c_99 => ?_)
                  · skip
                    exact absurd c_99 (by decide)
                  · skip
                    refine yy_aload_n C 1 dL_law_102 (pc' := 103) rfl rfl rfl ?_
                    refine yy_bipush C (v := (nI 100)) dL_law_103 (pc' := 105) rfl (by decide) ?_
                    refine yc_i (yr_SW C (As := [.ref (ad 0), .int (nI 100)]) (rest := []) lk_L_159 cd_L_setPrice st_L_setPrice (mL_setPrice l hl0 G B0 ad [] S0 (nI 100) rb0.1) ⟨by decide, by decide⟩ ⟨(show 109 + 1 ≤ 600104 by omega), (show 2054 + 6 ≤ 7301314 by omega)⟩ rfl rfl (Nat.le_of_ble_eq_true rfl) dL_law_105) (pc' := 108) rfl (fun r10 u9 hw10 => ?_)
                    obtain ⟨hr_105, hu_105⟩ := mut_no (k := 1) hw10 (by decide +kernel) (fun ⟨_, z, _⟩ => z.1) (by decide)
                    refine yy_perm (w' := wA G ad S0 ++ []) (by rw [hu_105]) ?_
                    refine yy_eqi (z' := -1) hr_105 ?_
                    refine yy_widen (cs2 := 110) (ss2 := 2060) (show 109 + 1 ≤ 110 by omega) (show 2054 + 6 ≤ 2060 by omega) ?_
                    refine yy_iconst C (v := (-1)) dL_law_108 (pc' := 109) rfl (by decide) ?_
                    refine yy_icmp_ne C dL_law_109 (pc' := 112) rfl (tgt := 130) (by decide) (fun c_109 => ?_) (fun c_109 => ?_)
                    · skip
                      exact absurd c_109 (by decide)
                    · skip
                      refine yy_aload_n C 1 dL_law_112 (pc' := 113) rfl rfl rfl ?_
                      refine yc_i (yr_V C (As := []) (rest := []) lk_L_175 cd_X6_hidden im_X6_hidden se_X6_hidden (mX6_hidden l G B0 ad [] S0 rb0.1) ⟨by decide, by decide⟩ ⟨(show 110 + 0 ≤ 600104 by omega), (show 2060 + 0 ≤ 7301314 by omega)⟩ 0 rfl rfl rfl rfl (Nat.le_of_ble_eq_true rfl) dL_law_113) (pc' := 116) rfl (fun r11 _ hw11 => ?_)
                      obtain rfl : r11 = (nI 0) := hw11.trans (by decide +kernel)
                      refine yy_if_ne C dL_law_116 (pc' := 119) rfl (tgt := 130) (by decide) (fun c_116 => ?_) (fun c_116 => ?_)
                      · skip
                        exact absurd c_116 (by decide)
                      · skip
                        refine yy_aload_n C 1 dL_law_119 (pc' := 120) rfl rfl rfl ?_
                        refine yy_iconst C (v := (nI 0)) dL_law_120 (pc' := 121) rfl (by decide) ?_
                        refine yy_iconst C (v := (nI 0)) dL_law_121 (pc' := 122) rfl (by decide) ?_
                        refine yc_i (yr_SW C (As := [.ref (ad 0), .int (nI 0), .int (nI 0)]) (rest := []) lk_L_218 cd_L_holds st_L_holds (mL_holds l hl0 G B0 ad [] S0 (nI 0) (nI 0) rb0.1) ⟨by decide, by decide⟩ ⟨(show 110 + 1 ≤ 600104 by omega), (show 2060 + 6 ≤ 7301314 by omega)⟩ rfl rfl (Nat.le_of_ble_eq_true rfl) dL_law_122) (pc' := 125) rfl (fun r12 _ hw12 => ?_)
                        obtain rfl : r12 = (-2) := hw12.trans (by decide +kernel)
                        refine yy_widen (cs2 := 111) (ss2 := 2066) (show 110 + 1 ≤ 111 by omega) (show 2060 + 6 ≤ 2066 by omega) ?_
                        refine yy_bipush C (v := (-2)) dL_law_125 (pc' := 127) rfl (by decide) ?_
                        refine yy_icmp_eq C dL_law_127 (pc' := 130) rfl (tgt := 132) (by decide) (fun c_127 => ?_) (fun c_127 => ?_)
                        · skip
                          refine yy_aload_n C 1 dL_law_132 (pc' := 133) rfl rfl rfl ?_
                          refine yc_i (yr_SW C (As := [.ref (ad 0)]) (rest := []) lk_L_131 cd_L_addDocument st_L_addDocument (mL_addDocument l hl0 G B0 ad [] S0 rb0.1) ⟨by decide, by decide⟩ ⟨(show 111 + 1 ≤ 600104 by omega), (show 2066 + 6 ≤ 7301314 by omega)⟩ rfl rfl (Nat.le_of_ble_eq_true rfl) dL_law_133) (pc' := 136) rfl (fun r13 u10 hw13 => ?_)
                          have hy1 := yes_of hw13 (by decide +kernel)
                          obtain ⟨⟨_, hr1⟩, hu1⟩ := hy1
                          have hw1_ : u10 = O1 := hu1
                          have rb1 : RB O1 := by
                            have h9 := (ab_addDocument rb0 hw13).1
                            rw [hw1_] at h9
                            exact h9
                          refine yy_perm (w' := wA G ad O1 ++ []) (by rw [hw1_]) ?_
                          refine yy_eqi (z' := nI 0) (hr1.trans (by decide +kernel)) ?_
                          refine yy_widen (cs2 := 112) (ss2 := 2072) (show 111 + 1 ≤ 112 by omega) (show 2066 + 6 ≤ 2072 by omega) ?_
                          refine yy_aload_n C 1 dL_law_136 (pc' := 137) rfl rfl rfl ?_
                          refine yc_i (yr_SW C (As := [.ref (ad 0)]) (rest := [.int (nI 0)]) lk_L_131 cd_L_addDocument st_L_addDocument (mL_addDocument l hl0 G B0 ad [] O1 rb1.1) ⟨by decide, by decide⟩ ⟨(show 112 + 1 ≤ 600104 by omega), (show 2072 + 6 ≤ 7301314 by omega)⟩ rfl rfl (Nat.le_of_ble_eq_true rfl) dL_law_137) (pc' := 140) rfl (fun r14 u11 hw14 => ?_)
                          have hy2 := yes_of hw14 (by decide +kernel)
                          obtain ⟨⟨_, hr2⟩, hu2⟩ := hy2
                          have hw2_ : u11 = O2 := hu2
                          have rb2 : RB O2 := by
                            have h9 := (ab_addDocument rb1 hw14).1
                            rw [hw2_] at h9
                            exact h9
                          refine yy_perm (w' := wA G ad O2 ++ []) (by rw [hw2_]) ?_
                          refine yy_eqi (z' := nI 1) (hr2.trans (by decide +kernel)) ?_
                          refine yy_widen (cs2 := 113) (ss2 := 2078) (show 112 + 1 ≤ 113 by omega) (show 2072 + 6 ≤ 2078 by omega) ?_
                          refine yy_iadd C (v := (nI 1)) dL_law_140 (pc' := 141) rfl (by decide) ?_
                          refine yy_istore_n C (L' := [(3, .int (nI 1)), (2, .int (nI 0)), (1, .ref (ad 0)), (0, .ref (b))]) dL_law_141 (pc' := 142) rfl rfl (by decide) rfl ?_
                          refine yy_iconst C (v := (nI 0)) dL_law_142 (pc' := 143) rfl (by decide) ?_
                          refine yy_istore C (L' := [(4, .int (nI 0)), (3, .int (nI 1)), (2, .int (nI 0)), (1, .ref (ad 0)), (0, .ref (b))]) dL_law_143 (pc' := 145) rfl (by decide) rfl ?_
                          refine yy_iload C 0 dL_law_145 (pc' := 147) rfl rfl ?_
                          refine yy_bipush C (v := (nI 7)) dL_law_147 (pc' := 149) rfl (by decide) ?_
                          refine yy_icmp_ge C dL_law_149 (pc' := 152) rfl (tgt := 174) (by decide) (fun c_149 => ?_) (fun c_149 => ?_)
                          · skip
                            exact absurd c_149 (by decide)
                          · skip
                            refine yy_iload_n C 1 dL_law_152 (pc' := 153) rfl rfl rfl ?_
                            refine yy_aload_n C 3 dL_law_153 (pc' := 154) rfl rfl rfl ?_
                            refine yy_iload C 0 dL_law_154 (pc' := 156) rfl rfl ?_
                            refine yy_iconst C (v := (nI 2)) dL_law_156 (pc' := 157) rfl (by decide) ?_
                            refine yy_irem C (v := nI 0) dL_law_157 (pc' := 158) rfl (by decide) (by decide) ?_
                            refine yy_bipush C (v := (nI 10)) dL_law_158 (pc' := 160) rfl (by decide) ?_
                            refine yy_iload C 0 dL_law_160 (pc' := 162) rfl rfl ?_
                            refine yy_imul C (v := (nI 0)) dL_law_162 (pc' := 163) rfl (by decide) ?_
                            refine yc_i (yr_SW C (As := [.ref (ad 0), .int (nI 0), .int (nI 0)]) (rest := [.int (nI 1)]) lk_L_134 cd_L_addLine st_L_addLine (mL_addLine l hl0 G B0 ad [] O2 (nI 0) (nI 0) rb2.1) ⟨by decide, by decide⟩ ⟨(show 113 + 1 ≤ 600104 by omega), (show 2078 + 6 ≤ 7301314 by omega)⟩ rfl rfl (Nat.le_of_ble_eq_true rfl) dL_law_163) (pc' := 166) rfl (fun r15 u12 hw15 => ?_)
                            have hy3 := yes_of hw15 (by decide +kernel)
                            obtain ⟨g3, ⟨_, hg3, hl3, hr3⟩, hu3⟩ := hy3
                            obtain rfl : g3 = 0 := op_nin (by decide) (Nat.lt_trans (show g3 < 2 from hl3) (by decide)) hg3
                            have hw3_ : u12 = O3 := hu3
                            have rb3 : RB O3 := by
                              have h9 := (ab_addLine rb2 hw15).1
                              rw [hw3_] at h9
                              exact h9
                            refine yy_perm (w' := wA G ad O3 ++ []) (by rw [hw3_]) ?_
                            refine yy_eqi (z' := nI 0) (hr3.trans (by decide +kernel)) ?_
                            refine yy_widen (cs2 := 114) (ss2 := 2084) (show 113 + 1 ≤ 114 by omega) (show 2078 + 6 ≤ 2084 by omega) ?_
                            refine yy_iadd C (v := (nI 1)) dL_law_166 (pc' := 167) rfl (by decide) ?_
                            refine yy_istore_n C (L' := [(3, .int (nI 1)), (4, .int (nI 0)), (2, .int (nI 0)), (1, .ref (ad 0)), (0, .ref (b))]) dL_law_167 (pc' := 168) rfl rfl (by decide) rfl ?_
                            refine yy_iinc C (v := (nI 1)) (L' := [(4, .int (nI 1)), (3, .int (nI 1)), (2, .int (nI 0)), (1, .ref (ad 0)), (0, .ref (b))]) 1 dL_law_168 (pc' := 171) rfl rfl (by decide) (by decide) rfl ?_
                            refine yy_goto C (tgt := 145) dL_law_171 (by decide) ?_
                            refine yy_iload C 0 dL_law_145 (pc' := 147) rfl rfl ?_
                            refine yy_bipush C (v := (nI 7)) dL_law_147 (pc' := 149) rfl (by decide) ?_
                            refine yy_icmp_ge C dL_law_149 (pc' := 152) rfl (tgt := 174) (by decide) (fun c_149 => ?_) (fun c_149 => ?_)
                            · skip
                              exact absurd c_149 (by decide)
                            · skip
                              refine yy_iload_n C 1 dL_law_152 (pc' := 153) rfl rfl rfl ?_
                              refine yy_aload_n C 3 dL_law_153 (pc' := 154) rfl rfl rfl ?_
                              refine yy_iload C 0 dL_law_154 (pc' := 156) rfl rfl ?_
                              refine yy_iconst C (v := (nI 2)) dL_law_156 (pc' := 157) rfl (by decide) ?_
                              refine yy_irem C (v := nI 1) dL_law_157 (pc' := 158) rfl (by decide) (by decide) ?_
                              refine yy_bipush C (v := (nI 10)) dL_law_158 (pc' := 160) rfl (by decide) ?_
                              refine yy_iload C 0 dL_law_160 (pc' := 162) rfl rfl ?_
                              refine yy_imul C (v := (nI 10)) dL_law_162 (pc' := 163) rfl (by decide) ?_
                              refine yc_i (yr_SW C (As := [.ref (ad 0), .int (nI 1), .int (nI 10)]) (rest := [.int (nI 1)]) lk_L_134 cd_L_addLine st_L_addLine (mL_addLine l hl0 G B0 ad [] O3 (nI 1) (nI 10) rb3.1) ⟨by decide, by decide⟩ ⟨(show 114 + 1 ≤ 600104 by omega), (show 2084 + 6 ≤ 7301314 by omega)⟩ rfl rfl (Nat.le_of_ble_eq_true rfl) dL_law_163) (pc' := 166) rfl (fun r16 u13 hw16 => ?_)
                              have hy4 := yes_of hw16 (by decide +kernel)
                              obtain ⟨g4, ⟨_, hg4, hl4, hr4⟩, hu4⟩ := hy4
                              obtain rfl : g4 = 1 := op_nin (by decide) (Nat.lt_trans (show g4 < 2 from hl4) (by decide)) hg4
                              have hw4_ : u13 = O4 := hu4
                              have rb4 : RB O4 := by
                                have h9 := (ab_addLine rb3 hw16).1
                                rw [hw4_] at h9
                                exact h9
                              refine yy_perm (w' := wA G ad O4 ++ []) (by rw [hw4_]) ?_
                              refine yy_eqi (z' := nI 1) (hr4.trans (by decide +kernel)) ?_
                              refine yy_widen (cs2 := 115) (ss2 := 2090) (show 114 + 1 ≤ 115 by omega) (show 2084 + 6 ≤ 2090 by omega) ?_
                              refine yy_iadd C (v := (nI 2)) dL_law_166 (pc' := 167) rfl (by decide) ?_
                              refine yy_istore_n C (L' := [(3, .int (nI 2)), (4, .int (nI 1)), (2, .int (nI 0)), (1, .ref (ad 0)), (0, .ref (b))]) dL_law_167 (pc' := 168) rfl rfl (by decide) rfl ?_
                              refine yy_iinc C (v := (nI 2)) (L' := [(4, .int (nI 2)), (3, .int (nI 2)), (2, .int (nI 0)), (1, .ref (ad 0)), (0, .ref (b))]) 1 dL_law_168 (pc' := 171) rfl rfl (by decide) (by decide) rfl ?_
                              refine yy_goto C (tgt := 145) dL_law_171 (by decide) ?_
                              refine yy_iload C 0 dL_law_145 (pc' := 147) rfl rfl ?_
                              refine yy_bipush C (v := (nI 7)) dL_law_147 (pc' := 149) rfl (by decide) ?_
                              refine yy_icmp_ge C dL_law_149 (pc' := 152) rfl (tgt := 174) (by decide) (fun c_149 => ?_) (fun c_149 => ?_)
                              · skip
                                exact absurd c_149 (by decide)
                              · skip
                                refine yy_iload_n C 1 dL_law_152 (pc' := 153) rfl rfl rfl ?_
                                refine yy_aload_n C 3 dL_law_153 (pc' := 154) rfl rfl rfl ?_
                                refine yy_iload C 0 dL_law_154 (pc' := 156) rfl rfl ?_
                                refine yy_iconst C (v := (nI 2)) dL_law_156 (pc' := 157) rfl (by decide) ?_
                                refine yy_irem C (v := nI 0) dL_law_157 (pc' := 158) rfl (by decide) (by decide) ?_
                                refine yy_bipush C (v := (nI 10)) dL_law_158 (pc' := 160) rfl (by decide) ?_
                                refine yy_iload C 0 dL_law_160 (pc' := 162) rfl rfl ?_
                                refine yy_imul C (v := (nI 20)) dL_law_162 (pc' := 163) rfl (by decide) ?_
                                refine yc_i (yr_SW C (As := [.ref (ad 0), .int (nI 0), .int (nI 20)]) (rest := [.int (nI 2)]) lk_L_134 cd_L_addLine st_L_addLine (mL_addLine l hl0 G B0 ad [] O4 (nI 0) (nI 20) rb4.1) ⟨by decide, by decide⟩ ⟨(show 115 + 1 ≤ 600104 by omega), (show 2090 + 6 ≤ 7301314 by omega)⟩ rfl rfl (Nat.le_of_ble_eq_true rfl) dL_law_163) (pc' := 166) rfl (fun r17 u14 hw17 => ?_)
                                have hy5 := yes_of hw17 (by decide +kernel)
                                obtain ⟨g5, ⟨_, hg5, hl5, hr5⟩, hu5⟩ := hy5
                                obtain rfl : g5 = 0 := op_nin (by decide) (Nat.lt_trans (show g5 < 2 from hl5) (by decide)) hg5
                                have hw5_ : u14 = O5 := hu5
                                have rb5 : RB O5 := by
                                  have h9 := (ab_addLine rb4 hw17).1
                                  rw [hw5_] at h9
                                  exact h9
                                refine yy_perm (w' := wA G ad O5 ++ []) (by rw [hw5_]) ?_
                                refine yy_eqi (z' := nI 2) (hr5.trans (by decide +kernel)) ?_
                                refine yy_widen (cs2 := 116) (ss2 := 2096) (show 115 + 1 ≤ 116 by omega) (show 2090 + 6 ≤ 2096 by omega) ?_
                                refine yy_iadd C (v := (nI 4)) dL_law_166 (pc' := 167) rfl (by decide) ?_
                                refine yy_istore_n C (L' := [(3, .int (nI 4)), (4, .int (nI 2)), (2, .int (nI 0)), (1, .ref (ad 0)), (0, .ref (b))]) dL_law_167 (pc' := 168) rfl rfl (by decide) rfl ?_
                                refine yy_iinc C (v := (nI 3)) (L' := [(4, .int (nI 3)), (3, .int (nI 4)), (2, .int (nI 0)), (1, .ref (ad 0)), (0, .ref (b))]) 1 dL_law_168 (pc' := 171) rfl rfl (by decide) (by decide) rfl ?_
                                refine yy_goto C (tgt := 145) dL_law_171 (by decide) ?_
                                refine yy_iload C 0 dL_law_145 (pc' := 147) rfl rfl ?_
                                refine yy_bipush C (v := (nI 7)) dL_law_147 (pc' := 149) rfl (by decide) ?_
                                refine yy_icmp_ge C dL_law_149 (pc' := 152) rfl (tgt := 174) (by decide) (fun c_149 => ?_) (fun c_149 => ?_)
                                · skip
                                  exact absurd c_149 (by decide)
                                · skip
                                  refine yy_iload_n C 1 dL_law_152 (pc' := 153) rfl rfl rfl ?_
                                  refine yy_aload_n C 3 dL_law_153 (pc' := 154) rfl rfl rfl ?_
                                  refine yy_iload C 0 dL_law_154 (pc' := 156) rfl rfl ?_
                                  refine yy_iconst C (v := (nI 2)) dL_law_156 (pc' := 157) rfl (by decide) ?_
                                  refine yy_irem C (v := nI 1) dL_law_157 (pc' := 158) rfl (by decide) (by decide) ?_
                                  refine yy_bipush C (v := (nI 10)) dL_law_158 (pc' := 160) rfl (by decide) ?_
                                  refine yy_iload C 0 dL_law_160 (pc' := 162) rfl rfl ?_
                                  refine yy_imul C (v := (nI 30)) dL_law_162 (pc' := 163) rfl (by decide) ?_
                                  refine yc_i (yr_SW C (As := [.ref (ad 0), .int (nI 1), .int (nI 30)]) (rest := [.int (nI 4)]) lk_L_134 cd_L_addLine st_L_addLine (mL_addLine l hl0 G B0 ad [] O5 (nI 1) (nI 30) rb5.1) ⟨by decide, by decide⟩ ⟨(show 116 + 1 ≤ 600104 by omega), (show 2096 + 6 ≤ 7301314 by omega)⟩ rfl rfl (Nat.le_of_ble_eq_true rfl) dL_law_163) (pc' := 166) rfl (fun r18 u15 hw18 => ?_)
                                  have hy6 := yes_of hw18 (by decide +kernel)
                                  obtain ⟨g6, ⟨_, hg6, hl6, hr6⟩, hu6⟩ := hy6
                                  obtain rfl : g6 = 1 := op_nin (by decide) (Nat.lt_trans (show g6 < 2 from hl6) (by decide)) hg6
                                  have hw6_ : u15 = O6 := hu6
                                  have rb6 : RB O6 := by
                                    have h9 := (ab_addLine rb5 hw18).1
                                    rw [hw6_] at h9
                                    exact h9
                                  refine yy_perm (w' := wA G ad O6 ++ []) (by rw [hw6_]) ?_
                                  refine yy_eqi (z' := nI 3) (hr6.trans (by decide +kernel)) ?_
                                  refine yy_widen (cs2 := 117) (ss2 := 2102) (show 116 + 1 ≤ 117 by omega) (show 2096 + 6 ≤ 2102 by omega) ?_
                                  refine yy_iadd C (v := (nI 7)) dL_law_166 (pc' := 167) rfl (by decide) ?_
                                  refine yy_istore_n C (L' := [(3, .int (nI 7)), (4, .int (nI 3)), (2, .int (nI 0)), (1, .ref (ad 0)), (0, .ref (b))]) dL_law_167 (pc' := 168) rfl rfl (by decide) rfl ?_
                                  refine yy_iinc C (v := (nI 4)) (L' := [(4, .int (nI 4)), (3, .int (nI 7)), (2, .int (nI 0)), (1, .ref (ad 0)), (0, .ref (b))]) 1 dL_law_168 (pc' := 171) rfl rfl (by decide) (by decide) rfl ?_
                                  refine yy_goto C (tgt := 145) dL_law_171 (by decide) ?_
                                  refine yy_iload C 0 dL_law_145 (pc' := 147) rfl rfl ?_
                                  refine yy_bipush C (v := (nI 7)) dL_law_147 (pc' := 149) rfl (by decide) ?_
                                  refine yy_icmp_ge C dL_law_149 (pc' := 152) rfl (tgt := 174) (by decide) (fun c_149 => ?_) (fun c_149 => ?_)
                                  · skip
                                    exact absurd c_149 (by decide)
                                  · skip
                                    refine yy_iload_n C 1 dL_law_152 (pc' := 153) rfl rfl rfl ?_
                                    refine yy_aload_n C 3 dL_law_153 (pc' := 154) rfl rfl rfl ?_
                                    refine yy_iload C 0 dL_law_154 (pc' := 156) rfl rfl ?_
                                    refine yy_iconst C (v := (nI 2)) dL_law_156 (pc' := 157) rfl (by decide) ?_
                                    refine yy_irem C (v := nI 0) dL_law_157 (pc' := 158) rfl (by decide) (by decide) ?_
                                    refine yy_bipush C (v := (nI 10)) dL_law_158 (pc' := 160) rfl (by decide) ?_
                                    refine yy_iload C 0 dL_law_160 (pc' := 162) rfl rfl ?_
                                    refine yy_imul C (v := (nI 40)) dL_law_162 (pc' := 163) rfl (by decide) ?_
                                    refine yc_i (yr_SW C (As := [.ref (ad 0), .int (nI 0), .int (nI 40)]) (rest := [.int (nI 7)]) lk_L_134 cd_L_addLine st_L_addLine (mL_addLine l hl0 G B0 ad [] O6 (nI 0) (nI 40) rb6.1) ⟨by decide, by decide⟩ ⟨(show 117 + 1 ≤ 600104 by omega), (show 2102 + 6 ≤ 7301314 by omega)⟩ rfl rfl (Nat.le_of_ble_eq_true rfl) dL_law_163) (pc' := 166) rfl (fun r19 u16 hw19 => ?_)
                                    have hy7 := yes_of hw19 (by decide +kernel)
                                    obtain ⟨g7, ⟨_, hg7, hl7, hr7⟩, hu7⟩ := hy7
                                    obtain rfl : g7 = 0 := op_nin (by decide) (Nat.lt_trans (show g7 < 2 from hl7) (by decide)) hg7
                                    have hw7_ : u16 = O7 := hu7
                                    have rb7 : RB O7 := by
                                      have h9 := (ab_addLine rb6 hw19).1
                                      rw [hw7_] at h9
                                      exact h9
                                    refine yy_perm (w' := wA G ad O7 ++ []) (by rw [hw7_]) ?_
                                    refine yy_eqi (z' := nI 4) (hr7.trans (by decide +kernel)) ?_
                                    refine yy_widen (cs2 := 118) (ss2 := 2108) (show 117 + 1 ≤ 118 by omega) (show 2102 + 6 ≤ 2108 by omega) ?_
                                    refine yy_iadd C (v := (nI 11)) dL_law_166 (pc' := 167) rfl (by decide) ?_
                                    refine yy_istore_n C (L' := [(3, .int (nI 11)), (4, .int (nI 4)), (2, .int (nI 0)), (1, .ref (ad 0)), (0, .ref (b))]) dL_law_167 (pc' := 168) rfl rfl (by decide) rfl ?_
                                    refine yy_iinc C (v := (nI 5)) (L' := [(4, .int (nI 5)), (3, .int (nI 11)), (2, .int (nI 0)), (1, .ref (ad 0)), (0, .ref (b))]) 1 dL_law_168 (pc' := 171) rfl rfl (by decide) (by decide) rfl ?_
                                    refine yy_goto C (tgt := 145) dL_law_171 (by decide) ?_
                                    refine yy_iload C 0 dL_law_145 (pc' := 147) rfl rfl ?_
                                    refine yy_bipush C (v := (nI 7)) dL_law_147 (pc' := 149) rfl (by decide) ?_
                                    refine yy_icmp_ge C dL_law_149 (pc' := 152) rfl (tgt := 174) (by decide) (fun c_149 => ?_) (fun c_149 => ?_)
                                    · skip
                                      exact absurd c_149 (by decide)
                                    · skip
                                      refine yy_iload_n C 1 dL_law_152 (pc' := 153) rfl rfl rfl ?_
                                      refine yy_aload_n C 3 dL_law_153 (pc' := 154) rfl rfl rfl ?_
                                      refine yy_iload C 0 dL_law_154 (pc' := 156) rfl rfl ?_
                                      refine yy_iconst C (v := (nI 2)) dL_law_156 (pc' := 157) rfl (by decide) ?_
                                      refine yy_irem C (v := nI 1) dL_law_157 (pc' := 158) rfl (by decide) (by decide) ?_
                                      refine yy_bipush C (v := (nI 10)) dL_law_158 (pc' := 160) rfl (by decide) ?_
                                      refine yy_iload C 0 dL_law_160 (pc' := 162) rfl rfl ?_
                                      refine yy_imul C (v := (nI 50)) dL_law_162 (pc' := 163) rfl (by decide) ?_
                                      refine yc_i (yr_SW C (As := [.ref (ad 0), .int (nI 1), .int (nI 50)]) (rest := [.int (nI 11)]) lk_L_134 cd_L_addLine st_L_addLine (mL_addLine l hl0 G B0 ad [] O7 (nI 1) (nI 50) rb7.1) ⟨by decide, by decide⟩ ⟨(show 118 + 1 ≤ 600104 by omega), (show 2108 + 6 ≤ 7301314 by omega)⟩ rfl rfl (Nat.le_of_ble_eq_true rfl) dL_law_163) (pc' := 166) rfl (fun r20 u17 hw20 => ?_)
                                      have hy8 := yes_of hw20 (by decide +kernel)
                                      obtain ⟨g8, ⟨_, hg8, hl8, hr8⟩, hu8⟩ := hy8
                                      obtain rfl : g8 = 1 := op_nin (by decide) (Nat.lt_trans (show g8 < 2 from hl8) (by decide)) hg8
                                      have hw8_ : u17 = O8 := hu8
                                      have rb8 : RB O8 := by
                                        have h9 := (ab_addLine rb7 hw20).1
                                        rw [hw8_] at h9
                                        exact h9
                                      refine yy_perm (w' := wA G ad O8 ++ []) (by rw [hw8_]) ?_
                                      refine yy_eqi (z' := nI 5) (hr8.trans (by decide +kernel)) ?_
                                      refine yy_widen (cs2 := 119) (ss2 := 2114) (show 118 + 1 ≤ 119 by omega) (show 2108 + 6 ≤ 2114 by omega) ?_
                                      refine yy_iadd C (v := (nI 16)) dL_law_166 (pc' := 167) rfl (by decide) ?_
                                      refine yy_istore_n C (L' := [(3, .int (nI 16)), (4, .int (nI 5)), (2, .int (nI 0)), (1, .ref (ad 0)), (0, .ref (b))]) dL_law_167 (pc' := 168) rfl rfl (by decide) rfl ?_
                                      refine yy_iinc C (v := (nI 6)) (L' := [(4, .int (nI 6)), (3, .int (nI 16)), (2, .int (nI 0)), (1, .ref (ad 0)), (0, .ref (b))]) 1 dL_law_168 (pc' := 171) rfl rfl (by decide) (by decide) rfl ?_
                                      refine yy_goto C (tgt := 145) dL_law_171 (by decide) ?_
                                      refine yy_iload C 0 dL_law_145 (pc' := 147) rfl rfl ?_
                                      refine yy_bipush C (v := (nI 7)) dL_law_147 (pc' := 149) rfl (by decide) ?_
                                      refine yy_icmp_ge C dL_law_149 (pc' := 152) rfl (tgt := 174) (by decide) (fun c_149 => ?_) (fun c_149 => ?_)
                                      · skip
                                        exact absurd c_149 (by decide)
                                      · skip
                                        refine yy_iload_n C 1 dL_law_152 (pc' := 153) rfl rfl rfl ?_
                                        refine yy_aload_n C 3 dL_law_153 (pc' := 154) rfl rfl rfl ?_
                                        refine yy_iload C 0 dL_law_154 (pc' := 156) rfl rfl ?_
                                        refine yy_iconst C (v := (nI 2)) dL_law_156 (pc' := 157) rfl (by decide) ?_
                                        refine yy_irem C (v := nI 0) dL_law_157 (pc' := 158) rfl (by decide) (by decide) ?_
                                        refine yy_bipush C (v := (nI 10)) dL_law_158 (pc' := 160) rfl (by decide) ?_
                                        refine yy_iload C 0 dL_law_160 (pc' := 162) rfl rfl ?_
                                        refine yy_imul C (v := (nI 60)) dL_law_162 (pc' := 163) rfl (by decide) ?_
                                        refine yc_i (yr_SW C (As := [.ref (ad 0), .int (nI 0), .int (nI 60)]) (rest := [.int (nI 16)]) lk_L_134 cd_L_addLine st_L_addLine (mL_addLine l hl0 G B0 ad [] O8 (nI 0) (nI 60) rb8.1) ⟨by decide, by decide⟩ ⟨(show 119 + 1 ≤ 600104 by omega), (show 2114 + 6 ≤ 7301314 by omega)⟩ rfl rfl (Nat.le_of_ble_eq_true rfl) dL_law_163) (pc' := 166) rfl (fun r21 u18 hw21 => ?_)
                                        have hy9 := yes_of hw21 (by decide +kernel)
                                        obtain ⟨g9, ⟨_, hg9, hl9, hr9⟩, hu9⟩ := hy9
                                        obtain rfl : g9 = 0 := op_nin (by decide) (Nat.lt_trans (show g9 < 2 from hl9) (by decide)) hg9
                                        have hw9_ : u18 = O9 := hu9
                                        have rb9 : RB O9 := by
                                          have h9 := (ab_addLine rb8 hw21).1
                                          rw [hw9_] at h9
                                          exact h9
                                        refine yy_perm (w' := wA G ad O9 ++ []) (by rw [hw9_]) ?_
                                        refine yy_eqi (z' := nI 6) (hr9.trans (by decide +kernel)) ?_
                                        refine yy_widen (cs2 := 120) (ss2 := 2120) (show 119 + 1 ≤ 120 by omega) (show 2114 + 6 ≤ 2120 by omega) ?_
                                        refine yy_iadd C (v := (nI 22)) dL_law_166 (pc' := 167) rfl (by decide) ?_
                                        refine yy_istore_n C (L' := [(3, .int (nI 22)), (4, .int (nI 6)), (2, .int (nI 0)), (1, .ref (ad 0)), (0, .ref (b))]) dL_law_167 (pc' := 168) rfl rfl (by decide) rfl ?_
                                        refine yy_iinc C (v := (nI 7)) (L' := [(4, .int (nI 7)), (3, .int (nI 22)), (2, .int (nI 0)), (1, .ref (ad 0)), (0, .ref (b))]) 1 dL_law_168 (pc' := 171) rfl rfl (by decide) (by decide) rfl ?_
                                        refine yy_goto C (tgt := 145) dL_law_171 (by decide) ?_
                                        refine yy_iload C 0 dL_law_145 (pc' := 147) rfl rfl ?_
                                        refine yy_bipush C (v := (nI 7)) dL_law_147 (pc' := 149) rfl (by decide) ?_
                                        refine yy_icmp_ge C dL_law_149 (pc' := 152) rfl (tgt := 174) (by decide) (fun c_149 => ?_) (fun c_149 => ?_)
                                        · skip
                                          refine yy_iload_n C 1 dL_law_174 (pc' := 175) rfl rfl rfl ?_
                                          refine yy_aload_n C 3 dL_law_175 (pc' := 176) rfl rfl rfl ?_
                                          refine yy_iconst C (v := (nI 0)) dL_law_176 (pc' := 177) rfl (by decide) ?_
                                          refine yy_iconst C (v := (nI 2)) dL_law_177 (pc' := 178) rfl (by decide) ?_
                                          refine yy_iconst C (v := (nI 1)) dL_law_178 (pc' := 179) rfl (by decide) ?_
                                          refine yc_i (yr_SW C (As := [.ref (ad 0), .int (nI 0), .int (nI 2), .int (nI 1)]) (rest := [.int (nI 22)]) lk_L_151 cd_L_addJoin st_L_addJoin (mL_addJoin l hl0 G B0 ad [] O9 (nI 0) (nI 2) (nI 1) rb9.1) ⟨by decide, by decide⟩ ⟨(show 120 + 1 ≤ 600104 by omega), (show 2120 + 6 ≤ 7301314 by omega)⟩ rfl rfl (Nat.le_of_ble_eq_true rfl) dL_law_179) (pc' := 182) rfl (fun r22 u19 hw22 => ?_)
                                          have hy10 := yes_of hw22 (by decide +kernel)
                                          obtain ⟨⟨ga, gb, gc⟩, ⟨_, ⟨e1, e2, e3⟩, ⟨f1, f2, f3⟩, hr10⟩, hu10⟩ := hy10
                                          obtain rfl : ga = 0 := op_nin (by decide) (Nat.lt_trans (show ga < 7 from f1) (by decide)) e1
                                          obtain rfl : gb = 2 := op_nin (by decide) (Nat.lt_trans (show gb < 7 from f2) (by decide)) e2
                                          obtain rfl : gc = 1 := op_nin (by decide) (Nat.lt_trans (show gc < 7 from f3) (by decide)) e3
                                          have hw10_ : u19 = O10 := hu10
                                          have rb10 : RB O10 := by
                                            have h9 := (ab_addJoin rb9 hw22).1
                                            rw [hw10_] at h9
                                            exact h9
                                          refine yy_perm (w' := wA G ad O10 ++ []) (by rw [hw10_]) ?_
                                          refine yy_eqi (z' := nI 0) (hr10.trans (by decide +kernel)) ?_
                                          refine yy_widen (cs2 := 121) (ss2 := 2126) (show 120 + 1 ≤ 121 by omega) (show 2120 + 6 ≤ 2126 by omega) ?_
                                          refine yy_aload_n C 3 dL_law_182 (pc' := 183) rfl rfl rfl ?_
                                          refine yy_bipush C (v := (nI 10)) dL_law_183 (pc' := 185) rfl (by decide) ?_
                                          refine yy_bipush C (v := (nI 10)) dL_law_185 (pc' := 187) rfl (by decide) ?_
                                          refine yy_iconst C (v := (nI 4)) dL_law_187 (pc' := 188) rfl (by decide) ?_
                                          refine yc_i (yr_SW C (As := [.ref (ad 0), .int (nI 10), .int (nI 10), .int (nI 4)]) (rest := [.int (nI 0), .int (nI 22)]) lk_L_142 cd_L_addRule st_L_addRule (mL_addRule l hl0 G B0 ad [] O10 (nI 10) (nI 10) (nI 4) rb10.1) ⟨by decide, by decide⟩ ⟨(show 121 + 1 ≤ 600104 by omega), (show 2126 + 6 ≤ 7301314 by omega)⟩ rfl rfl (Nat.le_of_ble_eq_true rfl) dL_law_188) (pc' := 191) rfl (fun r23 u20 hw23 => ?_)
                                          have hy11 := yes_of hw23 (by decide +kernel)
                                          obtain ⟨⟨_, hr11⟩, hu11⟩ := hy11
                                          have hw11_ : u20 = O11 := hu11
                                          have rb11 : RB O11 := by
                                            have h9 := (ab_addRule rb10 hw23).1
                                            rw [hw11_] at h9
                                            exact h9
                                          refine yy_perm (w' := wA G ad O11 ++ []) (by rw [hw11_]) ?_
                                          refine yy_eqi (z' := nI 0) (hr11.trans (by decide +kernel)) ?_
                                          refine yy_widen (cs2 := 122) (ss2 := 2132) (show 121 + 1 ≤ 122 by omega) (show 2126 + 6 ≤ 2132 by omega) ?_
                                          refine yy_iadd C (v := (nI 0)) dL_law_191 (pc' := 192) rfl (by decide) ?_
                                          refine yy_aload_n C 3 dL_law_192 (pc' := 193) rfl rfl rfl ?_
                                          refine yy_iconst C (v := (nI 0)) dL_law_193 (pc' := 194) rfl (by decide) ?_
                                          refine yy_iconst C (v := (nI 0)) dL_law_194 (pc' := 195) rfl (by decide) ?_
                                          refine yc_i (yr_SW C (As := [.ref (ad 0), .int (nI 0), .int (nI 0)]) (rest := [.int (nI 0), .int (nI 22)]) lk_L_153 cd_L_request st_L_request (mL_request l hl0 G B0 ad [] O11 (nI 0) (nI 0) rb11.1) ⟨by decide, by decide⟩ ⟨(show 122 + 1 ≤ 600104 by omega), (show 2132 + 6 ≤ 7301314 by omega)⟩ rfl rfl (Nat.le_of_ble_eq_true rfl) dL_law_195) (pc' := 198) rfl (fun r24 u21 hw24 => ?_)
                                          have hy12 := yes_of hw24 (by decide +kernel)
                                          obtain ⟨⟨_, hr12⟩, hu12⟩ := hy12
                                          have hw12_ : u21 = O12 := hu12
                                          have rb12 : RB O12 := by
                                            have h9 := (ab_request rb11 hw24).1
                                            rw [hw12_] at h9
                                            exact h9
                                          refine yy_perm (w' := wA G ad O12 ++ []) (by rw [hw12_]) ?_
                                          refine yy_eqi (z' := nI 0) (hr12.trans (by decide +kernel)) ?_
                                          refine yy_widen (cs2 := 123) (ss2 := 2138) (show 122 + 1 ≤ 123 by omega) (show 2132 + 6 ≤ 2138 by omega) ?_
                                          refine yy_iadd C (v := (nI 0)) dL_law_198 (pc' := 199) rfl (by decide) ?_
                                          refine yy_iadd C (v := (nI 22)) dL_law_199 (pc' := 200) rfl (by decide) ?_
                                          refine yy_istore_n C (L' := [(3, .int (nI 22)), (4, .int (nI 7)), (2, .int (nI 0)), (1, .ref (ad 0)), (0, .ref (b))]) dL_law_200 (pc' := 201) rfl rfl (by decide) rfl ?_
                                          refine yy_iload_n C 0 dL_law_201 (pc' := 202) rfl rfl rfl ?_
                                          refine yy_bipush C (v := (nI 22)) dL_law_202 (pc' := 204) rfl (by decide) ?_
                                          refine yy_icmp_ne C dL_law_204 (pc' := 207) rfl (tgt := 374) (by decide) (fun c_204 => ?_) (fun c_204 => ?_)
                                          · skip
                                            exact absurd c_204 (by decide)
                                          · skip
                                            refine yy_aload_n C 3 dL_law_207 (pc' := 208) rfl rfl rfl ?_
                                            refine yy_iconst C (v := (nI 1)) dL_law_208 (pc' := 209) rfl (by decide) ?_
                                            refine yc_i (yr_SW C (As := [.ref (ad 0), .int (nI 1)]) (rest := []) lk_L_204 cd_L_isHidden st_L_isHidden (mL_isHidden l hl0 G B0 ad [] O12 (nI 1) rb12.1) ⟨by decide, by decide⟩ ⟨(show 123 + 1 ≤ 600104 by omega), (show 2138 + 6 ≤ 7301314 by omega)⟩ rfl rfl (Nat.le_of_ble_eq_true rfl) dL_law_209) (pc' := 212) rfl (fun r25 _ hw25 => ?_)
                                            obtain rfl : r25 = (nI 1) := hw25.trans (by decide +kernel)
                                            refine yy_widen (cs2 := 124) (ss2 := 2144) (show 123 + 1 ≤ 124 by omega) (show 2138 + 6 ≤ 2144 by omega) ?_
                                            refine yy_iconst C (v := (nI 1)) dL_law_212 (pc' := 213) rfl (by decide) ?_
                                            refine yy_icmp_ne C dL_law_213 (pc' := 216) rfl (tgt := 374) (by decide) (fun c_213 => ?_) (fun c_213 => ?_)
                                            · skip
                                              exact absurd c_213 (by decide)
                                            · skip
                                              refine yy_aload_n C 3 dL_law_216 (pc' := 217) rfl rfl rfl ?_
                                              refine yy_iconst C (v := (nI 0)) dL_law_217 (pc' := 218) rfl (by decide) ?_
                                              refine yy_iconst C (v := (nI 1)) dL_law_218 (pc' := 219) rfl (by decide) ?_
                                              refine yc_i (yr_SW C (As := [.ref (ad 0), .int (nI 0), .int (nI 1)]) (rest := []) lk_L_212 cd_L_why st_L_why (mL_why l hl0 G B0 ad [] O12 (nI 0) (nI 1) rb12.1) ⟨by decide, by decide⟩ ⟨(show 124 + 1 ≤ 600104 by omega), (show 2144 + 6 ≤ 7301314 by omega)⟩ rfl rfl (Nat.le_of_ble_eq_true rfl) dL_law_219) (pc' := 222) rfl (fun r26 _ hw26 => ?_)
                                              obtain rfl : r26 = (nI 114) := hw26.trans (by decide +kernel)
                                              refine yy_widen (cs2 := 125) (ss2 := 2150) (show 124 + 1 ≤ 125 by omega) (show 2144 + 6 ≤ 2150 by omega) ?_
                                              refine yy_bipush C (v := (nI 114)) dL_law_222 (pc' := 224) rfl (by decide) ?_
                                              refine yy_icmp_ne C dL_law_224 (pc' := 227) rfl (tgt := 374) (by decide) (fun c_224 => ?_) (fun c_224 => ?_)
                                              · skip
                                                exact absurd c_224 (by decide)
                                              · skip
                                                refine yy_aload_n C 3 dL_law_227 (pc' := 228) rfl rfl rfl ?_
                                                refine yy_iconst C (v := (nI 0)) dL_law_228 (pc' := 229) rfl (by decide) ?_
                                                refine yy_iconst C (v := (nI 0)) dL_law_229 (pc' := 230) rfl (by decide) ?_
                                                refine yc_i (yr_SW C (As := [.ref (ad 0), .int (nI 0), .int (nI 0)]) (rest := []) lk_L_212 cd_L_why st_L_why (mL_why l hl0 G B0 ad [] O12 (nI 0) (nI 0) rb12.1) ⟨by decide, by decide⟩ ⟨(show 125 + 1 ≤ 600104 by omega), (show 2150 + 6 ≤ 7301314 by omega)⟩ rfl rfl (Nat.le_of_ble_eq_true rfl) dL_law_230) (pc' := 233) rfl (fun r27 _ hw27 => ?_)
                                                obtain rfl : r27 = (nI 45) := hw27.trans (by decide +kernel)
                                                refine yy_widen (cs2 := 126) (ss2 := 2156) (show 125 + 1 ≤ 126 by omega) (show 2150 + 6 ≤ 2156 by omega) ?_
                                                refine yy_bipush C (v := (nI 45)) dL_law_233 (pc' := 235) rfl (by decide) ?_
                                                refine yy_icmp_ne C dL_law_235 (pc' := 238) rfl (tgt := 374) (by decide) (fun c_235 => ?_) (fun c_235 => ?_)
                                                · skip
                                                  exact absurd c_235 (by decide)
                                                · skip
                                                  refine yy_aload_n C 3 dL_law_238 (pc' := 239) rfl rfl rfl ?_
                                                  refine yy_iconst C (v := (nI 0)) dL_law_239 (pc' := 240) rfl (by decide) ?_
                                                  refine yc_i (yr_SW C (As := [.ref (ad 0), .int (nI 0)]) (rest := []) lk_L_155 cd_L_answer st_L_answer (mL_answer l hl0 G B0 ad [] O12 (nI 0) rb12.1 rb12.2.1) ⟨by decide, by decide⟩ ⟨(show 126 + 1 ≤ 600104 by omega), (show 2156 + 6 ≤ 7301314 by omega)⟩ rfl rfl (Nat.le_of_ble_eq_true rfl) dL_law_240) (pc' := 243) rfl (fun r28 u22 hw28 => ?_)
                                                  have hy13 := yes_of hw28 (by decide +kernel)
                                                  obtain ⟨g13, ⟨_, hg13, hl13, hr13⟩, hu13⟩ := hy13
                                                  obtain rfl : g13 = 0 := op_nin (by decide) (Nat.lt_trans (show g13 < 1 from hl13) (by decide)) hg13
                                                  have hv13 : u22 = O13 := hu13.trans gv_O13.1
                                                  have hw13_ : u22 = O13 := hv13
                                                  have rb13 : RB O13 := by
                                                    have h9 := (ab_answer rb12 hw28).1
                                                    rw [hw13_] at h9
                                                    exact h9
                                                  refine yy_perm (w' := wA G ad O13 ++ []) (by rw [hw13_]) ?_
                                                  refine yy_eqi (z' := nI 3) (hr13.trans (congrArg nI gv_O13.2)) ?_
                                                  refine yy_widen (cs2 := 127) (ss2 := 2162) (show 126 + 1 ≤ 127 by omega) (show 2156 + 6 ≤ 2162 by omega) ?_
                                                  refine yy_iconst C (v := (nI 3)) dL_law_243 (pc' := 244) rfl (by decide) ?_
                                                  refine yy_icmp_ne C dL_law_244 (pc' := 247) rfl (tgt := 374) (by decide) (fun c_244 => ?_) (fun c_244 => ?_)
                                                  · skip
                                                    exact absurd c_244 (by decide)
                                                  · skip
                                                    refine yy_aload_n C 3 dL_law_247 (pc' := 248) rfl rfl rfl ?_
                                                    refine yy_iconst C (v := (nI 0)) dL_law_248 (pc' := 249) rfl (by decide) ?_
                                                    refine yy_iconst C (v := (nI 0)) dL_law_249 (pc' := 250) rfl (by decide) ?_
                                                    refine yc_i (yr_SW C (As := [.ref (ad 0), .int (nI 0), .int (nI 0)]) (rest := []) lk_L_218 cd_L_holds st_L_holds (mL_holds l hl0 G B0 ad [] O13 (nI 0) (nI 0) rb13.1) ⟨by decide, by decide⟩ ⟨(show 127 + 1 ≤ 600104 by omega), (show 2162 + 6 ≤ 7301314 by omega)⟩ rfl rfl (Nat.le_of_ble_eq_true rfl) dL_law_250) (pc' := 253) rfl (fun r29 _ hw29 => ?_)
                                                    obtain rfl : r29 = (nI 1) := hw29.trans (by decide +kernel)
                                                    refine yy_widen (cs2 := 128) (ss2 := 2168) (show 127 + 1 ≤ 128 by omega) (show 2162 + 6 ≤ 2168 by omega) ?_
                                                    refine yy_iconst C (v := (nI 1)) dL_law_253 (pc' := 254) rfl (by decide) ?_
                                                    refine yy_icmp_ne C dL_law_254 (pc' := 257) rfl (tgt := 374) (by decide) (fun c_254 => ?_) (fun c_254 => ?_)
                                                    · skip
                                                      exact absurd c_254 (by decide)
                                                    · skip
                                                      refine yy_aload_n C 3 dL_law_257 (pc' := 258) rfl rfl rfl ?_
                                                      refine yy_iconst C (v := (nI 0)) dL_law_258 (pc' := 259) rfl (by decide) ?_
                                                      refine yy_iconst C (v := (nI 2)) dL_law_259 (pc' := 260) rfl (by decide) ?_
                                                      refine yc_i (yr_SW C (As := [.ref (ad 0), .int (nI 0), .int (nI 2)]) (rest := []) lk_L_218 cd_L_holds st_L_holds (mL_holds l hl0 G B0 ad [] O13 (nI 0) (nI 2) rb13.1) ⟨by decide, by decide⟩ ⟨(show 128 + 1 ≤ 600104 by omega), (show 2168 + 6 ≤ 7301314 by omega)⟩ rfl rfl (Nat.le_of_ble_eq_true rfl) dL_law_260) (pc' := 263) rfl (fun r30 _ hw30 => ?_)
                                                      obtain rfl : r30 = (nI 0) := hw30.trans (by decide +kernel)
                                                      refine yy_widen (cs2 := 129) (ss2 := 2174) (show 128 + 1 ≤ 129 by omega) (show 2168 + 6 ≤ 2174 by omega) ?_
                                                      refine yy_if_ne C dL_law_263 (pc' := 266) rfl (tgt := 374) (by decide) (fun c_263 => ?_) (fun c_263 => ?_)
                                                      · skip
                                                        exact absurd c_263 (by decide)
                                                      · skip
                                                        refine yy_aload_n C 3 dL_law_266 (pc' := 267) rfl rfl rfl ?_
                                                        refine yy_iconst C (v := (nI 0)) dL_law_267 (pc' := 268) rfl (by decide) ?_
                                                        refine yy_iconst C (v := (nI 2)) dL_law_268 (pc' := 269) rfl (by decide) ?_
                                                        refine yc_i (yr_SW C (As := [.ref (ad 0), .int (nI 0), .int (nI 2)]) (rest := []) lk_L_212 cd_L_why st_L_why (mL_why l hl0 G B0 ad [] O13 (nI 0) (nI 2) rb13.1) ⟨by decide, by decide⟩ ⟨(show 129 + 1 ≤ 600104 by omega), (show 2174 + 6 ≤ 7301314 by omega)⟩ rfl rfl (Nat.le_of_ble_eq_true rfl) dL_law_269) (pc' := 272) rfl (fun r31 _ hw31 => ?_)
                                                        obtain rfl : r31 = (nI 106) := hw31.trans (by decide +kernel)
                                                        refine yy_widen (cs2 := 130) (ss2 := 2180) (show 129 + 1 ≤ 130 by omega) (show 2174 + 6 ≤ 2180 by omega) ?_
                                                        refine yy_bipush C (v := (nI 106)) dL_law_272 (pc' := 274) rfl (by decide) ?_
                                                        refine yy_icmp_ne C dL_law_274 (pc' := 277) rfl (tgt := 374) (by decide) (fun c_274 => ?_) (fun c_274 => ?_)
                                                        · skip
                                                          exact absurd c_274 (by decide)
                                                        · skip
                                                          refine yy_aload_n C 3 dL_law_277 (pc' := 278) rfl rfl rfl ?_
                                                          refine yy_iconst C (v := (nI 0)) dL_law_278 (pc' := 279) rfl (by decide) ?_
                                                          refine yy_iconst C (v := (nI 2)) dL_law_279 (pc' := 280) rfl (by decide) ?_
                                                          refine yc_i (yr_SW C (As := [.ref (ad 0), .int (nI 0), .int (nI 2)]) (rest := []) lk_L_220 cd_L_root st_L_root (mL_root l hl0 G B0 ad [] O13 (nI 0) (nI 2) rb13.1) ⟨by decide, by decide⟩ ⟨(show 130 + 1 ≤ 600104 by omega), (show 2180 + 6 ≤ 7301314 by omega)⟩ rfl rfl (Nat.le_of_ble_eq_true rfl) dL_law_280) (pc' := 283) rfl (fun r32 _ hw32 => ?_)
                                                          obtain rfl : r32 = (nI 114) := hw32.trans (by decide +kernel)
                                                          refine yy_widen (cs2 := 131) (ss2 := 2186) (show 130 + 1 ≤ 131 by omega) (show 2180 + 6 ≤ 2186 by omega) ?_
                                                          refine yy_bipush C (v := (nI 114)) dL_law_283 (pc' := 285) rfl (by decide) ?_
                                                          refine yy_icmp_ne C dL_law_285 (pc' := 288) rfl (tgt := 374) (by decide) (fun c_285 => ?_) (fun c_285 => ?_)
                                                          · skip
                                                            exact absurd c_285 (by decide)
                                                          · skip
                                                            refine yy_aload_n C 3 dL_law_288 (pc' := 289) rfl rfl rfl ?_
                                                            refine yy_iconst C (v := (nI 0)) dL_law_289 (pc' := 290) rfl (by decide) ?_
                                                            refine yy_iconst C (v := (nI 2)) dL_law_290 (pc' := 291) rfl (by decide) ?_
                                                            refine yc_i (yr_SW C (As := [.ref (ad 0), .int (nI 0), .int (nI 2)]) (rest := []) lk_L_222 cd_L_causes st_L_causes (mL_causes l hl0 G B0 ad [] O13 (nI 0) (nI 2) rb13.1) ⟨by decide, by decide⟩ ⟨(show 131 + 1 ≤ 600104 by omega), (show 2186 + 6 ≤ 7301314 by omega)⟩ rfl rfl (Nat.le_of_ble_eq_true rfl) dL_law_291) (pc' := 294) rfl (fun r33 _ hw33 => ?_)
                                                            obtain rfl : r33 = (nI 2) := hw33.trans (by decide +kernel)
                                                            refine yy_widen (cs2 := 132) (ss2 := 2192) (show 131 + 1 ≤ 132 by omega) (show 2186 + 6 ≤ 2192 by omega) ?_
                                                            refine yy_iconst C (v := (nI 2)) dL_law_294 (pc' := 295) rfl (by decide) ?_
                                                            refine yy_icmp_ne C dL_law_295 (pc' := 298) rfl (tgt := 374) (by decide) (fun c_295 => ?_) (fun c_295 => ?_)
                                                            · skip
                                                              exact absurd c_295 (by decide)
                                                            · skip
                                                              refine yy_aload_n C 3 dL_law_298 (pc' := 299) rfl rfl rfl ?_
                                                              refine yy_iconst C (v := (nI 0)) dL_law_299 (pc' := 300) rfl (by decide) ?_
                                                              refine yc_i (yr_SW C (As := [.ref (ad 0), .int (nI 0)]) (rest := []) lk_L_198 cd_L_owed st_L_owed (mL_owed l hl0 G B0 ad [] O13 (nI 0) rb13.1) ⟨by decide, by decide⟩ ⟨(show 132 + 1 ≤ 600104 by omega), (show 2192 + 6 ≤ 7301314 by omega)⟩ rfl rfl (Nat.le_of_ble_eq_true rfl) dL_law_300) (pc' := 303) rfl (fun r34 _ hw34 => ?_)
                                                              obtain rfl : r34 = (nI 15) := hw34.trans (by decide +kernel)
                                                              refine yy_widen (cs2 := 133) (ss2 := 2198) (show 132 + 1 ≤ 133 by omega) (show 2192 + 6 ≤ 2198 by omega) ?_
                                                              refine yy_bipush C (v := (nI 15)) dL_law_303 (pc' := 305) rfl (by decide) ?_
                                                              refine yy_icmp_ne C dL_law_305 (pc' := 308) rfl (tgt := 374) (by decide) (fun c_305 => ?_) (fun c_305 => ?_)
                                                              · skip
                                                                exact absurd c_305 (by decide)
                                                              · skip
                                                                refine yy_aload_n C 3 dL_law_308 (pc' := 309) rfl rfl rfl ?_
                                                                refine yy_iconst C (v := (nI 5)) dL_law_309 (pc' := 310) rfl (by decide) ?_
                                                                refine yc_i (yr_SW C (As := [.ref (ad 0), .int (nI 5)]) (rest := []) lk_L_163 cd_L_pass st_L_pass (mL_pass l hl0 G B0 ad [] O13 (nI 5) rb13.1) ⟨by decide, by decide⟩ ⟨(show 133 + 1 ≤ 600104 by omega), (show 2198 + 6 ≤ 7301314 by omega)⟩ rfl rfl (Nat.le_of_ble_eq_true rfl) dL_law_310) (pc' := 313) rfl (fun r35 u23 hw35 => ?_)
                                                                have hy14 := yes_of hw35 (by decide +kernel)
                                                                obtain ⟨g14, ⟨_, hg14, ⟨_, hl14, _⟩, hr14⟩, hu14⟩ := hy14
                                                                obtain rfl : g14 = 5 := op_nin (by decide) (Nat.lt_of_le_of_lt hl14 (by decide)) hg14
                                                                have hw14_ : u23 = O14 := hu14
                                                                have rb14 : RB O14 := by
                                                                  have h9 := (ab_pass rb13 hw35).1
                                                                  rw [hw14_] at h9
                                                                  exact h9
                                                                refine yy_perm (w' := wA G ad O14 ++ []) (by rw [hw14_]) ?_
                                                                refine yy_eqi (z' := nI 0) (hr14.trans (by decide +kernel)) ?_
                                                                refine yy_widen (cs2 := 134) (ss2 := 2204) (show 133 + 1 ≤ 134 by omega) (show 2198 + 6 ≤ 2204 by omega) ?_
                                                                refine yy_if_ne C dL_law_313 (pc' := 316) rfl (tgt := 374) (by decide) (fun c_313 => ?_) (fun c_313 => ?_)
                                                                · skip
                                                                  exact absurd c_313 (by decide)
                                                                · skip
                                                                  refine yy_aload_n C 3 dL_law_316 (pc' := 317) rfl rfl rfl ?_
                                                                  refine yy_iconst C (v := (nI 0)) dL_law_317 (pc' := 318) rfl (by decide) ?_
                                                                  refine yy_iconst C (v := (nI 2)) dL_law_318 (pc' := 319) rfl (by decide) ?_
                                                                  refine yc_i (yr_SW C (As := [.ref (ad 0), .int (nI 0), .int (nI 2)]) (rest := []) lk_L_212 cd_L_why st_L_why (mL_why l hl0 G B0 ad [] O14 (nI 0) (nI 2) rb14.1) ⟨by decide, by decide⟩ ⟨(show 134 + 1 ≤ 600104 by omega), (show 2204 + 6 ≤ 7301314 by omega)⟩ rfl rfl (Nat.le_of_ble_eq_true rfl) dL_law_319) (pc' := 322) rfl (fun r36 _ hw36 => ?_)
                                                                  obtain rfl : r36 = (nI 45) := hw36.trans (by decide +kernel)
                                                                  refine yy_widen (cs2 := 135) (ss2 := 2210) (show 134 + 1 ≤ 135 by omega) (show 2204 + 6 ≤ 2210 by omega) ?_
                                                                  refine yy_bipush C (v := (nI 45)) dL_law_322 (pc' := 324) rfl (by decide) ?_
                                                                  refine yy_icmp_ne C dL_law_324 (pc' := 327) rfl (tgt := 374) (by decide) (fun c_324 => ?_) (fun c_324 => ?_)
                                                                  · skip
                                                                    exact absurd c_324 (by decide)
                                                                  · skip
                                                                    refine yy_aload_n C 3 dL_law_327 (pc' := 328) rfl rfl rfl ?_
                                                                    refine yy_iconst C (v := (nI 0)) dL_law_328 (pc' := 329) rfl (by decide) ?_
                                                                    refine yy_iconst C (v := (nI 0)) dL_law_329 (pc' := 330) rfl (by decide) ?_
                                                                    refine yc_i (yr_SW C (As := [.ref (ad 0), .int (nI 0), .int (nI 0)]) (rest := []) lk_L_153 cd_L_request st_L_request (mL_request l hl0 G B0 ad [] O14 (nI 0) (nI 0) rb14.1) ⟨by decide, by decide⟩ ⟨(show 135 + 1 ≤ 600104 by omega), (show 2210 + 6 ≤ 7301314 by omega)⟩ rfl rfl (Nat.le_of_ble_eq_true rfl) dL_law_330) (pc' := 333) rfl (fun r37 u24 hw37 => ?_)
                                                                    have hy15 := yes_of hw37 (by decide +kernel)
                                                                    obtain ⟨⟨_, hr15⟩, hu15⟩ := hy15
                                                                    have hw15_ : u24 = O15 := hu15
                                                                    have rb15 : RB O15 := by
                                                                      have h9 := (ab_request rb14 hw37).1
                                                                      rw [hw15_] at h9
                                                                      exact h9
                                                                    refine yy_perm (w' := wA G ad O15 ++ []) (by rw [hw15_]) ?_
                                                                    refine yy_eqi (z' := nI 1) (hr15.trans (by decide +kernel)) ?_
                                                                    refine yy_widen (cs2 := 136) (ss2 := 2216) (show 135 + 1 ≤ 136 by omega) (show 2210 + 6 ≤ 2216 by omega) ?_
                                                                    refine yy_iconst C (v := (nI 1)) dL_law_333 (pc' := 334) rfl (by decide) ?_
                                                                    refine yy_icmp_ne C dL_law_334 (pc' := 337) rfl (tgt := 374) (by decide) (fun c_334 => ?_) (fun c_334 => ?_)
                                                                    · skip
                                                                      exact absurd c_334 (by decide)
                                                                    · skip
                                                                      refine yy_aload_n C 3 dL_law_337 (pc' := 338) rfl rfl rfl ?_
                                                                      refine yy_iconst C (v := (nI 1)) dL_law_338 (pc' := 339) rfl (by decide) ?_
                                                                      refine yc_i (yr_SW C (As := [.ref (ad 0), .int (nI 1)]) (rest := []) lk_L_155 cd_L_answer st_L_answer (mL_answer l hl0 G B0 ad [] O15 (nI 1) rb15.1 rb15.2.1) ⟨by decide, by decide⟩ ⟨(show 136 + 1 ≤ 600104 by omega), (show 2216 + 6 ≤ 7301314 by omega)⟩ rfl rfl (Nat.le_of_ble_eq_true rfl) dL_law_339) (pc' := 342) rfl (fun r38 u25 hw38 => ?_)
                                                                      have hy16 := yes_of hw38 (by decide +kernel)
                                                                      obtain ⟨g16, ⟨_, hg16, hl16, hr16⟩, hu16⟩ := hy16
                                                                      obtain rfl : g16 = 1 := op_nin (by decide) (Nat.lt_trans (show g16 < 2 from hl16) (by decide)) hg16
                                                                      have hv16 : u25 = O16 := hu16.trans gv_O16.1
                                                                      have hw16_ : u25 = O16 := hv16
                                                                      have rb16 : RB O16 := by
                                                                        have h9 := (ab_answer rb15 hw38).1
                                                                        rw [hw16_] at h9
                                                                        exact h9
                                                                      refine yy_perm (w' := wA G ad O16 ++ []) (by rw [hw16_]) ?_
                                                                      refine yy_eqi (z' := nI 1) (hr16.trans (congrArg nI gv_O16.2)) ?_
                                                                      refine yy_widen (cs2 := 137) (ss2 := 2222) (show 136 + 1 ≤ 137 by omega) (show 2216 + 6 ≤ 2222 by omega) ?_
                                                                      refine yy_iconst C (v := (nI 1)) dL_law_342 (pc' := 343) rfl (by decide) ?_
                                                                      refine yy_icmp_ne C dL_law_343 (pc' := 346) rfl (tgt := 374) (by decide) (fun c_343 => ?_) (fun c_343 => ?_)
                                                                      · skip
                                                                        exact absurd c_343 (by decide)
                                                                      · skip
                                                                        refine yy_aload_n C 3 dL_law_346 (pc' := 347) rfl rfl rfl ?_
                                                                        refine yy_iconst C (v := (nI 0)) dL_law_347 (pc' := 348) rfl (by decide) ?_
                                                                        refine yy_iconst C (v := (nI 1)) dL_law_348 (pc' := 349) rfl (by decide) ?_
                                                                        refine yc_i (yr_SW C (As := [.ref (ad 0), .int (nI 0), .int (nI 1)]) (rest := []) lk_L_218 cd_L_holds st_L_holds (mL_holds l hl0 G B0 ad [] O16 (nI 0) (nI 1) rb16.1) ⟨by decide, by decide⟩ ⟨(show 137 + 1 ≤ 600104 by omega), (show 2222 + 6 ≤ 7301314 by omega)⟩ rfl rfl (Nat.le_of_ble_eq_true rfl) dL_law_349) (pc' := 352) rfl (fun r39 _ hw39 => ?_)
                                                                        obtain rfl : r39 = (nI 1) := hw39.trans (by decide +kernel)
                                                                        refine yy_widen (cs2 := 138) (ss2 := 2228) (show 137 + 1 ≤ 138 by omega) (show 2222 + 6 ≤ 2228 by omega) ?_
                                                                        refine yy_iconst C (v := (nI 1)) dL_law_352 (pc' := 353) rfl (by decide) ?_
                                                                        refine yy_icmp_ne C dL_law_353 (pc' := 356) rfl (tgt := 374) (by decide) (fun c_353 => ?_) (fun c_353 => ?_)
                                                                        · skip
                                                                          exact absurd c_353 (by decide)
                                                                        · skip
                                                                          refine yy_aload_n C 3 dL_law_356 (pc' := 357) rfl rfl rfl ?_
                                                                          refine yy_iconst C (v := (nI 0)) dL_law_357 (pc' := 358) rfl (by decide) ?_
                                                                          refine yc_i (yr_SW C (As := [.ref (ad 0), .int (nI 0)]) (rest := []) lk_L_196 cd_L_given st_L_given (mL_given l hl0 G B0 ad [] O16 (nI 0) rb16.1) ⟨by decide, by decide⟩ ⟨(show 138 + 1 ≤ 600104 by omega), (show 2228 + 6 ≤ 7301314 by omega)⟩ rfl rfl (Nat.le_of_ble_eq_true rfl) dL_law_358) (pc' := 361) rfl (fun r40 _ hw40 => ?_)
                                                                          obtain rfl : r40 = (nI 4) := hw40.trans (by decide +kernel)
                                                                          refine yy_widen (cs2 := 139) (ss2 := 2234) (show 138 + 1 ≤ 139 by omega) (show 2228 + 6 ≤ 2234 by omega) ?_
                                                                          refine yy_iconst C (v := (nI 4)) dL_law_361 (pc' := 362) rfl (by decide) ?_
                                                                          refine yy_icmp_ne C dL_law_362 (pc' := 365) rfl (tgt := 374) (by decide) (fun c_362 => ?_) (fun c_362 => ?_)
                                                                          · skip
                                                                            exact absurd c_362 (by decide)
                                                                          · skip
                                                                            refine yy_aload_n C 3 dL_law_365 (pc' := 366) rfl rfl rfl ?_
                                                                            refine yy_iconst C (v := (nI 0)) dL_law_366 (pc' := 367) rfl (by decide) ?_
                                                                            refine yc_i (yr_SW C (As := [.ref (ad 0), .int (nI 0)]) (rest := []) lk_L_194 cd_L_held st_L_held (mL_held l hl0 G B0 ad [] O16 (nI 0) rb16.1) ⟨by decide, by decide⟩ ⟨(show 139 + 1 ≤ 600104 by omega), (show 2234 + 6 ≤ 7301314 by omega)⟩ rfl rfl (Nat.le_of_ble_eq_true rfl) dL_law_367) (pc' := 370) rfl (fun r41 _ hw41 => ?_)
                                                                            obtain rfl : r41 = (nI 5) := hw41.trans (by decide +kernel)
                                                                            refine yy_widen (cs2 := 140) (ss2 := 2240) (show 139 + 1 ≤ 140 by omega) (show 2234 + 6 ≤ 2240 by omega) ?_
                                                                            refine yy_iconst C (v := (nI 5)) dL_law_370 (pc' := 371) rfl (by decide) ?_
                                                                            refine yy_icmp_eq C dL_law_371 (pc' := 374) rfl (tgt := 376) (by decide) (fun c_371 => ?_) (fun c_371 => ?_)
                                                                            · skip
                                                                              refine yy_iconst C (v := (nI 0)) dL_law_376 (pc' := 377) rfl (by decide) ?_
                                                                              refine yy_istore C (L' := [(4, .int (nI 0)), (3, .int (nI 22)), (2, .int (nI 0)), (1, .ref (ad 0)), (0, .ref (b))]) dL_law_377 (pc' := 379) rfl (by decide) rfl ?_
                                                                              refine yy_loc (L' := [(4, .int (nI 0)), (2, .int (nI 0)), (0, .ref (b)), (1, .ref (ad 0))]) [0, 2, 4, 3] rfl ?_
                                                                              refine yy_widen (cs2 := 300) (ss2 := 10000) (by decide) (by decide) ?_
                                                                              exact law_loop l hl0 C hX hbl hbB hL31 ad K O16 ⟨rb16, by decide +kernel, by decide +kernel⟩
                                                                            · skip
                                                                              exact absurd c_371 (by decide)
                                        · skip
                                          exact absurd c_149 (by decide)
                        · skip
                          exact absurd c_127 (by decide)
