abbrev rL_answered : Room := { frames := 9, cells := 606, slots := 3830, locals := 182 }
set_option maxHeartbeats 4000000 in
set_option maxRecDepth 100000 in
theorem mL_answered (l : Launch) (hl0 : l.stackTraces = false) (G : gG) (B0 : Nat) (ad : Nat → Nat) (F : va_W) (S : SA) (x_ : Int32) (hR : RI S) : Met l yL_answered (Cond.code yL_answered cL_answered 13 (some .boolean) :: WG) rL_answered (va_Pc [.ref (ad 0), .int x_, .int (nI (S.1 1))] (PR G B0 (wA G ad S ++ F))) (va_Qi (fun (r : Int32) (u : SA) => r = nI 1 ∧ RI u ∧ u.1 1 = S.1 1) (fun (u : SA) (t_ : State) => va_P G.1 vwCl (wA G ad u ++ F) t_.heap ∧ va_D (fun q => B0 ≤ q) (wA G ad u ++ F)) (fun q => B0 ≤ q)) rL_answered.cells rL_answered.slots (fun q => B0 ≤ q) := by
  refine met_of RL [(0, .ref (ad 0)), (1, .int x_), (2, .int (nI (S.1 1)))] rfl (by decide) (Nat.le_of_ble_eq_true rfl) rfl ?_
  intro p e s m args below meth c C hr hnm
  refine yq ?_
  intro QQ hQ
  have hL_ := hR.1.1.2.1
  have hF_ := hR.1.2.2.2.2.2.2.2
  have hF2_ := hR.1.1.2.2.2.2.2.1
  rcases an_cases hR.1 x_ with ⟨q1_, q2_⟩ | ⟨q1_, q2_⟩ | ⟨q1_, q2_⟩ | ⟨g_, hg, rfl, q1_, hs⟩
  · skip
    refine yy_aload_n C 0 dL_answered_0 (pc' := 1) rfl rfl rfl ?_
    refine yy_iload_n C 1 dL_answered_1 (pc' := 2) rfl rfl rfl ?_
    refine yc_i (yr_SW C (As := [.ref (ad 0), .int x_]) (rest := []) lk_L_202 cd_L_state st_L_state (mL_state l hl0 G B0 ad F S x_ hR.1.1 hR.1.nar) ⟨by decide, by decide⟩ ⟨(show 0 + 1 ≤ 606 by omega), (show 0 + 6 ≤ 3830 by omega)⟩ rfl rfl (Nat.le_of_ble_eq_true rfl) dL_answered_2) (pc' := 5) rfl (fun r1 _ hw1 => ?_)
    obtain rfl : r1 = (-1) := hw1.trans q1_
    refine yy_widen (cs2 := 1) (ss2 := 6) (show 0 + 1 ≤ 1 by omega) (show 0 + 6 ≤ 6 by omega) ?_
    refine yy_bipush C (v := (nI 119)) dL_answered_5 (pc' := 7) rfl (by decide) ?_
    refine yy_icmp_eq C dL_answered_7 (pc' := 10) rfl (tgt := 62) (by decide) (fun c_7 => ?_) (fun c_7 => ?_)
    · skip
      exact absurd c_7 (by decide)
    · skip
      refine yy_aload_n C 0 dL_answered_10 (pc' := 11) rfl rfl rfl ?_
      refine yy_iload_n C 1 dL_answered_11 (pc' := 12) rfl rfl rfl ?_
      refine yc_i (yr_SW C (As := [.ref (ad 0), .int x_]) (rest := []) lk_L_155 cd_L_answer st_L_answer (mL_answer l hl0 G B0 ad F S x_ hR.1.1 hR.1.2.1) ⟨by decide, by decide⟩ ⟨(show 1 + 1 ≤ 606 by omega), (show 6 + 6 ≤ 3830 by omega)⟩ rfl rfl (Nat.le_of_ble_eq_true rfl) dL_answered_12) (pc' := 15) rfl (fun r2 u1 hw2 => ?_)
      obtain ⟨hr_12, hu_12⟩ := mut_no hw2 q2_ (fun ⟨_, z, _⟩ => z.1) (by decide)
      refine yy_perm (w' := wA G ad S ++ F) (by rw [hu_12]) ?_
      refine yy_eqi (z' := -1) hr_12 ?_
      refine yy_widen (cs2 := 2) (ss2 := 12) (show 1 + 1 ≤ 2 by omega) (show 6 + 6 ≤ 12 by omega) ?_
      refine yy_aload_n C 0 dL_answered_15 (pc' := 16) rfl rfl rfl ?_
      refine yy_iload_n C 1 dL_answered_16 (pc' := 17) rfl rfl rfl ?_
      refine yc_i (yr_SW C (As := [.ref (ad 0), .int x_]) (rest := [.int (-1)]) lk_L_202 cd_L_state st_L_state (mL_state l hl0 G B0 ad F S x_ hR.1.1 hR.1.nar) ⟨by decide, by decide⟩ ⟨(show 2 + 1 ≤ 606 by omega), (show 12 + 6 ≤ 3830 by omega)⟩ rfl rfl (Nat.le_of_ble_eq_true rfl) dL_answered_17) (pc' := 20) rfl (fun r3 _ hw3 => ?_)
      obtain rfl : r3 = (-1) := hw3.trans q1_
      refine yy_widen (cs2 := 3) (ss2 := 18) (show 2 + 1 ≤ 3 by omega) (show 12 + 6 ≤ 18 by omega) ?_
      refine yy_iconst C (v := (-1)) dL_answered_20 (pc' := 21) rfl (by decide) ?_
      refine yy_icmp_ne C dL_answered_21 (pc' := 24) rfl (tgt := 28) (by decide) (fun c_21 => ?_) (fun c_21 => ?_)
      · skip
        exact absurd c_21 (by decide)
      · skip
        refine yy_iconst C (v := (-1)) dL_answered_24 (pc' := 25) rfl (by decide) ?_
        refine yy_goto C (tgt := 30) dL_answered_25 (by decide) ?_
        refine yy_icmp_ne C dL_answered_30 (pc' := 33) rfl (tgt := 60) (by decide) (fun c_30 => ?_) (fun c_30 => ?_)
        · skip
          exact absurd c_30 (by decide)
        · skip
          refine yy_aload_n C 0 dL_answered_33 (pc' := 34) rfl rfl rfl ?_
          refine yy_iload_n C 1 dL_answered_34 (pc' := 35) rfl rfl rfl ?_
          refine yc_i (yr_SW C (As := [.ref (ad 0), .int x_]) (rest := []) lk_L_157 cd_L_withdraw st_L_withdraw (mL_withdraw l hl0 G B0 ad F S x_ hR.1.1) ⟨by decide, by decide⟩ ⟨(show 3 + 1 ≤ 606 by omega), (show 18 + 6 ≤ 3830 by omega)⟩ rfl rfl (Nat.le_of_ble_eq_true rfl) dL_answered_35) (pc' := 38) rfl (fun r4 u2 hw4 => ?_)
          obtain ⟨hr_35, hu_35⟩ := mut_no hw4 q2_ (fun ⟨_, z, _⟩ => z.1) (by decide)
          refine yy_perm (w' := wA G ad S ++ F) (by rw [hu_35]) ?_
          refine yy_eqi (z' := -1) hr_35 ?_
          refine yy_widen (cs2 := 4) (ss2 := 24) (show 3 + 1 ≤ 4 by omega) (show 18 + 6 ≤ 24 by omega) ?_
          refine yy_aload_n C 0 dL_answered_38 (pc' := 39) rfl rfl rfl ?_
          refine yy_iload_n C 1 dL_answered_39 (pc' := 40) rfl rfl rfl ?_
          refine yc_i (yr_SW C (As := [.ref (ad 0), .int x_]) (rest := [.int (-1)]) lk_L_202 cd_L_state st_L_state (mL_state l hl0 G B0 ad F S x_ hR.1.1 hR.1.nar) ⟨by decide, by decide⟩ ⟨(show 4 + 1 ≤ 606 by omega), (show 24 + 6 ≤ 3830 by omega)⟩ rfl rfl (Nat.le_of_ble_eq_true rfl) dL_answered_40) (pc' := 43) rfl (fun r5 _ hw5 => ?_)
          obtain rfl : r5 = (-1) := hw5.trans q1_
          refine yy_widen (cs2 := 5) (ss2 := 30) (show 4 + 1 ≤ 5 by omega) (show 24 + 6 ≤ 30 by omega) ?_
          refine yy_iconst C (v := (-1)) dL_answered_43 (pc' := 44) rfl (by decide) ?_
          refine yy_icmp_ne C dL_answered_44 (pc' := 47) rfl (tgt := 51) (by decide) (fun c_44 => ?_) (fun c_44 => ?_)
          · skip
            exact absurd c_44 (by decide)
          · skip
            refine yy_iconst C (v := (-1)) dL_answered_47 (pc' := 48) rfl (by decide) ?_
            refine yy_goto C (tgt := 53) dL_answered_48 (by decide) ?_
            refine yy_icmp_ne C dL_answered_53 (pc' := 56) rfl (tgt := 60) (by decide) (fun c_53 => ?_) (fun c_53 => ?_)
            · skip
              exact absurd c_53 (by decide)
            · skip
              refine yy_iconst C (v := (nI 1)) dL_answered_56 (pc' := 57) rfl (by decide) ?_
              refine yy_goto C (tgt := 61) dL_answered_57 (by decide) ?_
              subst hQ
              exact ye_i C hr rfl S dL_answered_61 rfl (by decide) (by decide) ⟨rfl, hR, rfl⟩
  · skip
    refine yy_aload_n C 0 dL_answered_0 (pc' := 1) rfl rfl rfl ?_
    refine yy_iload_n C 1 dL_answered_1 (pc' := 2) rfl rfl rfl ?_
    refine yc_i (yr_SW C (As := [.ref (ad 0), .int x_]) (rest := []) lk_L_202 cd_L_state st_L_state (mL_state l hl0 G B0 ad F S x_ hR.1.1 hR.1.nar) ⟨by decide, by decide⟩ ⟨(show 0 + 1 ≤ 606 by omega), (show 0 + 6 ≤ 3830 by omega)⟩ rfl rfl (Nat.le_of_ble_eq_true rfl) dL_answered_2) (pc' := 5) rfl (fun r1 _ hw1 => ?_)
    obtain rfl : r1 = (nI 97) := hw1.trans q1_
    refine yy_widen (cs2 := 1) (ss2 := 6) (show 0 + 1 ≤ 1 by omega) (show 0 + 6 ≤ 6 by omega) ?_
    refine yy_bipush C (v := (nI 119)) dL_answered_5 (pc' := 7) rfl (by decide) ?_
    refine yy_icmp_eq C dL_answered_7 (pc' := 10) rfl (tgt := 62) (by decide) (fun c_7 => ?_) (fun c_7 => ?_)
    · skip
      exact absurd c_7 (by decide)
    · skip
      refine yy_aload_n C 0 dL_answered_10 (pc' := 11) rfl rfl rfl ?_
      refine yy_iload_n C 1 dL_answered_11 (pc' := 12) rfl rfl rfl ?_
      refine yc_i (yr_SW C (As := [.ref (ad 0), .int x_]) (rest := []) lk_L_155 cd_L_answer st_L_answer (mL_answer l hl0 G B0 ad F S x_ hR.1.1 hR.1.2.1) ⟨by decide, by decide⟩ ⟨(show 1 + 1 ≤ 606 by omega), (show 6 + 6 ≤ 3830 by omega)⟩ rfl rfl (Nat.le_of_ble_eq_true rfl) dL_answered_12) (pc' := 15) rfl (fun r2 u1 hw2 => ?_)
      obtain ⟨hr_12, hu_12⟩ := mut_no hw2 q2_ (fun ⟨_, z, _⟩ => z.1) (by decide)
      refine yy_perm (w' := wA G ad S ++ F) (by rw [hu_12]) ?_
      refine yy_eqi (z' := -2) hr_12 ?_
      refine yy_widen (cs2 := 2) (ss2 := 12) (show 1 + 1 ≤ 2 by omega) (show 6 + 6 ≤ 12 by omega) ?_
      refine yy_aload_n C 0 dL_answered_15 (pc' := 16) rfl rfl rfl ?_
      refine yy_iload_n C 1 dL_answered_16 (pc' := 17) rfl rfl rfl ?_
      refine yc_i (yr_SW C (As := [.ref (ad 0), .int x_]) (rest := [.int (-2)]) lk_L_202 cd_L_state st_L_state (mL_state l hl0 G B0 ad F S x_ hR.1.1 hR.1.nar) ⟨by decide, by decide⟩ ⟨(show 2 + 1 ≤ 606 by omega), (show 12 + 6 ≤ 3830 by omega)⟩ rfl rfl (Nat.le_of_ble_eq_true rfl) dL_answered_17) (pc' := 20) rfl (fun r3 _ hw3 => ?_)
      obtain rfl : r3 = (nI 97) := hw3.trans q1_
      refine yy_widen (cs2 := 3) (ss2 := 18) (show 2 + 1 ≤ 3 by omega) (show 12 + 6 ≤ 18 by omega) ?_
      refine yy_iconst C (v := (-1)) dL_answered_20 (pc' := 21) rfl (by decide) ?_
      refine yy_icmp_ne C dL_answered_21 (pc' := 24) rfl (tgt := 28) (by decide) (fun c_21 => ?_) (fun c_21 => ?_)
      · skip
        refine yy_bipush C (v := (-2)) dL_answered_28 (pc' := 30) rfl (by decide) ?_
        refine yy_icmp_ne C dL_answered_30 (pc' := 33) rfl (tgt := 60) (by decide) (fun c_30 => ?_) (fun c_30 => ?_)
        · skip
          exact absurd c_30 (by decide)
        · skip
          refine yy_aload_n C 0 dL_answered_33 (pc' := 34) rfl rfl rfl ?_
          refine yy_iload_n C 1 dL_answered_34 (pc' := 35) rfl rfl rfl ?_
          refine yc_i (yr_SW C (As := [.ref (ad 0), .int x_]) (rest := []) lk_L_157 cd_L_withdraw st_L_withdraw (mL_withdraw l hl0 G B0 ad F S x_ hR.1.1) ⟨by decide, by decide⟩ ⟨(show 3 + 1 ≤ 606 by omega), (show 18 + 6 ≤ 3830 by omega)⟩ rfl rfl (Nat.le_of_ble_eq_true rfl) dL_answered_35) (pc' := 38) rfl (fun r4 u2 hw4 => ?_)
          obtain ⟨hr_35, hu_35⟩ := mut_no hw4 q2_ (fun ⟨_, z, _⟩ => z.1) (by decide)
          refine yy_perm (w' := wA G ad S ++ F) (by rw [hu_35]) ?_
          refine yy_eqi (z' := -2) hr_35 ?_
          refine yy_widen (cs2 := 4) (ss2 := 24) (show 3 + 1 ≤ 4 by omega) (show 18 + 6 ≤ 24 by omega) ?_
          refine yy_aload_n C 0 dL_answered_38 (pc' := 39) rfl rfl rfl ?_
          refine yy_iload_n C 1 dL_answered_39 (pc' := 40) rfl rfl rfl ?_
          refine yc_i (yr_SW C (As := [.ref (ad 0), .int x_]) (rest := [.int (-2)]) lk_L_202 cd_L_state st_L_state (mL_state l hl0 G B0 ad F S x_ hR.1.1 hR.1.nar) ⟨by decide, by decide⟩ ⟨(show 4 + 1 ≤ 606 by omega), (show 24 + 6 ≤ 3830 by omega)⟩ rfl rfl (Nat.le_of_ble_eq_true rfl) dL_answered_40) (pc' := 43) rfl (fun r5 _ hw5 => ?_)
          obtain rfl : r5 = (nI 97) := hw5.trans q1_
          refine yy_widen (cs2 := 5) (ss2 := 30) (show 4 + 1 ≤ 5 by omega) (show 24 + 6 ≤ 30 by omega) ?_
          refine yy_iconst C (v := (-1)) dL_answered_43 (pc' := 44) rfl (by decide) ?_
          refine yy_icmp_ne C dL_answered_44 (pc' := 47) rfl (tgt := 51) (by decide) (fun c_44 => ?_) (fun c_44 => ?_)
          · skip
            refine yy_bipush C (v := (-2)) dL_answered_51 (pc' := 53) rfl (by decide) ?_
            refine yy_icmp_ne C dL_answered_53 (pc' := 56) rfl (tgt := 60) (by decide) (fun c_53 => ?_) (fun c_53 => ?_)
            · skip
              exact absurd c_53 (by decide)
            · skip
              refine yy_iconst C (v := (nI 1)) dL_answered_56 (pc' := 57) rfl (by decide) ?_
              refine yy_goto C (tgt := 61) dL_answered_57 (by decide) ?_
              subst hQ
              exact ye_i C hr rfl S dL_answered_61 rfl (by decide) (by decide) ⟨rfl, hR, rfl⟩
          · skip
            exact absurd c_44 (by decide)
      · skip
        exact absurd c_21 (by decide)
  · skip
    refine yy_aload_n C 0 dL_answered_0 (pc' := 1) rfl rfl rfl ?_
    refine yy_iload_n C 1 dL_answered_1 (pc' := 2) rfl rfl rfl ?_
    refine yc_i (yr_SW C (As := [.ref (ad 0), .int x_]) (rest := []) lk_L_202 cd_L_state st_L_state (mL_state l hl0 G B0 ad F S x_ hR.1.1 hR.1.nar) ⟨by decide, by decide⟩ ⟨(show 0 + 1 ≤ 606 by omega), (show 0 + 6 ≤ 3830 by omega)⟩ rfl rfl (Nat.le_of_ble_eq_true rfl) dL_answered_2) (pc' := 5) rfl (fun r1 _ hw1 => ?_)
    obtain rfl : r1 = (nI 120) := hw1.trans q1_
    refine yy_widen (cs2 := 1) (ss2 := 6) (show 0 + 1 ≤ 1 by omega) (show 0 + 6 ≤ 6 by omega) ?_
    refine yy_bipush C (v := (nI 119)) dL_answered_5 (pc' := 7) rfl (by decide) ?_
    refine yy_icmp_eq C dL_answered_7 (pc' := 10) rfl (tgt := 62) (by decide) (fun c_7 => ?_) (fun c_7 => ?_)
    · skip
      exact absurd c_7 (by decide)
    · skip
      refine yy_aload_n C 0 dL_answered_10 (pc' := 11) rfl rfl rfl ?_
      refine yy_iload_n C 1 dL_answered_11 (pc' := 12) rfl rfl rfl ?_
      refine yc_i (yr_SW C (As := [.ref (ad 0), .int x_]) (rest := []) lk_L_155 cd_L_answer st_L_answer (mL_answer l hl0 G B0 ad F S x_ hR.1.1 hR.1.2.1) ⟨by decide, by decide⟩ ⟨(show 1 + 1 ≤ 606 by omega), (show 6 + 6 ≤ 3830 by omega)⟩ rfl rfl (Nat.le_of_ble_eq_true rfl) dL_answered_12) (pc' := 15) rfl (fun r2 u1 hw2 => ?_)
      obtain ⟨hr_12, hu_12⟩ := mut_no hw2 q2_ (fun ⟨_, z, _⟩ => z.1) (by decide)
      refine yy_perm (w' := wA G ad S ++ F) (by rw [hu_12]) ?_
      refine yy_eqi (z' := -2) hr_12 ?_
      refine yy_widen (cs2 := 2) (ss2 := 12) (show 1 + 1 ≤ 2 by omega) (show 6 + 6 ≤ 12 by omega) ?_
      refine yy_aload_n C 0 dL_answered_15 (pc' := 16) rfl rfl rfl ?_
      refine yy_iload_n C 1 dL_answered_16 (pc' := 17) rfl rfl rfl ?_
      refine yc_i (yr_SW C (As := [.ref (ad 0), .int x_]) (rest := [.int (-2)]) lk_L_202 cd_L_state st_L_state (mL_state l hl0 G B0 ad F S x_ hR.1.1 hR.1.nar) ⟨by decide, by decide⟩ ⟨(show 2 + 1 ≤ 606 by omega), (show 12 + 6 ≤ 3830 by omega)⟩ rfl rfl (Nat.le_of_ble_eq_true rfl) dL_answered_17) (pc' := 20) rfl (fun r3 _ hw3 => ?_)
      obtain rfl : r3 = (nI 120) := hw3.trans q1_
      refine yy_widen (cs2 := 3) (ss2 := 18) (show 2 + 1 ≤ 3 by omega) (show 12 + 6 ≤ 18 by omega) ?_
      refine yy_iconst C (v := (-1)) dL_answered_20 (pc' := 21) rfl (by decide) ?_
      refine yy_icmp_ne C dL_answered_21 (pc' := 24) rfl (tgt := 28) (by decide) (fun c_21 => ?_) (fun c_21 => ?_)
      · skip
        refine yy_bipush C (v := (-2)) dL_answered_28 (pc' := 30) rfl (by decide) ?_
        refine yy_icmp_ne C dL_answered_30 (pc' := 33) rfl (tgt := 60) (by decide) (fun c_30 => ?_) (fun c_30 => ?_)
        · skip
          exact absurd c_30 (by decide)
        · skip
          refine yy_aload_n C 0 dL_answered_33 (pc' := 34) rfl rfl rfl ?_
          refine yy_iload_n C 1 dL_answered_34 (pc' := 35) rfl rfl rfl ?_
          refine yc_i (yr_SW C (As := [.ref (ad 0), .int x_]) (rest := []) lk_L_157 cd_L_withdraw st_L_withdraw (mL_withdraw l hl0 G B0 ad F S x_ hR.1.1) ⟨by decide, by decide⟩ ⟨(show 3 + 1 ≤ 606 by omega), (show 18 + 6 ≤ 3830 by omega)⟩ rfl rfl (Nat.le_of_ble_eq_true rfl) dL_answered_35) (pc' := 38) rfl (fun r4 u2 hw4 => ?_)
          obtain ⟨hr_35, hu_35⟩ := mut_no hw4 q2_ (fun ⟨_, z, _⟩ => z.1) (by decide)
          refine yy_perm (w' := wA G ad S ++ F) (by rw [hu_35]) ?_
          refine yy_eqi (z' := -2) hr_35 ?_
          refine yy_widen (cs2 := 4) (ss2 := 24) (show 3 + 1 ≤ 4 by omega) (show 18 + 6 ≤ 24 by omega) ?_
          refine yy_aload_n C 0 dL_answered_38 (pc' := 39) rfl rfl rfl ?_
          refine yy_iload_n C 1 dL_answered_39 (pc' := 40) rfl rfl rfl ?_
          refine yc_i (yr_SW C (As := [.ref (ad 0), .int x_]) (rest := [.int (-2)]) lk_L_202 cd_L_state st_L_state (mL_state l hl0 G B0 ad F S x_ hR.1.1 hR.1.nar) ⟨by decide, by decide⟩ ⟨(show 4 + 1 ≤ 606 by omega), (show 24 + 6 ≤ 3830 by omega)⟩ rfl rfl (Nat.le_of_ble_eq_true rfl) dL_answered_40) (pc' := 43) rfl (fun r5 _ hw5 => ?_)
          obtain rfl : r5 = (nI 120) := hw5.trans q1_
          refine yy_widen (cs2 := 5) (ss2 := 30) (show 4 + 1 ≤ 5 by omega) (show 24 + 6 ≤ 30 by omega) ?_
          refine yy_iconst C (v := (-1)) dL_answered_43 (pc' := 44) rfl (by decide) ?_
          refine yy_icmp_ne C dL_answered_44 (pc' := 47) rfl (tgt := 51) (by decide) (fun c_44 => ?_) (fun c_44 => ?_)
          · skip
            refine yy_bipush C (v := (-2)) dL_answered_51 (pc' := 53) rfl (by decide) ?_
            refine yy_icmp_ne C dL_answered_53 (pc' := 56) rfl (tgt := 60) (by decide) (fun c_53 => ?_) (fun c_53 => ?_)
            · skip
              exact absurd c_53 (by decide)
            · skip
              refine yy_iconst C (v := (nI 1)) dL_answered_56 (pc' := 57) rfl (by decide) ?_
              refine yy_goto C (tgt := 61) dL_answered_57 (by decide) ?_
              subst hQ
              exact ye_i C hr rfl S dL_answered_61 rfl (by decide) (by decide) ⟨rfl, hR, rfl⟩
          · skip
            exact absurd c_44 (by decide)
      · skip
        exact absurd c_21 (by decide)
  · skip
    refine yy_aload_n C 0 dL_answered_0 (pc' := 1) rfl rfl rfl ?_
    refine yy_iload_n C 1 dL_answered_1 (pc' := 2) rfl rfl rfl ?_
    refine yc_i (yr_SW C (As := [.ref (ad 0), .int (nI g_)]) (rest := []) lk_L_202 cd_L_state st_L_state (mL_state l hl0 G B0 ad F S (nI g_) hR.1.1 hR.1.nar) ⟨by decide, by decide⟩ ⟨(show 0 + 1 ≤ 606 by omega), (show 0 + 6 ≤ 3830 by omega)⟩ rfl rfl (Nat.le_of_ble_eq_true rfl) dL_answered_2) (pc' := 5) rfl (fun r1 _ hw1 => ?_)
    obtain rfl : r1 = (nI 119) := hw1.trans q1_
    refine yy_widen (cs2 := 1) (ss2 := 6) (show 0 + 1 ≤ 1 by omega) (show 0 + 6 ≤ 6 by omega) ?_
    refine yy_bipush C (v := (nI 119)) dL_answered_5 (pc' := 7) rfl (by decide) ?_
    refine yy_icmp_eq C dL_answered_7 (pc' := 10) rfl (tgt := 62) (by decide) (fun c_7 => ?_) (fun c_7 => ?_)
    · skip
      refine yy_iconst C (v := (nI 5)) dL_answered_62 (pc' := 63) rfl (by decide) ?_
      refine yy_iload_n C 2 dL_answered_63 (pc' := 64) rfl rfl rfl ?_
      refine yy_imul C (v := (nI (5 * (S.1 1)))) dL_answered_64 (pc' := 65) rfl (pk_mul 5 (S.1 1)) ?_
      refine yy_newaI C (N := 5 * (S.1 1)) ac_int dL_answered_65 (pc' := 67) rfl (by omega) (by show (5 * (S.1 1)) * 4 ≤ 536870912; omega) (Nat.le_of_ble_eq_true rfl) (show 6 + (5 * (S.1 1)) ≤ 3830 by omega) (fun q1 => ?_)
      refine yy_widen (cs2 := 2) (ss2 := 206) (show 2 ≤ 2 from Nat.le_refl _) (show 6 + (5 * (S.1 1)) ≤ 206 by omega) ?_
      refine yy_perm (w' := wA G ad S ++ ((q1, .inl (G.2.1, 5 * (S.1 1), .inl (fun _ => 0))) :: F)) List.perm_middle.symm ?_
      refine yy_astore_n C (L' := [(3, .ref (q1)), (0, .ref (ad 0)), (1, .int (nI g_)), (2, .int (nI (S.1 1)))]) dL_answered_67 (pc' := 68) rfl rfl (by decide) rfl ?_
      refine yy_iconst C (v := (nI 0)) dL_answered_68 (pc' := 69) rfl (by decide) ?_
      refine yy_istore C (L' := [(4, .int (nI 0)), (3, .ref (q1)), (0, .ref (ad 0)), (1, .int (nI g_)), (2, .int (nI (S.1 1)))]) dL_answered_69 (pc' := 71) rfl (by decide) rfl ?_
      have lp_71 : ∀ (f71_ : Nat) (a_ : Nat) (bf : Nat → Int32), (ha_ : a_ ≤ 5) → (hb_ : BFR S bf a_ 0) → 5 - a_ < f71_ → YY p l e rL_answered s m args below meth c G B0 13 QQ 71 [(4, .int (nI a_)), (3, .ref (q1)), (0, .ref (ad 0)), (1, .int (nI g_)), (2, .int (nI (S.1 1)))] [] (wA G ad S ++ ((q1, .inl (G.2.1, 5 * S.1 1, .inl bf)) :: F)) (2 + 40 * a_) (206 + 240 * a_) := by
        intro f71_
        induction f71_ with
        | zero => intro a_ bf ha_ hb_ hf_; exact absurd hf_ (Nat.not_lt_zero _)
        | succ f71_ ih71 =>
          intro a_ bf ha_ hb_ hf71_
          refine yy_widen (cs2 := 2 + 40 * a_ + 0) (ss2 := 206 + 240 * a_ + 0) (Nat.le_refl _) (Nat.le_refl _) ?_
          refine yy_iload C 0 dL_answered_71 (pc' := 73) rfl rfl ?_
          refine yy_iconst C (v := (nI 5)) dL_answered_73 (pc' := 74) rfl (by decide) ?_
          refine yn_icmp_ge C (by omega) (by decide) dL_answered_74 (pc' := 77) rfl (tgt := 115) (by decide) (fun c_74 => ?_) (fun c_74 => ?_)
          · skip
            refine yy_widen (cs2 := 202) (ss2 := 1406) (show 2 + 40 * a_ + 0 ≤ 202 by omega) (show 206 + 240 * a_ + 0 ≤ 1406 by omega) ?_
            have hbb : BFR S bf 5 0 := (show a_ = 5 by omega) ▸ hb_
            refine yy_aload_n C 2 dL_answered_115 (pc' := 116) rfl rfl rfl ?_
            refine yc_l (yr_V C (As := []) (rest := []) lk_L_181 cd_X6_fees im_X6_fees se_X6_fees (mX6_fees l G B0 ad ((q1, .inl (G.2.1, 5 * S.1 1, .inl bf)) :: F) S hR.1.1) ⟨by decide, by decide⟩ ⟨(show 202 + 0 ≤ 606 by omega), (show 1406 + 0 ≤ 3830 by omega)⟩ 0 rfl rfl rfl rfl (Nat.le_of_ble_eq_true rfl) dL_answered_116) (pc' := 119) rfl (fun r2 _ hw2 => ?_)
            obtain rfl : r2 = lN (S.1 9) := hw2
            refine yy_lstore C (L' := [(4, .long (lN (S.1 9))), (3, .ref (q1)), (0, .ref (ad 0)), (1, .int (nI g_)), (2, .int (nI (S.1 1)))]) dL_answered_119 (pc' := 121) rfl (by decide) rfl ?_
            refine yy_aload_n C 2 dL_answered_121 (pc' := 122) rfl rfl rfl ?_
            refine yy_bipush C (v := (nI 7)) dL_answered_122 (pc' := 124) rfl (by decide) ?_
            refine yc_i (yr_SW C (As := [.ref (ad 0), .int (nI 7)]) (rest := []) lk_L_159 cd_L_setPrice st_L_setPrice (mL_setPrice l hl0 G B0 ad ((q1, .inl (G.2.1, 5 * S.1 1, .inl bf)) :: F) S (nI 7) hR.1.1) ⟨by decide, by decide⟩ ⟨(show 202 + 1 ≤ 606 by omega), (show 1406 + 6 ≤ 3830 by omega)⟩ rfl rfl (Nat.le_of_ble_eq_true rfl) dL_answered_124) (pc' := 127) rfl (fun r3 u1 hw3 => ?_)
            obtain ⟨hr_124, hu_124⟩ := pr_ok hw3 rfl (by decide)
            refine yy_perm (w' := wA G ad (sN S 8 7) ++ ((q1, .inl (G.2.1, 5 * S.1 1, .inl bf)) :: F)) (by rw [hu_124]) ?_
            refine yy_eqi hr_124 ?_
            refine yy_widen (cs2 := 203) (ss2 := 1412) (show 202 + 1 ≤ 203 by omega) (show 1406 + 6 ≤ 1412 by omega) ?_
            refine yy_istore C (L' := [(6, .int (nI (S.1 8))), (4, .long (lN (S.1 9))), (3, .ref (q1)), (0, .ref (ad 0)), (1, .int (nI g_)), (2, .int (nI (S.1 1)))]) dL_answered_127 (pc' := 129) rfl (by decide) rfl ?_
            refine yy_aload_n C 3 dL_answered_129 (pc' := 130) rfl rfl rfl ?_
            refine yy_iload_n C 4 dL_answered_130 (pc' := 131) rfl rfl rfl ?_
            refine yc_i (yr_SW C (As := [.ref (ad 0), .int (nI g_)]) (rest := []) lk_L_155 cd_L_answer st_L_answer (mL_answer l hl0 G B0 ad ((q1, .inl (G.2.1, 5 * S.1 1, .inl bf)) :: F) (sN S 8 7) (nI g_) (rb_price hR.1 (by decide)).1 (rb_price hR.1 (by decide)).2.1) ⟨by decide, by decide⟩ ⟨(show 203 + 1 ≤ 606 by omega), (show 1412 + 6 ≤ 3830 by omega)⟩ rfl rfl (Nat.le_of_ble_eq_true rfl) dL_answered_131) (pc' := 134) rfl (fun r4 u2 hw4 => ?_)
            obtain ⟨hr_131, hu_131⟩ := an_yes hR.1 hg hs hw4
            refine yy_perm (w' := wA G ad (anS S g_) ++ ((q1, .inl (G.2.1, 5 * S.1 1, .inl bf)) :: F)) (by rw [hu_131]) ?_
            refine yy_eqi hr_131 ?_
            refine yy_widen (cs2 := 204) (ss2 := 1418) (show 203 + 1 ≤ 204 by omega) (show 1412 + 6 ≤ 1418 by omega) ?_
            refine yy_istore C (L' := [(7, .int (nI (anC S g_))), (6, .int (nI (S.1 8))), (4, .long (lN (S.1 9))), (3, .ref (q1)), (0, .ref (ad 0)), (1, .int (nI g_)), (2, .int (nI (S.1 1)))]) dL_answered_134 (pc' := 136) rfl (by decide) rfl ?_
            refine yy_iconst C (v := (-1)) dL_answered_136 (pc' := 137) rfl (by decide) ?_
            refine yy_istore C (L' := [(8, .int (-1)), (7, .int (nI (anC S g_))), (6, .int (nI (S.1 8))), (4, .long (lN (S.1 9))), (3, .ref (q1)), (0, .ref (ad 0)), (1, .int (nI g_)), (2, .int (nI (S.1 1)))]) dL_answered_137 (pc' := 139) rfl (by decide) rfl ?_
            refine yy_iconst C (v := (nI 0)) dL_answered_139 (pc' := 140) rfl (by decide) ?_
            refine yy_eqi (congrArg nI (gs_0 (S := S) (g := g_)).symm) ?_
            refine yy_istore C (L' := [(9, .int (nI (gsf S g_ 0 0))), (8, .int (-1)), (7, .int (nI (anC S g_))), (6, .int (nI (S.1 8))), (4, .long (lN (S.1 9))), (3, .ref (q1)), (0, .ref (ad 0)), (1, .int (nI g_)), (2, .int (nI (S.1 1)))]) dL_answered_140 (pc' := 142) rfl (by decide) rfl ?_
            refine yy_iconst C (v := (nI 0)) dL_answered_142 (pc' := 143) rfl (by decide) ?_
            refine yy_istore C (L' := [(10, .int (nI 0)), (9, .int (nI (gsf S g_ 0 0))), (8, .int (-1)), (7, .int (nI (anC S g_))), (6, .int (nI (S.1 8))), (4, .long (lN (S.1 9))), (3, .ref (q1)), (0, .ref (ad 0)), (1, .int (nI g_)), (2, .int (nI (S.1 1)))]) dL_answered_143 (pc' := 145) rfl (by decide) rfl ?_
            have lp_145 : ∀ (f145_ : Nat) (a_ : Nat) (ak : Int32), (ha_ : a_ ≤ 5) → (hak : ak = (-1) ∨ ak = nI (anA S g_)) → 5 - a_ < f145_ → YY p l e rL_answered s m args below meth c G B0 13 QQ 145 [(10, .int (nI a_)), (9, .int (nI (gsf S g_ a_ 0))), (8, .int ak), (3, .ref (q1)), (4, .long (lN (S.1 9))), (6, .int (nI (S.1 8))), (7, .int (nI (anC S g_))), (0, .ref (ad 0)), (1, .int (nI g_)), (2, .int (nI (S.1 1)))] [] (wA G ad (anS S g_) ++ ((q1, .inl (G.2.1, 5 * S.1 1, .inl bf)) :: F)) (204 + 80 * a_) (1418 + 480 * a_) := by
              intro f145_
              induction f145_ with
              | zero => intro a_ ak ha_ hak hf_; exact absurd hf_ (Nat.not_lt_zero _)
              | succ f145_ ih145 =>
                intro a_ ak ha_ hak hf145_
                refine yy_widen (cs2 := 204 + 80 * a_ + 0) (ss2 := 1418 + 480 * a_ + 0) (Nat.le_refl _) (Nat.le_refl _) ?_
                refine yy_iload C 0 dL_answered_145 (pc' := 147) rfl rfl ?_
                refine yy_iconst C (v := (nI 5)) dL_answered_147 (pc' := 148) rfl (by decide) ?_
                refine yn_icmp_ge C (by omega) (by decide) dL_answered_148 (pc' := 151) rfl (tgt := 261) (by decide) (fun c_148 => ?_) (fun c_148 => ?_)
                · skip
                  refine yy_widen (cs2 := 604) (ss2 := 3818) (show 204 + 80 * a_ + 0 ≤ 604 by omega) (show 1418 + 480 * a_ + 0 ≤ 3818 by omega) ?_
                  obtain rfl : a_ = 5 := by omega
                  refine yy_aload_n C 7 dL_answered_261 (pc' := 262) rfl rfl rfl ?_
                  refine yy_iload C 5 dL_answered_262 (pc' := 264) rfl rfl ?_
                  refine yc_i (yr_SW C (As := [.ref (ad 0), .int (nI (S.1 8))]) (rest := []) lk_L_159 cd_L_setPrice st_L_setPrice (mL_setPrice l hl0 G B0 ad ((q1, .inl (G.2.1, 5 * S.1 1, .inl bf)) :: F) (anS S g_) (nI (S.1 8)) (an_rb hR hg hs).1.1) ⟨by decide, by decide⟩ ⟨(show 604 + 1 ≤ 606 by omega), (show 3818 + 6 ≤ 3830 by omega)⟩ rfl rfl (Nat.le_of_ble_eq_true rfl) dL_answered_264) (pc' := 267) rfl (fun r5 u3 hw5 => ?_)
                  obtain ⟨hr_264, hu_264⟩ := pr_ok hw5 rfl hR.1.1.2.2.2.2.2.2.2.2.1
                  refine yy_perm (w' := wA G ad (anU S g_) ++ ((q1, .inl (G.2.1, 5 * S.1 1, .inl bf)) :: F)) (by rw [hu_264]; exact List.Perm.refl _) ?_
                  refine yy_eqi (hr_264.trans (congrArg nI (an_pr hR))) ?_
                  refine yy_widen (cs2 := 605) (ss2 := 3824) (show 604 + 1 ≤ 605 by omega) (show 3818 + 6 ≤ 3824 by omega) ?_
                  refine yy_bipush C (v := (nI 7)) dL_answered_267 (pc' := 269) rfl (by decide) ?_
                  refine yy_icmp_ne C dL_answered_269 (pc' := 272) rfl (tgt := 339) (by decide) (fun c_269 => ?_) (fun c_269 => ?_)
                  · skip
                    exact absurd c_269 (by decide)
                  · skip
                    refine yy_iload C 6 dL_answered_272 (pc' := 274) rfl rfl ?_
                    refine yy_if_lt C dL_answered_274 (pc' := 277) rfl (tgt := 339) (by decide) (fun c_274 => ?_) (fun c_274 => ?_)
                    · skip
                      exact absurd c_274 (nI_pos (by have h9 := (an_c hR hg hs).1; have h8 := (an_c hR hg hs).2.2; omega))
                    · skip
                      obtain ⟨an1, an2, an3⟩ := an_c hR hg hs
                      rcases Nat.eq_zero_or_pos (anC S g_) with hz | hz
                      · skip
                        refine yy_iload C 1 dL_answered_277 (pc' := 279) rfl rfl ?_
                        refine yy_iload C 6 dL_answered_279 (pc' := 281) rfl rfl ?_
                        refine yn_icmp_lt C (by omega) (by omega) dL_answered_281 (pc' := 284) rfl (tgt := 339) (by decide) (fun c_281 => ?_) (fun c_281 => ?_)
                        · skip
                          exact absurd c_281 (by omega)
                        · skip
                          refine yy_iload C 6 dL_answered_284 (pc' := 286) rfl rfl ?_
                          refine yy_eqi (congrArg nI hz) ?_
                          refine yy_if_le C dL_answered_286 (pc' := 289) rfl (tgt := 293) (by decide) (fun c_286 => ?_) (fun c_286 => ?_)
                          · skip
                            refine yy_iconst C (v := (nI 0)) dL_answered_293 (pc' := 294) rfl (by decide) ?_
                            refine yy_iload C 1 dL_answered_294 (pc' := 296) rfl rfl ?_
                            refine yy_eqi (congrArg nI (an2 hz)) ?_
                            refine yy_if_le C dL_answered_296 (pc' := 299) rfl (tgt := 303) (by decide) (fun c_296 => ?_) (fun c_296 => ?_)
                            · skip
                              refine yy_iconst C (v := (nI 0)) dL_answered_303 (pc' := 304) rfl (by decide) ?_
                              refine yy_icmp_ne C dL_answered_304 (pc' := 307) rfl (tgt := 339) (by decide) (fun c_304 => ?_) (fun c_304 => ?_)
                              · skip
                                exact absurd c_304 (by decide)
                              · skip
                                refine yy_aload_n C 7 dL_answered_307 (pc' := 308) rfl rfl rfl ?_
                                refine yc_l (yr_V C (As := []) (rest := []) lk_L_181 cd_X6_fees im_X6_fees se_X6_fees (mX6_fees l G B0 ad ((q1, .inl (G.2.1, 5 * S.1 1, .inl bf)) :: F) (anU S g_) (an_ru hR hg hs).1.1) ⟨by decide, by decide⟩ ⟨(show 605 + 0 ≤ 606 by omega), (show 3824 + 0 ≤ 3830 by omega)⟩ 0 rfl rfl rfl rfl (Nat.le_of_ble_eq_true rfl) dL_answered_308) (pc' := 311) rfl (fun r6 _ hw6 => ?_)
                                obtain rfl : r6 = (lN (S.1 9 + 7 * anC S g_)) := hw6.trans (congrArg lN (an_fee hR))
                                refine yy_lload C 4 dL_answered_311 (pc' := 313) rfl rfl ?_
                                refine yy_ldc2 C dL_answered_313 (pc' := 316) rfl lg_L_226 ?_
                                refine yy_iload C 6 dL_answered_316 (pc' := 318) rfl rfl ?_
                                refine yy_i2l C (v := (lN (anC S g_))) dL_answered_318 (pc' := 319) rfl (an_i2l (by omega)) ?_
                                refine yy_lmul C (v := (lN (7 * anC S g_))) dL_answered_319 (pc' := 320) rfl (an_7 (by omega)) ?_
                                refine yy_ladd C (v := (lN (S.1 9 + 7 * anC S g_))) dL_answered_320 (pc' := 321) rfl (lN_add _ _) ?_
                                refine yy_lcmp C dL_answered_321 (pc' := 322) rfl ?_
                                refine yy_if_ne C dL_answered_322 (pc' := 325) rfl (tgt := 339) (by decide) (fun c_322 => ?_) (fun c_322 => ?_)
                                · skip
                                  exact absurd ((lg_0 (by omega) (by omega)).mpr rfl) c_322
                                · skip
                                  refine yy_aload_n C 7 dL_answered_325 (pc' := 326) rfl rfl rfl ?_
                                  refine yy_iload_n C 8 dL_answered_326 (pc' := 327) rfl rfl rfl ?_
                                  refine yc_i (yr_SW C (As := [.ref (ad 0), .int (nI g_)]) (rest := []) lk_L_202 cd_L_state st_L_state (mL_state l hl0 G B0 ad ((q1, .inl (G.2.1, 5 * S.1 1, .inl bf)) :: F) (anU S g_) (nI g_) (an_ru hR hg hs).1.1 (an_ru hR hg hs).1.nar) ⟨by decide, by decide⟩ ⟨(show 605 + 1 ≤ 606 by omega), (show 3824 + 6 ≤ 3830 by omega)⟩ rfl rfl (Nat.le_of_ble_eq_true rfl) dL_answered_327) (pc' := 330) rfl (fun r7 _ hw7 => ?_)
                                  obtain rfl : r7 = (nI 97) := hw7.trans (an_st hR hg)
                                  refine yy_widen (cs2 := 606) (ss2 := 3830) (show 605 + 1 ≤ 606 by omega) (show 3824 + 6 ≤ 3830 by omega) ?_
                                  refine yy_bipush C (v := (nI 97)) dL_answered_330 (pc' := 332) rfl (by decide) ?_
                                  refine yy_icmp_ne C dL_answered_332 (pc' := 335) rfl (tgt := 339) (by decide) (fun c_332 => ?_) (fun c_332 => ?_)
                                  · skip
                                    exact absurd c_332 (by decide)
                                  · skip
                                    refine yy_iconst C (v := (nI 1)) dL_answered_335 (pc' := 336) rfl (by decide) ?_
                                    refine yy_goto C (tgt := 340) dL_answered_336 (by decide) ?_
                                    refine yy_drop (w' := wA G ad (anU S g_) ++ F) (List.Sublist.append_left (List.sublist_cons_self _ _) _) ?_
                                    subst hQ
                                    exact ye_i C hr rfl (anU S g_) dL_answered_340 rfl (by decide) (by decide) ⟨rfl, an_ru hR hg hs, an_n hR⟩
                            · skip
                              exact absurd c_296 (by decide)
                          · skip
                            exact absurd c_286 (by decide)
                      · skip
                        refine yy_iload C 1 dL_answered_277 (pc' := 279) rfl rfl ?_
                        refine yy_iload C 6 dL_answered_279 (pc' := 281) rfl rfl ?_
                        refine yn_icmp_lt C (by omega) (by omega) dL_answered_281 (pc' := 284) rfl (tgt := 339) (by decide) (fun c_281 => ?_) (fun c_281 => ?_)
                        · skip
                          exact absurd c_281 (by omega)
                        · skip
                          refine yy_iload C 6 dL_answered_284 (pc' := 286) rfl rfl ?_
                          refine yy_if_le C dL_answered_286 (pc' := 289) rfl (tgt := 293) (by decide) (fun c_286 => ?_) (fun c_286 => ?_)
                          · skip
                            exact absurd c_286 (an_nle hz (by omega))
                          · skip
                            refine yy_iconst C (v := (nI 1)) dL_answered_289 (pc' := 290) rfl (by decide) ?_
                            refine yy_goto C (tgt := 294) dL_answered_290 (by decide) ?_
                            refine yy_iload C 1 dL_answered_294 (pc' := 296) rfl rfl ?_
                            refine yy_if_le C dL_answered_296 (pc' := 299) rfl (tgt := 303) (by decide) (fun c_296 => ?_) (fun c_296 => ?_)
                            · skip
                              exact absurd c_296 (an_nle (by omega) (by omega))
                            · skip
                              refine yy_iconst C (v := (nI 1)) dL_answered_299 (pc' := 300) rfl (by decide) ?_
                              refine yy_goto C (tgt := 304) dL_answered_300 (by decide) ?_
                              refine yy_icmp_ne C dL_answered_304 (pc' := 307) rfl (tgt := 339) (by decide) (fun c_304 => ?_) (fun c_304 => ?_)
                              · skip
                                exact absurd c_304 (by decide)
                              · skip
                                refine yy_aload_n C 7 dL_answered_307 (pc' := 308) rfl rfl rfl ?_
                                refine yc_l (yr_V C (As := []) (rest := []) lk_L_181 cd_X6_fees im_X6_fees se_X6_fees (mX6_fees l G B0 ad ((q1, .inl (G.2.1, 5 * S.1 1, .inl bf)) :: F) (anU S g_) (an_ru hR hg hs).1.1) ⟨by decide, by decide⟩ ⟨(show 605 + 0 ≤ 606 by omega), (show 3824 + 0 ≤ 3830 by omega)⟩ 0 rfl rfl rfl rfl (Nat.le_of_ble_eq_true rfl) dL_answered_308) (pc' := 311) rfl (fun r6 _ hw6 => ?_)
                                obtain rfl : r6 = (lN (S.1 9 + 7 * anC S g_)) := hw6.trans (congrArg lN (an_fee hR))
                                refine yy_lload C 4 dL_answered_311 (pc' := 313) rfl rfl ?_
                                refine yy_ldc2 C dL_answered_313 (pc' := 316) rfl lg_L_226 ?_
                                refine yy_iload C 6 dL_answered_316 (pc' := 318) rfl rfl ?_
                                refine yy_i2l C (v := (lN (anC S g_))) dL_answered_318 (pc' := 319) rfl (an_i2l (by omega)) ?_
                                refine yy_lmul C (v := (lN (7 * anC S g_))) dL_answered_319 (pc' := 320) rfl (an_7 (by omega)) ?_
                                refine yy_ladd C (v := (lN (S.1 9 + 7 * anC S g_))) dL_answered_320 (pc' := 321) rfl (lN_add _ _) ?_
                                refine yy_lcmp C dL_answered_321 (pc' := 322) rfl ?_
                                refine yy_if_ne C dL_answered_322 (pc' := 325) rfl (tgt := 339) (by decide) (fun c_322 => ?_) (fun c_322 => ?_)
                                · skip
                                  exact absurd ((lg_0 (by omega) (by omega)).mpr rfl) c_322
                                · skip
                                  refine yy_aload_n C 7 dL_answered_325 (pc' := 326) rfl rfl rfl ?_
                                  refine yy_iload_n C 8 dL_answered_326 (pc' := 327) rfl rfl rfl ?_
                                  refine yc_i (yr_SW C (As := [.ref (ad 0), .int (nI g_)]) (rest := []) lk_L_202 cd_L_state st_L_state (mL_state l hl0 G B0 ad ((q1, .inl (G.2.1, 5 * S.1 1, .inl bf)) :: F) (anU S g_) (nI g_) (an_ru hR hg hs).1.1 (an_ru hR hg hs).1.nar) ⟨by decide, by decide⟩ ⟨(show 605 + 1 ≤ 606 by omega), (show 3824 + 6 ≤ 3830 by omega)⟩ rfl rfl (Nat.le_of_ble_eq_true rfl) dL_answered_327) (pc' := 330) rfl (fun r7 _ hw7 => ?_)
                                  obtain rfl : r7 = (nI 97) := hw7.trans (an_st hR hg)
                                  refine yy_widen (cs2 := 606) (ss2 := 3830) (show 605 + 1 ≤ 606 by omega) (show 3824 + 6 ≤ 3830 by omega) ?_
                                  refine yy_bipush C (v := (nI 97)) dL_answered_330 (pc' := 332) rfl (by decide) ?_
                                  refine yy_icmp_ne C dL_answered_332 (pc' := 335) rfl (tgt := 339) (by decide) (fun c_332 => ?_) (fun c_332 => ?_)
                                  · skip
                                    exact absurd c_332 (by decide)
                                  · skip
                                    refine yy_iconst C (v := (nI 1)) dL_answered_335 (pc' := 336) rfl (by decide) ?_
                                    refine yy_goto C (tgt := 340) dL_answered_336 (by decide) ?_
                                    refine yy_drop (w' := wA G ad (anU S g_) ++ F) (List.Sublist.append_left (List.sublist_cons_self _ _) _) ?_
                                    subst hQ
                                    exact ye_i C hr rfl (anU S g_) dL_answered_340 rfl (by decide) (by decide) ⟨rfl, an_ru hR hg hs, an_n hR⟩
                · skip
                  refine yy_iconst C (v := (nI 0)) dL_answered_151 (pc' := 152) rfl (by decide) ?_
                  refine yy_istore C (L' := [(11, .int (nI 0)), (10, .int (nI a_)), (9, .int (nI (gsf S g_ a_ 0))), (8, .int ak), (3, .ref (q1)), (4, .long (lN (S.1 9))), (6, .int (nI (S.1 8))), (7, .int (nI (anC S g_))), (0, .ref (ad 0)), (1, .int (nI g_)), (2, .int (nI (S.1 1)))]) dL_answered_152 (pc' := 154) rfl (by decide) rfl ?_
                  have lp_154 : ∀ (f154_ : Nat) (k_ : Nat) (al : Int32), (hk_ : k_ ≤ S.1 1) → (hal : al = (-1) ∨ al = nI (anA S g_)) → S.1 1 - k_ < f154_ → YY p l e rL_answered s m args below meth c G B0 13 QQ 154 [(11, .int (nI k_)), (10, .int (nI a_)), (9, .int (nI (gsf S g_ a_ k_))), (8, .int al), (3, .ref (q1)), (4, .long (lN (S.1 9))), (6, .int (nI (S.1 8))), (7, .int (nI (anC S g_))), (0, .ref (ad 0)), (1, .int (nI g_)), (2, .int (nI (S.1 1)))] [] (wA G ad (anS S g_) ++ ((q1, .inl (G.2.1, 5 * S.1 1, .inl bf)) :: F)) (204 + 80 * a_ + 0 + 2 * k_) (1418 + 480 * a_ + 0 + 12 * k_) := by
                    intro f154_
                    induction f154_ with
                    | zero => intro k_ al hk_ hal hf_; exact absurd hf_ (Nat.not_lt_zero _)
                    | succ f154_ ih154 =>
                      intro k_ al hk_ hal hf154_
                      refine yy_widen (cs2 := 204 + 80 * a_ + 0 + 2 * k_ + 0) (ss2 := 1418 + 480 * a_ + 0 + 12 * k_ + 0) (Nat.le_refl _) (Nat.le_refl _) ?_
                      refine yy_iload C 0 dL_answered_154 (pc' := 156) rfl rfl ?_
                      refine yy_iload_n C 10 dL_answered_156 (pc' := 157) rfl rfl rfl ?_
                      refine yn_icmp_ge C (by omega) (by omega) dL_answered_157 (pc' := 160) rfl (tgt := 255) (by decide) (fun c_157 => ?_) (fun c_157 => ?_)
                      · skip
                        refine yy_widen (cs2 := 204 + 80 * a_ + 80) (ss2 := 1418 + 480 * a_ + 480) (show 204 + 80 * a_ + 0 + 2 * k_ + 0 ≤ 204 + 80 * a_ + 80 by omega) (show 1418 + 480 * a_ + 0 + 12 * k_ + 0 ≤ 1418 + 480 * a_ + 480 by omega) ?_
                        obtain rfl : k_ = S.1 1 := by omega
                        refine yy_locq (L' := [(11, .int (nI (S.1 1))), (10, .int (nI a_)), (9, .int (nI (gsf S g_ (a_ + 1) 0))), (8, .int al), (3, .ref (q1)), (4, .long (lN (S.1 9))), (6, .int (nI (S.1 8))), (7, .int (nI (anC S g_))), (0, .ref (ad 0)), (1, .int (nI g_)), (2, .int (nI (S.1 1)))]) (by rw [gs_next]) ?_
                        refine yy_iinc C (v := (nI (a_ + 1))) (L' := [(10, .int (nI (a_ + 1))), (11, .int (nI (S.1 1))), (9, .int (nI (gsf S g_ (a_ + 1) 0))), (8, .int al), (3, .ref (q1)), (4, .long (lN (S.1 9))), (6, .int (nI (S.1 8))), (7, .int (nI (anC S g_))), (0, .ref (ad 0)), (1, .int (nI g_)), (2, .int (nI (S.1 1)))]) 1 dL_answered_255 (pc' := 258) rfl rfl (nI_add a_ 1) (by decide) rfl ?_
                        refine yy_goto C (tgt := 145) dL_answered_258 (by decide) ?_
                        refine yy_loc [0, 2, 3, 4, 5, 6, 7, 8, 9, 10] rfl ?_
                        refine yy_widen (cs2 := 204 + 80 * (a_ + 1)) (ss2 := 1418 + 480 * (a_ + 1)) (show 204 + 80 * a_ + 80 ≤ 204 + 80 * (a_ + 1) by omega) (show 1418 + 480 * a_ + 480 ≤ 1418 + 480 * (a_ + 1) by omega) ?_
                        exact ih145 (a_ + 1) _ (by omega) hal (by omega)
                      · skip
                        have ha2 : a_ < 5 := by omega
                        have hk2 : k_ < S.1 1 := by omega
                        have hk3 : k_ < (anS S g_).1 1 := by rw [an_n hR]; exact hk2
                        rcases (show hb (anS S g_) a_ k_ = false ∨ (hb (anS S g_) a_ k_ = true ∧ hb S a_ k_ = true) ∨ (hb (anS S g_) a_ k_ = true ∧ hb S a_ k_ = false) by cases hb (anS S g_) a_ k_ <;> cases hb S a_ k_ <;> simp) with y1 | ⟨y1, y2⟩ | ⟨y1, y2⟩
                        · skip
                          refine yy_aload_n C 8 dL_answered_160 (pc' := 161) rfl rfl rfl ?_
                          refine yy_iload C 1 dL_answered_161 (pc' := 163) rfl rfl ?_
                          refine yy_iload C 0 dL_answered_163 (pc' := 165) rfl rfl ?_
                          refine yc_i (yr_SW C (As := [.ref (ad 0), .int (nI a_), .int (nI k_)]) (rest := []) lk_L_218 cd_L_holds st_L_holds (mL_holds l hl0 G B0 ad ((q1, .inl (G.2.1, 5 * S.1 1, .inl bf)) :: F) (anS S g_) (nI a_) (nI k_) (an_rb hR hg hs).1.1) ⟨by decide, by decide⟩ ⟨(show 204 + 80 * a_ + 0 + 2 * k_ + 0 + 1 ≤ 606 by omega), (show 1418 + 480 * a_ + 0 + 12 * k_ + 0 + 6 ≤ 3830 by omega)⟩ rfl rfl (Nat.le_of_ble_eq_true rfl) dL_answered_165) (pc' := 168) rfl (fun r5 _ hw5 => ?_)
                          obtain rfl : r5 = (nI 0) := hw5.trans ((hd_01 (an_rb hR hg hs).1 ha2 hk3).trans (by rw [y1]; rfl))
                          refine yy_widen (cs2 := 204 + 80 * a_ + 0 + 2 * k_ + 1) (ss2 := 1418 + 480 * a_ + 0 + 12 * k_ + 6) (show 204 + 80 * a_ + 0 + 2 * k_ + 0 + 1 ≤ 204 + 80 * a_ + 0 + 2 * k_ + 1 by omega) (show 1418 + 480 * a_ + 0 + 12 * k_ + 0 + 6 ≤ 1418 + 480 * a_ + 0 + 12 * k_ + 6 by omega) ?_
                          refine yy_iconst C (v := (nI 1)) dL_answered_168 (pc' := 169) rfl (by decide) ?_
                          refine yy_icmp_ne C dL_answered_169 (pc' := 172) rfl (tgt := 188) (by decide) (fun c_169 => ?_) (fun c_169 => ?_)
                          · skip
                            refine yy_iconst C (v := (nI 0)) dL_answered_188 (pc' := 189) rfl (by decide) ?_
                            refine yy_istore C (L' := [(12, .int (nI 0)), (11, .int (nI k_)), (10, .int (nI a_)), (9, .int (nI (gsf S g_ a_ k_))), (8, .int al), (3, .ref (q1)), (4, .long (lN (S.1 9))), (6, .int (nI (S.1 8))), (7, .int (nI (anC S g_))), (0, .ref (ad 0)), (1, .int (nI g_)), (2, .int (nI (S.1 1)))]) dL_answered_189 (pc' := 191) rfl (by decide) rfl ?_
                            refine yy_iload C 0 dL_answered_191 (pc' := 193) rfl rfl ?_
                            refine yy_if_eq C dL_answered_193 (pc' := 196) rfl (tgt := 220) (by decide) (fun c_193 => ?_) (fun c_193 => ?_)
                            · skip
                              refine yy_iload C 0 dL_answered_220 (pc' := 222) rfl rfl ?_
                              refine yy_if_eq C dL_answered_222 (pc' := 225) rfl (tgt := 230) (by decide) (fun c_222 => ?_) (fun c_222 => ?_)
                              · skip
                                refine yy_iload C 4 dL_answered_230 (pc' := 232) rfl rfl ?_
                                refine yy_istore C (L' := [(8, .int al), (12, .int (nI 0)), (11, .int (nI k_)), (10, .int (nI a_)), (9, .int (nI (gsf S g_ a_ k_))), (3, .ref (q1)), (4, .long (lN (S.1 9))), (6, .int (nI (S.1 8))), (7, .int (nI (anC S g_))), (0, .ref (ad 0)), (1, .int (nI g_)), (2, .int (nI (S.1 1)))]) dL_answered_232 (pc' := 234) rfl (by decide) rfl ?_
                                refine yy_iload C 4 dL_answered_234 (pc' := 236) rfl rfl ?_
                                refine yy_iload C 1 dL_answered_236 (pc' := 238) rfl rfl ?_
                                refine yy_if_eq C dL_answered_238 (pc' := 241) rfl (tgt := 245) (by decide) (fun c_238 => ?_) (fun c_238 => ?_)
                                · skip
                                  refine yy_iconst C (v := (nI 0)) dL_answered_245 (pc' := 246) rfl (by decide) ?_
                                  refine yy_iadd C (v := (nI (gsf S g_ a_ (k_ + 1)))) dL_answered_246 (pc' := 247) rfl ((nI_add _ 0).trans (congrArg nI (by rw [gs_step hR hg hs ha2 hk2, nw, y1]; rfl))) ?_
                                  refine yy_istore C (L' := [(9, .int (nI (gsf S g_ a_ (k_ + 1)))), (8, .int al), (12, .int (nI 0)), (11, .int (nI k_)), (10, .int (nI a_)), (3, .ref (q1)), (4, .long (lN (S.1 9))), (6, .int (nI (S.1 8))), (7, .int (nI (anC S g_))), (0, .ref (ad 0)), (1, .int (nI g_)), (2, .int (nI (S.1 1)))]) dL_answered_247 (pc' := 249) rfl (by decide) rfl ?_
                                  refine yy_iinc C (v := (nI (k_ + 1))) (L' := [(11, .int (nI (k_ + 1))), (9, .int (nI (gsf S g_ a_ (k_ + 1)))), (8, .int al), (12, .int (nI 0)), (10, .int (nI a_)), (3, .ref (q1)), (4, .long (lN (S.1 9))), (6, .int (nI (S.1 8))), (7, .int (nI (anC S g_))), (0, .ref (ad 0)), (1, .int (nI g_)), (2, .int (nI (S.1 1)))]) 3 dL_answered_249 (pc' := 252) rfl rfl (nI_add k_ 1) (by decide) rfl ?_
                                  refine yy_goto C (tgt := 154) dL_answered_252 (by decide) ?_
                                  refine yy_loc [0, 4, 1, 2, 5, 6, 7, 8, 9, 10, 11] rfl ?_
                                  refine yy_widen (cs2 := 204 + 80 * a_ + 0 + 2 * (k_ + 1)) (ss2 := 1418 + 480 * a_ + 0 + 12 * (k_ + 1)) (show 204 + 80 * a_ + 0 + 2 * k_ + 1 ≤ 204 + 80 * a_ + 0 + 2 * (k_ + 1) by omega) (show 1418 + 480 * a_ + 0 + 12 * k_ + 6 ≤ 1418 + 480 * a_ + 0 + 12 * (k_ + 1) by omega) ?_
                                  exact ih154 (k_ + 1) _ (by omega) hal (by omega)
                                · skip
                                  exact absurd c_238 (by decide)
                              · skip
                                exact absurd c_222 (by decide)
                            · skip
                              exact absurd c_193 (by decide)
                          · skip
                            exact absurd c_169 (by decide)
                        · skip
                          refine yy_aload_n C 8 dL_answered_160 (pc' := 161) rfl rfl rfl ?_
                          refine yy_iload C 1 dL_answered_161 (pc' := 163) rfl rfl ?_
                          refine yy_iload C 0 dL_answered_163 (pc' := 165) rfl rfl ?_
                          refine yc_i (yr_SW C (As := [.ref (ad 0), .int (nI a_), .int (nI k_)]) (rest := []) lk_L_218 cd_L_holds st_L_holds (mL_holds l hl0 G B0 ad ((q1, .inl (G.2.1, 5 * S.1 1, .inl bf)) :: F) (anS S g_) (nI a_) (nI k_) (an_rb hR hg hs).1.1) ⟨by decide, by decide⟩ ⟨(show 204 + 80 * a_ + 0 + 2 * k_ + 0 + 1 ≤ 606 by omega), (show 1418 + 480 * a_ + 0 + 12 * k_ + 0 + 6 ≤ 3830 by omega)⟩ rfl rfl (Nat.le_of_ble_eq_true rfl) dL_answered_165) (pc' := 168) rfl (fun r5 _ hw5 => ?_)
                          obtain rfl : r5 = (nI 1) := hw5.trans ((hd_01 (an_rb hR hg hs).1 ha2 hk3).trans (by rw [y1]; rfl))
                          refine yy_widen (cs2 := 204 + 80 * a_ + 0 + 2 * k_ + 1) (ss2 := 1418 + 480 * a_ + 0 + 12 * k_ + 6) (show 204 + 80 * a_ + 0 + 2 * k_ + 0 + 1 ≤ 204 + 80 * a_ + 0 + 2 * k_ + 1 by omega) (show 1418 + 480 * a_ + 0 + 12 * k_ + 0 + 6 ≤ 1418 + 480 * a_ + 0 + 12 * k_ + 6 by omega) ?_
                          refine yy_iconst C (v := (nI 1)) dL_answered_168 (pc' := 169) rfl (by decide) ?_
                          refine yy_icmp_ne C dL_answered_169 (pc' := 172) rfl (tgt := 188) (by decide) (fun c_169 => ?_) (fun c_169 => ?_)
                          · skip
                            exact absurd c_169 (by decide)
                          · skip
                            refine yy_aload_n C 4 dL_answered_172 (pc' := 173) rfl rfl rfl ?_
                            refine yy_iload_n C 10 dL_answered_173 (pc' := 174) rfl rfl rfl ?_
                            refine yy_iload C 1 dL_answered_174 (pc' := 176) rfl rfl ?_
                            refine yy_imul C (v := (nI ((S.1 1) * a_))) dL_answered_176 (pc' := 177) rfl (pk_mul (S.1 1) a_) ?_
                            refine yy_iload C 0 dL_answered_177 (pc' := 179) rfl rfl ?_
                            refine yy_iadd C (v := (nI (((S.1 1) * a_) + k_))) dL_answered_179 (pc' := 180) rfl (nI_add ((S.1 1) * a_) k_) ?_
                            refine yy_iald C 28 dL_answered_180 (pc' := 181) rfl rfl (idx_ltn ha2 hk2) (by omega) ?_
                            refine yy_eqi ((hbb a_ k_ ha2 hk2 (Or.inl ha2)).trans (by rw [y2] <;> rfl)) ?_
                            refine yy_if_ne C dL_answered_181 (pc' := 184) rfl (tgt := 188) (by decide) (fun c_181 => ?_) (fun c_181 => ?_)
                            · skip
                              refine yy_iconst C (v := (nI 0)) dL_answered_188 (pc' := 189) rfl (by decide) ?_
                              refine yy_istore C (L' := [(12, .int (nI 0)), (11, .int (nI k_)), (10, .int (nI a_)), (9, .int (nI (gsf S g_ a_ k_))), (8, .int al), (3, .ref (q1)), (4, .long (lN (S.1 9))), (6, .int (nI (S.1 8))), (7, .int (nI (anC S g_))), (0, .ref (ad 0)), (1, .int (nI g_)), (2, .int (nI (S.1 1)))]) dL_answered_189 (pc' := 191) rfl (by decide) rfl ?_
                              refine yy_iload C 0 dL_answered_191 (pc' := 193) rfl rfl ?_
                              refine yy_if_eq C dL_answered_193 (pc' := 196) rfl (tgt := 220) (by decide) (fun c_193 => ?_) (fun c_193 => ?_)
                              · skip
                                refine yy_iload C 0 dL_answered_220 (pc' := 222) rfl rfl ?_
                                refine yy_if_eq C dL_answered_222 (pc' := 225) rfl (tgt := 230) (by decide) (fun c_222 => ?_) (fun c_222 => ?_)
                                · skip
                                  refine yy_iload C 4 dL_answered_230 (pc' := 232) rfl rfl ?_
                                  refine yy_istore C (L' := [(8, .int al), (12, .int (nI 0)), (11, .int (nI k_)), (10, .int (nI a_)), (9, .int (nI (gsf S g_ a_ k_))), (3, .ref (q1)), (4, .long (lN (S.1 9))), (6, .int (nI (S.1 8))), (7, .int (nI (anC S g_))), (0, .ref (ad 0)), (1, .int (nI g_)), (2, .int (nI (S.1 1)))]) dL_answered_232 (pc' := 234) rfl (by decide) rfl ?_
                                  refine yy_iload C 4 dL_answered_234 (pc' := 236) rfl rfl ?_
                                  refine yy_iload C 1 dL_answered_236 (pc' := 238) rfl rfl ?_
                                  refine yy_if_eq C dL_answered_238 (pc' := 241) rfl (tgt := 245) (by decide) (fun c_238 => ?_) (fun c_238 => ?_)
                                  · skip
                                    refine yy_iconst C (v := (nI 0)) dL_answered_245 (pc' := 246) rfl (by decide) ?_
                                    refine yy_iadd C (v := (nI (gsf S g_ a_ (k_ + 1)))) dL_answered_246 (pc' := 247) rfl ((nI_add _ 0).trans (congrArg nI (by rw [gs_step hR hg hs ha2 hk2, nw, y1, y2]; rfl))) ?_
                                    refine yy_istore C (L' := [(9, .int (nI (gsf S g_ a_ (k_ + 1)))), (8, .int al), (12, .int (nI 0)), (11, .int (nI k_)), (10, .int (nI a_)), (3, .ref (q1)), (4, .long (lN (S.1 9))), (6, .int (nI (S.1 8))), (7, .int (nI (anC S g_))), (0, .ref (ad 0)), (1, .int (nI g_)), (2, .int (nI (S.1 1)))]) dL_answered_247 (pc' := 249) rfl (by decide) rfl ?_
                                    refine yy_iinc C (v := (nI (k_ + 1))) (L' := [(11, .int (nI (k_ + 1))), (9, .int (nI (gsf S g_ a_ (k_ + 1)))), (8, .int al), (12, .int (nI 0)), (10, .int (nI a_)), (3, .ref (q1)), (4, .long (lN (S.1 9))), (6, .int (nI (S.1 8))), (7, .int (nI (anC S g_))), (0, .ref (ad 0)), (1, .int (nI g_)), (2, .int (nI (S.1 1)))]) 3 dL_answered_249 (pc' := 252) rfl rfl (nI_add k_ 1) (by decide) rfl ?_
                                    refine yy_goto C (tgt := 154) dL_answered_252 (by decide) ?_
                                    refine yy_loc [0, 4, 1, 2, 5, 6, 7, 8, 9, 10, 11] rfl ?_
                                    refine yy_widen (cs2 := 204 + 80 * a_ + 0 + 2 * (k_ + 1)) (ss2 := 1418 + 480 * a_ + 0 + 12 * (k_ + 1)) (show 204 + 80 * a_ + 0 + 2 * k_ + 1 ≤ 204 + 80 * a_ + 0 + 2 * (k_ + 1) by omega) (show 1418 + 480 * a_ + 0 + 12 * k_ + 6 ≤ 1418 + 480 * a_ + 0 + 12 * (k_ + 1) by omega) ?_
                                    exact ih154 (k_ + 1) _ (by omega) hal (by omega)
                                  · skip
                                    exact absurd c_238 (by decide)
                                · skip
                                  exact absurd c_222 (by decide)
                              · skip
                                exact absurd c_193 (by decide)
                            · skip
                              exact absurd c_181 (by decide)
                        · skip
                          obtain ⟨ea_, hh_⟩ := an_new hR hg hs ha2 hk2 (show nw S g_ a_ k_ = true by rw [nw, y1, y2]; rfl)
                          refine yy_aload_n C 8 dL_answered_160 (pc' := 161) rfl rfl rfl ?_
                          refine yy_iload C 1 dL_answered_161 (pc' := 163) rfl rfl ?_
                          refine yy_iload C 0 dL_answered_163 (pc' := 165) rfl rfl ?_
                          refine yc_i (yr_SW C (As := [.ref (ad 0), .int (nI a_), .int (nI k_)]) (rest := []) lk_L_218 cd_L_holds st_L_holds (mL_holds l hl0 G B0 ad ((q1, .inl (G.2.1, 5 * S.1 1, .inl bf)) :: F) (anS S g_) (nI a_) (nI k_) (an_rb hR hg hs).1.1) ⟨by decide, by decide⟩ ⟨(show 204 + 80 * a_ + 0 + 2 * k_ + 0 + 1 ≤ 606 by omega), (show 1418 + 480 * a_ + 0 + 12 * k_ + 0 + 6 ≤ 3830 by omega)⟩ rfl rfl (Nat.le_of_ble_eq_true rfl) dL_answered_165) (pc' := 168) rfl (fun r5 _ hw5 => ?_)
                          obtain rfl : r5 = (nI 1) := hw5.trans ((hd_01 (an_rb hR hg hs).1 ha2 hk3).trans (by rw [y1]; rfl))
                          refine yy_widen (cs2 := 204 + 80 * a_ + 0 + 2 * k_ + 1) (ss2 := 1418 + 480 * a_ + 0 + 12 * k_ + 6) (show 204 + 80 * a_ + 0 + 2 * k_ + 0 + 1 ≤ 204 + 80 * a_ + 0 + 2 * k_ + 1 by omega) (show 1418 + 480 * a_ + 0 + 12 * k_ + 0 + 6 ≤ 1418 + 480 * a_ + 0 + 12 * k_ + 6 by omega) ?_
                          refine yy_iconst C (v := (nI 1)) dL_answered_168 (pc' := 169) rfl (by decide) ?_
                          refine yy_icmp_ne C dL_answered_169 (pc' := 172) rfl (tgt := 188) (by decide) (fun c_169 => ?_) (fun c_169 => ?_)
                          · skip
                            exact absurd c_169 (by decide)
                          · skip
                            refine yy_aload_n C 4 dL_answered_172 (pc' := 173) rfl rfl rfl ?_
                            refine yy_iload_n C 10 dL_answered_173 (pc' := 174) rfl rfl rfl ?_
                            refine yy_iload C 1 dL_answered_174 (pc' := 176) rfl rfl ?_
                            refine yy_imul C (v := (nI ((S.1 1) * a_))) dL_answered_176 (pc' := 177) rfl (pk_mul (S.1 1) a_) ?_
                            refine yy_iload C 0 dL_answered_177 (pc' := 179) rfl rfl ?_
                            refine yy_iadd C (v := (nI (((S.1 1) * a_) + k_))) dL_answered_179 (pc' := 180) rfl (nI_add ((S.1 1) * a_) k_) ?_
                            refine yy_iald C 28 dL_answered_180 (pc' := 181) rfl rfl (idx_ltn ha2 hk2) (by omega) ?_
                            refine yy_eqi ((hbb a_ k_ ha2 hk2 (Or.inl ha2)).trans (by rw [y2] <;> rfl)) ?_
                            refine yy_if_ne C dL_answered_181 (pc' := 184) rfl (tgt := 188) (by decide) (fun c_181 => ?_) (fun c_181 => ?_)
                            · skip
                              exact absurd c_181 (by decide)
                            · skip
                              refine yy_iconst C (v := (nI 1)) dL_answered_184 (pc' := 185) rfl (by decide) ?_
                              refine yy_goto C (tgt := 189) dL_answered_185 (by decide) ?_
                              refine yy_istore C (L' := [(12, .int (nI 1)), (11, .int (nI k_)), (10, .int (nI a_)), (9, .int (nI (gsf S g_ a_ k_))), (8, .int al), (3, .ref (q1)), (4, .long (lN (S.1 9))), (6, .int (nI (S.1 8))), (7, .int (nI (anC S g_))), (0, .ref (ad 0)), (1, .int (nI g_)), (2, .int (nI (S.1 1)))]) dL_answered_189 (pc' := 191) rfl (by decide) rfl ?_
                              refine yy_iload C 0 dL_answered_191 (pc' := 193) rfl rfl ?_
                              refine yy_if_eq C dL_answered_193 (pc' := 196) rfl (tgt := 220) (by decide) (fun c_193 => ?_) (fun c_193 => ?_)
                              · skip
                                exact absurd c_193 (by decide)
                              · skip
                                refine yy_aload_n C 9 dL_answered_196 (pc' := 197) rfl rfl rfl ?_
                                refine yy_iload C 1 dL_answered_197 (pc' := 199) rfl rfl ?_
                                refine yc_i (yr_SW C (As := [.ref (ad 0), .int (nI k_)]) (rest := []) lk_L_204 cd_L_isHidden st_L_isHidden (mL_isHidden l hl0 G B0 ad ((q1, .inl (G.2.1, 5 * S.1 1, .inl bf)) :: F) (anS S g_) (nI k_) (an_rb hR hg hs).1.1) ⟨by decide, by decide⟩ ⟨(show 204 + 80 * a_ + 0 + 2 * k_ + 1 + 1 ≤ 606 by omega), (show 1418 + 480 * a_ + 0 + 12 * k_ + 6 + 6 ≤ 3830 by omega)⟩ rfl rfl (Nat.le_of_ble_eq_true rfl) dL_answered_199) (pc' := 202) rfl (fun r6 _ hw6 => ?_)
                                obtain rfl : r6 = (nI 0) := hw6.trans ((hd_hid (an_rb hR hg hs).1 hk3).trans (by rw [hh_]; rfl))
                                refine yy_widen (cs2 := 204 + 80 * a_ + 0 + 2 * k_ + 2) (ss2 := 1418 + 480 * a_ + 0 + 12 * k_ + 12) (show 204 + 80 * a_ + 0 + 2 * k_ + 1 + 1 ≤ 204 + 80 * a_ + 0 + 2 * k_ + 2 by omega) (show 1418 + 480 * a_ + 0 + 12 * k_ + 6 + 6 ≤ 1418 + 480 * a_ + 0 + 12 * k_ + 12 by omega) ?_
                                refine yy_iconst C (v := (nI 1)) dL_answered_202 (pc' := 203) rfl (by decide) ?_
                                refine yy_icmp_eq C dL_answered_203 (pc' := 206) rfl (tgt := 218) (by decide) (fun c_203 => ?_) (fun c_203 => ?_)
                                · skip
                                  exact absurd c_203 (by decide)
                                · skip
                                  rcases (show al = (-1) ∨ al = nI a_ by rw [ea_]; exact hal) with rfl | rfl
                                  · skip
                                    refine yy_iload C 4 dL_answered_206 (pc' := 208) rfl rfl ?_
                                    refine yy_if_lt C dL_answered_208 (pc' := 211) rfl (tgt := 220) (by decide) (fun c_208 => ?_) (fun c_208 => ?_)
                                    · skip
                                      refine yy_iload C 0 dL_answered_220 (pc' := 222) rfl rfl ?_
                                      refine yy_if_eq C dL_answered_222 (pc' := 225) rfl (tgt := 230) (by decide) (fun c_222 => ?_) (fun c_222 => ?_)
                                      · skip
                                        exact absurd c_222 (by decide)
                                      · skip
                                        refine yy_iload C 2 dL_answered_225 (pc' := 227) rfl rfl ?_
                                        refine yy_goto C (tgt := 232) dL_answered_227 (by decide) ?_
                                        refine yy_istore C (L' := [(8, .int (nI a_)), (12, .int (nI 1)), (11, .int (nI k_)), (10, .int (nI a_)), (9, .int (nI (gsf S g_ a_ k_))), (3, .ref (q1)), (4, .long (lN (S.1 9))), (6, .int (nI (S.1 8))), (7, .int (nI (anC S g_))), (0, .ref (ad 0)), (1, .int (nI g_)), (2, .int (nI (S.1 1)))]) dL_answered_232 (pc' := 234) rfl (by decide) rfl ?_
                                        refine yy_iload C 4 dL_answered_234 (pc' := 236) rfl rfl ?_
                                        refine yy_iload C 1 dL_answered_236 (pc' := 238) rfl rfl ?_
                                        refine yy_if_eq C dL_answered_238 (pc' := 241) rfl (tgt := 245) (by decide) (fun c_238 => ?_) (fun c_238 => ?_)
                                        · skip
                                          exact absurd c_238 (by decide)
                                        · skip
                                          refine yy_iconst C (v := (nI 1)) dL_answered_241 (pc' := 242) rfl (by decide) ?_
                                          refine yy_goto C (tgt := 246) dL_answered_242 (by decide) ?_
                                          refine yy_iadd C (v := (nI (gsf S g_ a_ (k_ + 1)))) dL_answered_246 (pc' := 247) rfl ((nI_add _ 1).trans (congrArg nI (by rw [gs_step hR hg hs ha2 hk2, nw, y1, y2]; rfl))) ?_
                                          refine yy_istore C (L' := [(9, .int (nI (gsf S g_ a_ (k_ + 1)))), (8, .int (nI a_)), (12, .int (nI 1)), (11, .int (nI k_)), (10, .int (nI a_)), (3, .ref (q1)), (4, .long (lN (S.1 9))), (6, .int (nI (S.1 8))), (7, .int (nI (anC S g_))), (0, .ref (ad 0)), (1, .int (nI g_)), (2, .int (nI (S.1 1)))]) dL_answered_247 (pc' := 249) rfl (by decide) rfl ?_
                                          refine yy_iinc C (v := (nI (k_ + 1))) (L' := [(11, .int (nI (k_ + 1))), (9, .int (nI (gsf S g_ a_ (k_ + 1)))), (8, .int (nI a_)), (12, .int (nI 1)), (10, .int (nI a_)), (3, .ref (q1)), (4, .long (lN (S.1 9))), (6, .int (nI (S.1 8))), (7, .int (nI (anC S g_))), (0, .ref (ad 0)), (1, .int (nI g_)), (2, .int (nI (S.1 1)))]) 3 dL_answered_249 (pc' := 252) rfl rfl (nI_add k_ 1) (by decide) rfl ?_
                                          refine yy_goto C (tgt := 154) dL_answered_252 (by decide) ?_
                                          refine yy_loc [0, 4, 1, 2, 5, 6, 7, 8, 9, 10, 11] rfl ?_
                                          refine yy_widen (cs2 := 204 + 80 * a_ + 0 + 2 * (k_ + 1)) (ss2 := 1418 + 480 * a_ + 0 + 12 * (k_ + 1)) (show 204 + 80 * a_ + 0 + 2 * k_ + 2 ≤ 204 + 80 * a_ + 0 + 2 * (k_ + 1) by omega) (show 1418 + 480 * a_ + 0 + 12 * k_ + 12 ≤ 1418 + 480 * a_ + 0 + 12 * (k_ + 1) by omega) ?_
                                          exact ih154 (k_ + 1) _ (by omega) (Or.inr (by rw [ea_])) (by omega)
                                    · skip
                                      exact absurd c_208 (by decide)
                                  · skip
                                    refine yy_iload C 4 dL_answered_206 (pc' := 208) rfl rfl ?_
                                    refine yy_if_lt C dL_answered_208 (pc' := 211) rfl (tgt := 220) (by decide) (fun c_208 => ?_) (fun c_208 => ?_)
                                    · skip
                                      exact absurd c_208 (nI_pos (by omega))
                                    · skip
                                      refine yy_iload C 4 dL_answered_211 (pc' := 213) rfl rfl ?_
                                      refine yy_iload C 2 dL_answered_213 (pc' := 215) rfl rfl ?_
                                      refine yn_icmp_eq C (by omega) (by omega) dL_answered_215 (pc' := 218) rfl (tgt := 220) (by decide) (fun c_215 => ?_) (fun c_215 => ?_)
                                      · skip
                                        refine yy_iload C 0 dL_answered_220 (pc' := 222) rfl rfl ?_
                                        refine yy_if_eq C dL_answered_222 (pc' := 225) rfl (tgt := 230) (by decide) (fun c_222 => ?_) (fun c_222 => ?_)
                                        · skip
                                          exact absurd c_222 (by decide)
                                        · skip
                                          refine yy_iload C 2 dL_answered_225 (pc' := 227) rfl rfl ?_
                                          refine yy_goto C (tgt := 232) dL_answered_227 (by decide) ?_
                                          refine yy_istore C (L' := [(8, .int (nI a_)), (12, .int (nI 1)), (11, .int (nI k_)), (10, .int (nI a_)), (9, .int (nI (gsf S g_ a_ k_))), (3, .ref (q1)), (4, .long (lN (S.1 9))), (6, .int (nI (S.1 8))), (7, .int (nI (anC S g_))), (0, .ref (ad 0)), (1, .int (nI g_)), (2, .int (nI (S.1 1)))]) dL_answered_232 (pc' := 234) rfl (by decide) rfl ?_
                                          refine yy_iload C 4 dL_answered_234 (pc' := 236) rfl rfl ?_
                                          refine yy_iload C 1 dL_answered_236 (pc' := 238) rfl rfl ?_
                                          refine yy_if_eq C dL_answered_238 (pc' := 241) rfl (tgt := 245) (by decide) (fun c_238 => ?_) (fun c_238 => ?_)
                                          · skip
                                            exact absurd c_238 (by decide)
                                          · skip
                                            refine yy_iconst C (v := (nI 1)) dL_answered_241 (pc' := 242) rfl (by decide) ?_
                                            refine yy_goto C (tgt := 246) dL_answered_242 (by decide) ?_
                                            refine yy_iadd C (v := (nI (gsf S g_ a_ (k_ + 1)))) dL_answered_246 (pc' := 247) rfl ((nI_add _ 1).trans (congrArg nI (by rw [gs_step hR hg hs ha2 hk2, nw, y1, y2]; rfl))) ?_
                                            refine yy_istore C (L' := [(9, .int (nI (gsf S g_ a_ (k_ + 1)))), (8, .int (nI a_)), (12, .int (nI 1)), (11, .int (nI k_)), (10, .int (nI a_)), (3, .ref (q1)), (4, .long (lN (S.1 9))), (6, .int (nI (S.1 8))), (7, .int (nI (anC S g_))), (0, .ref (ad 0)), (1, .int (nI g_)), (2, .int (nI (S.1 1)))]) dL_answered_247 (pc' := 249) rfl (by decide) rfl ?_
                                            refine yy_iinc C (v := (nI (k_ + 1))) (L' := [(11, .int (nI (k_ + 1))), (9, .int (nI (gsf S g_ a_ (k_ + 1)))), (8, .int (nI a_)), (12, .int (nI 1)), (10, .int (nI a_)), (3, .ref (q1)), (4, .long (lN (S.1 9))), (6, .int (nI (S.1 8))), (7, .int (nI (anC S g_))), (0, .ref (ad 0)), (1, .int (nI g_)), (2, .int (nI (S.1 1)))]) 3 dL_answered_249 (pc' := 252) rfl rfl (nI_add k_ 1) (by decide) rfl ?_
                                            refine yy_goto C (tgt := 154) dL_answered_252 (by decide) ?_
                                            refine yy_loc [0, 4, 1, 2, 5, 6, 7, 8, 9, 10, 11] rfl ?_
                                            refine yy_widen (cs2 := 204 + 80 * a_ + 0 + 2 * (k_ + 1)) (ss2 := 1418 + 480 * a_ + 0 + 12 * (k_ + 1)) (show 204 + 80 * a_ + 0 + 2 * k_ + 2 ≤ 204 + 80 * a_ + 0 + 2 * (k_ + 1) by omega) (show 1418 + 480 * a_ + 0 + 12 * k_ + 12 ≤ 1418 + 480 * a_ + 0 + 12 * (k_ + 1) by omega) ?_
                                            exact ih154 (k_ + 1) _ (by omega) (Or.inr (by rw [ea_])) (by omega)
                                      · skip
                                        exact absurd rfl c_215
                  refine yy_loc (L' := [(11, .int (nI 0)), (10, .int (nI a_)), (9, .int (nI (gsf S g_ a_ 0))), (8, .int ak), (3, .ref (q1)), (4, .long (lN (S.1 9))), (6, .int (nI (S.1 8))), (7, .int (nI (anC S g_))), (0, .ref (ad 0)), (1, .int (nI g_)), (2, .int (nI (S.1 1)))]) [0, 1, 2, 3, 4, 5, 6, 7, 8, 9, 10] rfl ?_
                  refine yy_widen (cs2 := 204 + 80 * a_ + 0 + 2 * 0) (ss2 := 1418 + 480 * a_ + 0 + 12 * 0) (Nat.le_refl _) (Nat.le_refl _) ?_
                  exact lp_154 (S.1 1 + 1) 0 _ (Nat.zero_le _) hak (by omega)
            refine yy_loc (L' := [(10, .int (nI 0)), (9, .int (nI (gsf S g_ 0 0))), (8, .int (-1)), (3, .ref (q1)), (4, .long (lN (S.1 9))), (6, .int (nI (S.1 8))), (7, .int (nI (anC S g_))), (0, .ref (ad 0)), (1, .int (nI g_)), (2, .int (nI (S.1 1)))]) [0, 1, 2, 6, 5, 4, 3, 7, 8, 9] rfl ?_
            refine yy_widen (cs2 := 204 + 80 * 0) (ss2 := 1418 + 480 * 0) (Nat.le_refl _) (Nat.le_refl _) ?_
            exact lp_145 6 0 _ (Nat.zero_le _) (Or.inl rfl) (by omega)
          · skip
            refine yy_iconst C (v := (nI 0)) dL_answered_77 (pc' := 78) rfl (by decide) ?_
            refine yy_istore C (L' := [(5, .int (nI 0)), (4, .int (nI a_)), (3, .ref (q1)), (0, .ref (ad 0)), (1, .int (nI g_)), (2, .int (nI (S.1 1)))]) dL_answered_78 (pc' := 80) rfl (by decide) rfl ?_
            have lp_80 : ∀ (f80_ : Nat) (k_ : Nat) (bg : Nat → Int32), (hk_ : k_ ≤ S.1 1) → (hb2_ : BFR S bg a_ k_) → S.1 1 - k_ < f80_ → YY p l e rL_answered s m args below meth c G B0 13 QQ 80 [(5, .int (nI k_)), (4, .int (nI a_)), (3, .ref (q1)), (0, .ref (ad 0)), (1, .int (nI g_)), (2, .int (nI (S.1 1)))] [] (wA G ad S ++ ((q1, .inl (G.2.1, 5 * S.1 1, .inl bg)) :: F)) (2 + 40 * a_ + 0 + 1 * k_) (206 + 240 * a_ + 0 + 6 * k_) := by
              intro f80_
              induction f80_ with
              | zero => intro k_ bg hk_ hb2_ hf_; exact absurd hf_ (Nat.not_lt_zero _)
              | succ f80_ ih80 =>
                intro k_ bg hk_ hb2_ hf80_
                refine yy_widen (cs2 := 2 + 40 * a_ + 0 + 1 * k_ + 0) (ss2 := 206 + 240 * a_ + 0 + 6 * k_ + 0) (Nat.le_refl _) (Nat.le_refl _) ?_
                refine yy_iload C 0 dL_answered_80 (pc' := 82) rfl rfl ?_
                refine yy_iload_n C 5 dL_answered_82 (pc' := 83) rfl rfl rfl ?_
                refine yn_icmp_ge C (by omega) (by omega) dL_answered_83 (pc' := 86) rfl (tgt := 109) (by decide) (fun c_83 => ?_) (fun c_83 => ?_)
                · skip
                  refine yy_widen (cs2 := 2 + 40 * a_ + 40) (ss2 := 206 + 240 * a_ + 240) (show 2 + 40 * a_ + 0 + 1 * k_ + 0 ≤ 2 + 40 * a_ + 40 by omega) (show 206 + 240 * a_ + 0 + 6 * k_ + 0 ≤ 206 + 240 * a_ + 240 by omega) ?_
                  obtain rfl : k_ = S.1 1 := by omega
                  refine yy_iinc C (v := (nI (a_ + 1))) (L' := [(4, .int (nI (a_ + 1))), (5, .int (nI (S.1 1))), (3, .ref (q1)), (0, .ref (ad 0)), (1, .int (nI g_)), (2, .int (nI (S.1 1)))]) 1 dL_answered_109 (pc' := 112) rfl rfl (nI_add a_ 1) (by decide) rfl ?_
                  refine yy_goto C (tgt := 71) dL_answered_112 (by decide) ?_
                  refine yy_loc [0, 2, 3, 4, 5] rfl ?_
                  refine yy_widen (cs2 := 2 + 40 * (a_ + 1)) (ss2 := 206 + 240 * (a_ + 1)) (show 2 + 40 * a_ + 40 ≤ 2 + 40 * (a_ + 1) by omega) (show 206 + 240 * a_ + 240 ≤ 206 + 240 * (a_ + 1) by omega) ?_
                  exact ih71 (a_ + 1) _ (by omega) (bf_next hb2_) (by omega)
                · skip
                  have hk2 : k_ < S.1 1 := by omega
                  refine yy_aload_n C 2 dL_answered_86 (pc' := 87) rfl rfl rfl ?_
                  refine yy_iload_n C 5 dL_answered_87 (pc' := 88) rfl rfl rfl ?_
                  refine yy_iload C 1 dL_answered_88 (pc' := 90) rfl rfl ?_
                  refine yy_imul C (v := (nI ((S.1 1) * a_))) dL_answered_90 (pc' := 91) rfl (pk_mul (S.1 1) a_) ?_
                  refine yy_iload C 0 dL_answered_91 (pc' := 93) rfl rfl ?_
                  refine yy_iadd C (v := (nI (((S.1 1) * a_) + k_))) dL_answered_93 (pc' := 94) rfl (nI_add ((S.1 1) * a_) k_) ?_
                  refine yy_aload_n C 3 dL_answered_94 (pc' := 95) rfl rfl rfl ?_
                  refine yy_iload C 1 dL_answered_95 (pc' := 97) rfl rfl ?_
                  refine yy_iload C 0 dL_answered_97 (pc' := 99) rfl rfl ?_
                  refine yc_i (yr_SW C (As := [.ref (ad 0), .int (nI a_), .int (nI k_)]) (rest := [.int (nI (((S.1 1) * a_) + k_)), .ref (q1)]) lk_L_218 cd_L_holds st_L_holds (mL_holds l hl0 G B0 ad ((q1, .inl (G.2.1, 5 * S.1 1, .inl bg)) :: F) S (nI a_) (nI k_) hR.1.1) ⟨by decide, by decide⟩ ⟨(show 2 + 40 * a_ + 0 + 1 * k_ + 0 + 1 ≤ 606 by omega), (show 206 + 240 * a_ + 0 + 6 * k_ + 0 + 6 ≤ 3830 by omega)⟩ rfl rfl (Nat.le_of_ble_eq_true rfl) dL_answered_99) (pc' := 102) rfl (fun r2 _ hw2 => ?_)
                  obtain rfl : r2 = (nI (b01 (hb S a_ k_))) := hw2.trans (hd_01 hR.1 (by omega) hk2)
                  refine yy_widen (cs2 := 2 + 40 * a_ + 0 + 1 * k_ + 1) (ss2 := 206 + 240 * a_ + 0 + 6 * k_ + 6) (show 2 + 40 * a_ + 0 + 1 * k_ + 0 + 1 ≤ 2 + 40 * a_ + 0 + 1 * k_ + 1 by omega) (show 206 + 240 * a_ + 0 + 6 * k_ + 0 + 6 ≤ 206 + 240 * a_ + 0 + 6 * k_ + 6 by omega) ?_
                  refine yy_iast C (w' := wA G ad S ++ ((q1, .inl (G.2.1, 5 * S.1 1, .inl (upd bg (((S.1 1) * a_) + k_) (nI (b01 (hb S a_ k_)))))) :: F)) 28 dL_answered_102 (pc' := 103) rfl rfl (idx_ltn (by omega) hk2) (by omega) rfl ?_
                  refine yy_iinc C (v := (nI (k_ + 1))) (L' := [(5, .int (nI (k_ + 1))), (4, .int (nI a_)), (3, .ref (q1)), (0, .ref (ad 0)), (1, .int (nI g_)), (2, .int (nI (S.1 1)))]) 0 dL_answered_103 (pc' := 106) rfl rfl (nI_add k_ 1) (by decide) rfl ?_
                  refine yy_goto C (tgt := 80) dL_answered_106 (by decide) ?_
                  refine yy_loc [0, 1, 2, 3, 4, 5] rfl ?_
                  refine yy_widen (cs2 := 2 + 40 * a_ + 0 + 1 * (k_ + 1)) (ss2 := 206 + 240 * a_ + 0 + 6 * (k_ + 1)) (show 2 + 40 * a_ + 0 + 1 * k_ + 1 ≤ 2 + 40 * a_ + 0 + 1 * (k_ + 1) by omega) (show 206 + 240 * a_ + 0 + 6 * k_ + 6 ≤ 206 + 240 * a_ + 0 + 6 * (k_ + 1) by omega) ?_
                  exact ih80 (k_ + 1) _ (by omega) (bf_step hb2_ hk2) (by omega)
            refine yy_loc (L' := [(5, .int (nI 0)), (4, .int (nI a_)), (3, .ref (q1)), (0, .ref (ad 0)), (1, .int (nI g_)), (2, .int (nI (S.1 1)))]) [0, 1, 2, 3, 4, 5] rfl ?_
            refine yy_widen (cs2 := 2 + 40 * a_ + 0 + 1 * 0) (ss2 := 206 + 240 * a_ + 0 + 6 * 0) (Nat.le_refl _) (Nat.le_refl _) ?_
            exact lp_80 (S.1 1 + 1) 0 _ (Nat.zero_le _) hb_ (by omega)
      refine yy_loc (L' := [(4, .int (nI 0)), (3, .ref (q1)), (0, .ref (ad 0)), (1, .int (nI g_)), (2, .int (nI (S.1 1)))]) [0, 1, 2, 3, 4] rfl ?_
      refine yy_widen (cs2 := 2 + 40 * 0) (ss2 := 206 + 240 * 0) (Nat.le_refl _) (Nat.le_refl _) ?_
      exact lp_71 6 0 _ (Nat.zero_le _) (fun i j _ _ h => by omega) (by omega)
    · skip
      exact absurd c_7 (by decide)
