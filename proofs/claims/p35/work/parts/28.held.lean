abbrev rL_held_ : Room := { frames := 10, cells := 245, slots := 1470, locals := 182 }
set_option maxHeartbeats 4000000 in
set_option maxRecDepth 100000 in
theorem mL_held_ (l : Launch) (hl0 : l.stackTraces = false) (G : gG) (B0 : Nat) (ad : Nat → Nat) (F : va_W) (S : SA) (a : Nat) (hR : RI S) (ha : a < 5) : Met l yL_held_ (Cond.code yL_held_ cL_held_ 11 (some .boolean) :: WG) rL_held_ (va_Pc [.ref (ad 0), .int (nI a), .int (nI (S.1 1))] (PR G B0 (wA G ad S ++ F))) (va_Qi (fun (r : Int32) (_ : Unit) => r = nI 1) (fun (_ : Unit) (t_ : State) => va_P G.1 vwCl (wA G ad S ++ F) t_.heap ∧ va_D (fun q => B0 ≤ q) (wA G ad S ++ F)) (fun q => B0 ≤ q)) rL_held_.cells rL_held_.slots (fun q => B0 ≤ q) := by
  refine met_of RL [(0, .ref (ad 0)), (1, .int (nI a)), (2, .int (nI (S.1 1)))] rfl (by decide) (Nat.le_of_ble_eq_true rfl) rfl ?_
  intro p e s m args below meth c C hr hnm
  refine yq ?_
  intro QQ hQ
  have hL_ := hR.1.1.2.1
  refine yy_iconst C (v := (nI 0)) dL_held__0 (pc' := 1) rfl (by decide) ?_
  refine yy_istore_n C (L' := [(3, .int (nI 0)), (0, .ref (ad 0)), (1, .int (nI a)), (2, .int (nI (S.1 1)))]) dL_held__1 (pc' := 2) rfl rfl (by decide) rfl ?_
  refine yy_iconst C (v := (nI 0)) dL_held__2 (pc' := 3) rfl (by decide) ?_
  refine yy_istore C (L' := [(4, .int (nI 0)), (3, .int (nI 0)), (0, .ref (ad 0)), (1, .int (nI a)), (2, .int (nI (S.1 1)))]) dL_held__3 (pc' := 5) rfl (by decide) rfl ?_
  have lp_5 : ∀ (f5_ : Nat) (l_ : Nat), (hl : l_ ≤ S.1 1) → S.1 1 - l_ < f5_ → YY p l e rL_held_ s m args below meth c G B0 11 QQ 5 [(4, .int (nI l_)), (3, .int (nI (fb_ct (hb S a) l_))), (0, .ref (ad 0)), (1, .int (nI a)), (2, .int (nI (S.1 1)))] [] (wA G ad S ++ F) (0 + 6 * l_) (0 + 36 * l_) := by
    intro f5_
    induction f5_ with
    | zero => intro l_ hl hf_; exact absurd hf_ (Nat.not_lt_zero _)
    | succ f5_ ih5 =>
      intro l_ hl hf5_
      refine yy_widen (cs2 := 0 + 6 * l_ + 0) (ss2 := 0 + 36 * l_ + 0) (Nat.le_refl _) (Nat.le_refl _) ?_
      refine yy_iload C 0 dL_held__5 (pc' := 7) rfl rfl ?_
      refine yy_iload_n C 4 dL_held__7 (pc' := 8) rfl rfl rfl ?_
      refine yn_icmp_ge C (by omega) (by omega) dL_held__8 (pc' := 11) rfl (tgt := 335) (by decide) (fun c_8 => ?_) (fun c_8 => ?_)
      · skip
        refine yy_widen (cs2 := 240) (ss2 := 1440) (show 0 + 6 * l_ + 0 ≤ 240 by omega) (show 0 + 36 * l_ + 0 ≤ 1440 by omega) ?_
        obtain rfl : l_ = S.1 1 := by omega
        obtain ⟨e1, ⟨gv, hgv, eg⟩, e3, e4, e5⟩ := hc_end hR.1 ha
        have hm_ : fb_ct (hb S a) (S.1 1) ≤ S.1 1 := fb_ct_le _ _
        refine yy_iload_n C 1 dL_held__335 (pc' := 336) rfl rfl rfl ?_
        refine yy_aload_n C 2 dL_held__336 (pc' := 337) rfl rfl rfl ?_
        refine yy_iload_n C 3 dL_held__337 (pc' := 338) rfl rfl rfl ?_
        refine yc_i (yr_SW C (As := [.ref (ad 0), .int (nI a)]) (rest := [.int (nI (fb_ct (hb S a) (S.1 1)))]) lk_L_194 cd_L_held st_L_held (mL_held l hl0 G B0 ad F S (nI a) hR.1.1) ⟨by decide, by decide⟩ ⟨(show 240 + 1 ≤ 245 by omega), (show 1440 + 6 ≤ 1470 by omega)⟩ rfl rfl (Nat.le_of_ble_eq_true rfl) dL_held__338) (pc' := 341) rfl (fun r1 _ hw1 => ?_)
        obtain rfl : r1 = (nI (fb_ct (hb S a) (S.1 1))) := hw1.trans e1
        refine yy_widen (cs2 := 241) (ss2 := 1446) (show 240 + 1 ≤ 241 by omega) (show 1440 + 6 ≤ 1446 by omega) ?_
        refine yn_icmp_ne C (by omega) (by omega) dL_held__341 (pc' := 344) rfl (tgt := 389) (by decide) (fun c_341 => ?_) (fun c_341 => ?_)
        · skip
          exact absurd rfl c_341
        · skip
          refine yy_aload_n C 2 dL_held__344 (pc' := 345) rfl rfl rfl ?_
          refine yy_iload_n C 3 dL_held__345 (pc' := 346) rfl rfl rfl ?_
          refine yc_i (yr_SW C (As := [.ref (ad 0), .int (nI a)]) (rest := []) lk_L_196 cd_L_given st_L_given (mL_given l hl0 G B0 ad F S (nI a) hR.1.1) ⟨by decide, by decide⟩ ⟨(show 241 + 1 ≤ 245 by omega), (show 1446 + 6 ≤ 1470 by omega)⟩ rfl rfl (Nat.le_of_ble_eq_true rfl) dL_held__346) (pc' := 349) rfl (fun r2 _ hw2 => ?_)
          obtain rfl : r2 = (nI gv) := hw2.trans eg
          refine yy_widen (cs2 := 242) (ss2 := 1452) (show 241 + 1 ≤ 242 by omega) (show 1446 + 6 ≤ 1452 by omega) ?_
          refine yy_iload_n C 1 dL_held__349 (pc' := 350) rfl rfl rfl ?_
          refine yn_icmp_gt C (by omega) (by omega) dL_held__350 (pc' := 353) rfl (tgt := 389) (by decide) (fun c_350 => ?_) (fun c_350 => ?_)
          · skip
            exact absurd c_350 (by omega)
          · skip
            refine yy_aload_n C 2 dL_held__353 (pc' := 354) rfl rfl rfl ?_
            refine yy_iload_n C 3 dL_held__354 (pc' := 355) rfl rfl rfl ?_
            refine yy_iload_n C 4 dL_held__355 (pc' := 356) rfl rfl rfl ?_
            refine yc_i (yr_SW C (As := [.ref (ad 0), .int (nI a), .int (nI (S.1 1))]) (rest := []) lk_L_218 cd_L_holds st_L_holds (mL_holds l hl0 G B0 ad F S (nI a) (nI (S.1 1)) hR.1.1) ⟨by decide, by decide⟩ ⟨(show 242 + 1 ≤ 245 by omega), (show 1452 + 6 ≤ 1470 by omega)⟩ rfl rfl (Nat.le_of_ble_eq_true rfl) dL_held__356) (pc' := 359) rfl (fun r3 _ hw3 => ?_)
            obtain rfl : r3 = (-2) := hw3.trans e3
            refine yy_widen (cs2 := 243) (ss2 := 1458) (show 242 + 1 ≤ 243 by omega) (show 1452 + 6 ≤ 1458 by omega) ?_
            refine yy_bipush C (v := (-2)) dL_held__359 (pc' := 361) rfl (by decide) ?_
            refine yy_icmp_ne C dL_held__361 (pc' := 364) rfl (tgt := 389) (by decide) (fun c_361 => ?_) (fun c_361 => ?_)
            · skip
              exact absurd c_361 (by decide)
            · skip
              refine yy_aload_n C 2 dL_held__364 (pc' := 365) rfl rfl rfl ?_
              refine yy_iconst C (v := (nI 5)) dL_held__365 (pc' := 366) rfl (by decide) ?_
              refine yy_iconst C (v := (nI 0)) dL_held__366 (pc' := 367) rfl (by decide) ?_
              refine yc_i (yr_SW C (As := [.ref (ad 0), .int (nI 5), .int (nI 0)]) (rest := []) lk_L_218 cd_L_holds st_L_holds (mL_holds l hl0 G B0 ad F S (nI 5) (nI 0) hR.1.1) ⟨by decide, by decide⟩ ⟨(show 243 + 1 ≤ 245 by omega), (show 1458 + 6 ≤ 1470 by omega)⟩ rfl rfl (Nat.le_of_ble_eq_true rfl) dL_held__367) (pc' := 370) rfl (fun r4 _ hw4 => ?_)
              obtain rfl : r4 = (-1) := hw4.trans e4
              refine yy_widen (cs2 := 244) (ss2 := 1464) (show 243 + 1 ≤ 244 by omega) (show 1458 + 6 ≤ 1464 by omega) ?_
              refine yy_iconst C (v := (-1)) dL_held__370 (pc' := 371) rfl (by decide) ?_
              refine yy_icmp_ne C dL_held__371 (pc' := 374) rfl (tgt := 389) (by decide) (fun c_371 => ?_) (fun c_371 => ?_)
              · skip
                exact absurd c_371 (by decide)
              · skip
                refine yy_aload_n C 2 dL_held__374 (pc' := 375) rfl rfl rfl ?_
                refine yy_iload_n C 3 dL_held__375 (pc' := 376) rfl rfl rfl ?_
                refine yy_iload_n C 4 dL_held__376 (pc' := 377) rfl rfl rfl ?_
                refine yc_i (yr_SW C (As := [.ref (ad 0), .int (nI a), .int (nI (S.1 1))]) (rest := []) lk_L_212 cd_L_why st_L_why (mL_why l hl0 G B0 ad F S (nI a) (nI (S.1 1)) hR.1.1) ⟨by decide, by decide⟩ ⟨(show 244 + 1 ≤ 245 by omega), (show 1464 + 6 ≤ 1470 by omega)⟩ rfl rfl (Nat.le_of_ble_eq_true rfl) dL_held__377) (pc' := 380) rfl (fun r5 _ hw5 => ?_)
                obtain rfl : r5 = (-2) := hw5.trans e5
                refine yy_widen (cs2 := 245) (ss2 := 1470) (show 244 + 1 ≤ 245 by omega) (show 1464 + 6 ≤ 1470 by omega) ?_
                refine yy_bipush C (v := (-2)) dL_held__380 (pc' := 382) rfl (by decide) ?_
                refine yy_icmp_ne C dL_held__382 (pc' := 385) rfl (tgt := 389) (by decide) (fun c_382 => ?_) (fun c_382 => ?_)
                · skip
                  exact absurd c_382 (by decide)
                · skip
                  refine yy_iconst C (v := (nI 1)) dL_held__385 (pc' := 386) rfl (by decide) ?_
                  refine yy_goto C (tgt := 390) dL_held__386 (by decide) ?_
                  subst hQ
                  exact ye_i C hr rfl () dL_held__390 rfl (by decide) (by decide) rfl
      · skip
        have hl2 : l_ < S.1 1 := by omega
        rcases hc_cases hR.1 ha hl2 with ⟨g1, g2, g3, g4, g5, g7⟩ | ⟨g1, g2, g3, g4, g5, g6, g7⟩ | ⟨g1, g2, g3, g4, g5, g6, g7⟩ | ⟨g1, g2, g3, g4, g5, g6, g7⟩ | ⟨g1, g2, g3, g4, g5, g6, g7⟩ | ⟨g1, g2, g3, g4, g5, g6, g7⟩ | ⟨g1, g2, g3, g4, g5, g6, g7⟩ | ⟨g1, g2, g3, g4, g5, g6, g7⟩
        · skip
          refine yy_aload_n C 2 dL_held__11 (pc' := 12) rfl rfl rfl ?_
          refine yy_iload_n C 3 dL_held__12 (pc' := 13) rfl rfl rfl ?_
          refine yy_iload C 0 dL_held__13 (pc' := 15) rfl rfl ?_
          refine yc_i (yr_SW C (As := [.ref (ad 0), .int (nI a), .int (nI l_)]) (rest := []) lk_L_218 cd_L_holds st_L_holds (mL_holds l hl0 G B0 ad F S (nI a) (nI l_) hR.1.1) ⟨by decide, by decide⟩ ⟨(show 0 + 6 * l_ + 0 + 1 ≤ 245 by omega), (show 0 + 36 * l_ + 0 + 6 ≤ 1470 by omega)⟩ rfl rfl (Nat.le_of_ble_eq_true rfl) dL_held__15) (pc' := 18) rfl (fun r1 _ hw1 => ?_)
          obtain rfl : r1 = (nI 1) := hw1.trans g1
          refine yy_widen (cs2 := 0 + 6 * l_ + 1) (ss2 := 0 + 36 * l_ + 6) (show 0 + 6 * l_ + 0 + 1 ≤ 0 + 6 * l_ + 1 by omega) (show 0 + 36 * l_ + 0 + 6 ≤ 0 + 36 * l_ + 6 by omega) ?_
          refine yy_istore C (L' := [(5, .int (nI 1)), (4, .int (nI l_)), (3, .int (nI (fb_ct (hb S a) l_))), (0, .ref (ad 0)), (1, .int (nI a)), (2, .int (nI (S.1 1)))]) dL_held__18 (pc' := 20) rfl (by decide) rfl ?_
          refine yy_aload_n C 3 dL_held__20 (pc' := 21) rfl rfl rfl ?_
          refine yy_iload_n C 4 dL_held__21 (pc' := 22) rfl rfl rfl ?_
          refine yy_iload C 1 dL_held__22 (pc' := 24) rfl rfl ?_
          refine yc_i (yr_SW C (As := [.ref (ad 0), .int (nI a), .int (nI l_)]) (rest := []) lk_L_212 cd_L_why st_L_why (mL_why l hl0 G B0 ad F S (nI a) (nI l_) hR.1.1) ⟨by decide, by decide⟩ ⟨(show 0 + 6 * l_ + 1 + 1 ≤ 245 by omega), (show 0 + 36 * l_ + 6 + 6 ≤ 1470 by omega)⟩ rfl rfl (Nat.le_of_ble_eq_true rfl) dL_held__24) (pc' := 27) rfl (fun r2 _ hw2 => ?_)
          obtain rfl : r2 = (-3) := hw2.trans g3
          refine yy_widen (cs2 := 0 + 6 * l_ + 2) (ss2 := 0 + 36 * l_ + 12) (show 0 + 6 * l_ + 1 + 1 ≤ 0 + 6 * l_ + 2 by omega) (show 0 + 36 * l_ + 6 + 6 ≤ 0 + 36 * l_ + 12 by omega) ?_
          refine yy_istore C (L' := [(6, .int (-3)), (5, .int (nI 1)), (4, .int (nI l_)), (3, .int (nI (fb_ct (hb S a) l_))), (0, .ref (ad 0)), (1, .int (nI a)), (2, .int (nI (S.1 1)))]) dL_held__27 (pc' := 29) rfl (by decide) rfl ?_
          refine yy_aload_n C 4 dL_held__29 (pc' := 30) rfl rfl rfl ?_
          refine yy_iload_n C 5 dL_held__30 (pc' := 31) rfl rfl rfl ?_
          refine yy_iload C 2 dL_held__31 (pc' := 33) rfl rfl ?_
          refine yc_i (yr_SW C (As := [.ref (ad 0), .int (nI a), .int (nI l_)]) (rest := []) lk_L_220 cd_L_root st_L_root (mL_root l hl0 G B0 ad F S (nI a) (nI l_) hR.1.1) ⟨by decide, by decide⟩ ⟨(show 0 + 6 * l_ + 2 + 1 ≤ 245 by omega), (show 0 + 36 * l_ + 12 + 6 ≤ 1470 by omega)⟩ rfl rfl (Nat.le_of_ble_eq_true rfl) dL_held__33) (pc' := 36) rfl (fun r3 _ hw3 => ?_)
          obtain rfl : r3 = (-3) := hw3.trans g4
          refine yy_widen (cs2 := 0 + 6 * l_ + 3) (ss2 := 0 + 36 * l_ + 18) (show 0 + 6 * l_ + 2 + 1 ≤ 0 + 6 * l_ + 3 by omega) (show 0 + 36 * l_ + 12 + 6 ≤ 0 + 36 * l_ + 18 by omega) ?_
          refine yy_istore C (L' := [(7, .int (-3)), (6, .int (-3)), (5, .int (nI 1)), (4, .int (nI l_)), (3, .int (nI (fb_ct (hb S a) l_))), (0, .ref (ad 0)), (1, .int (nI a)), (2, .int (nI (S.1 1)))]) dL_held__36 (pc' := 38) rfl (by decide) rfl ?_
          refine yy_aload_n C 5 dL_held__38 (pc' := 39) rfl rfl rfl ?_
          refine yy_iload_n C 6 dL_held__39 (pc' := 40) rfl rfl rfl ?_
          refine yy_iload C 3 dL_held__40 (pc' := 42) rfl rfl ?_
          refine yc_i (yr_SW C (As := [.ref (ad 0), .int (nI a), .int (nI l_)]) (rest := []) lk_L_222 cd_L_causes st_L_causes (mL_causes l hl0 G B0 ad F S (nI a) (nI l_) hR.1.1) ⟨by decide, by decide⟩ ⟨(show 0 + 6 * l_ + 3 + 1 ≤ 245 by omega), (show 0 + 36 * l_ + 18 + 6 ≤ 1470 by omega)⟩ rfl rfl (Nat.le_of_ble_eq_true rfl) dL_held__42) (pc' := 45) rfl (fun r4 _ hw4 => ?_)
          obtain rfl : r4 = (-3) := hw4.trans g5
          refine yy_widen (cs2 := 0 + 6 * l_ + 4) (ss2 := 0 + 36 * l_ + 24) (show 0 + 6 * l_ + 3 + 1 ≤ 0 + 6 * l_ + 4 by omega) (show 0 + 36 * l_ + 18 + 6 ≤ 0 + 36 * l_ + 24 by omega) ?_
          refine yy_istore C (L' := [(8, .int (-3)), (7, .int (-3)), (6, .int (-3)), (5, .int (nI 1)), (4, .int (nI l_)), (3, .int (nI (fb_ct (hb S a) l_))), (0, .ref (ad 0)), (1, .int (nI a)), (2, .int (nI (S.1 1)))]) dL_held__45 (pc' := 47) rfl (by decide) rfl ?_
          refine yy_iload_n C 5 dL_held__47 (pc' := 48) rfl rfl rfl ?_
          refine yy_iload C 3 dL_held__48 (pc' := 50) rfl rfl ?_
          refine yy_iadd C (v := (nI (fb_ct (hb S a) (l_ + 1)))) dL_held__50 (pc' := 51) rfl (by rw [ct_t g7]; exact nI_add _ 1) ?_
          refine yy_istore_n C (L' := [(3, .int (nI (fb_ct (hb S a) (l_ + 1)))), (8, .int (-3)), (7, .int (-3)), (6, .int (-3)), (5, .int (nI 1)), (4, .int (nI l_)), (0, .ref (ad 0)), (1, .int (nI a)), (2, .int (nI (S.1 1)))]) dL_held__51 (pc' := 52) rfl rfl (by decide) rfl ?_
          refine yy_iload C 4 dL_held__52 (pc' := 54) rfl rfl ?_
          refine yy_aload_n C 6 dL_held__54 (pc' := 55) rfl rfl rfl ?_
          refine yy_iload_n C 7 dL_held__55 (pc' := 56) rfl rfl rfl ?_
          refine yy_iload C 5 dL_held__56 (pc' := 58) rfl rfl ?_
          refine yc_i (yr_SW C (As := [.ref (ad 0), .int (nI a), .int (nI l_)]) (rest := [.int (nI 1)]) lk_L_224 cd_L_holdsByLog st_L_holdsByLog (mL_holdsByLog l hl0 G B0 ad F S (nI a) (nI l_) hR.1.1) ⟨by decide, by decide⟩ ⟨(show 0 + 6 * l_ + 4 + 1 ≤ 245 by omega), (show 0 + 36 * l_ + 24 + 6 ≤ 1470 by omega)⟩ rfl rfl (Nat.le_of_ble_eq_true rfl) dL_held__58) (pc' := 61) rfl (fun r5 _ hw5 => ?_)
          obtain rfl : r5 = (nI 1) := hw5.trans g2
          refine yy_widen (cs2 := 0 + 6 * l_ + 5) (ss2 := 0 + 36 * l_ + 30) (show 0 + 6 * l_ + 4 + 1 ≤ 0 + 6 * l_ + 5 by omega) (show 0 + 36 * l_ + 24 + 6 ≤ 0 + 36 * l_ + 30 by omega) ?_
          refine yy_icmp_ne C dL_held__61 (pc' := 64) rfl (tgt := 142) (by decide) (fun c_61 => ?_) (fun c_61 => ?_)
          · skip
            exact absurd c_61 (by decide)
          · skip
            refine yy_iload C 4 dL_held__64 (pc' := 66) rfl rfl ?_
            refine yy_iconst C (v := (nI 1)) dL_held__66 (pc' := 67) rfl (by decide) ?_
            refine yy_icmp_ne C dL_held__67 (pc' := 70) rfl (tgt := 74) (by decide) (fun c_67 => ?_) (fun c_67 => ?_)
            · skip
              exact absurd c_67 (by decide)
            · skip
              refine yy_iconst C (v := (nI 1)) dL_held__70 (pc' := 71) rfl (by decide) ?_
              refine yy_goto C (tgt := 75) dL_held__71 (by decide) ?_
              refine yy_iload C 3 dL_held__75 (pc' := 77) rfl rfl ?_
              refine yy_bipush C (v := (-3)) dL_held__77 (pc' := 79) rfl (by decide) ?_
              refine yy_icmp_ne C dL_held__79 (pc' := 82) rfl (tgt := 86) (by decide) (fun c_79 => ?_) (fun c_79 => ?_)
              · skip
                exact absurd c_79 (by decide)
              · skip
                refine yy_iconst C (v := (nI 1)) dL_held__82 (pc' := 83) rfl (by decide) ?_
                refine yy_goto C (tgt := 87) dL_held__83 (by decide) ?_
                refine yy_icmp_ne C dL_held__87 (pc' := 90) rfl (tgt := 142) (by decide) (fun c_87 => ?_) (fun c_87 => ?_)
                · skip
                  exact absurd c_87 (by decide)
                · skip
                  refine yy_iload C 4 dL_held__90 (pc' := 92) rfl rfl ?_
                  refine yy_iconst C (v := (nI 1)) dL_held__92 (pc' := 93) rfl (by decide) ?_
                  refine yy_icmp_ne C dL_held__93 (pc' := 96) rfl (tgt := 100) (by decide) (fun c_93 => ?_) (fun c_93 => ?_)
                  · skip
                    exact absurd c_93 (by decide)
                  · skip
                    refine yy_iconst C (v := (nI 1)) dL_held__96 (pc' := 97) rfl (by decide) ?_
                    refine yy_goto C (tgt := 101) dL_held__97 (by decide) ?_
                    refine yy_iload C 2 dL_held__101 (pc' := 103) rfl rfl ?_
                    refine yy_bipush C (v := (-3)) dL_held__103 (pc' := 105) rfl (by decide) ?_
                    refine yy_icmp_ne C dL_held__105 (pc' := 108) rfl (tgt := 112) (by decide) (fun c_105 => ?_) (fun c_105 => ?_)
                    · skip
                      exact absurd c_105 (by decide)
                    · skip
                      refine yy_iconst C (v := (nI 1)) dL_held__108 (pc' := 109) rfl (by decide) ?_
                      refine yy_goto C (tgt := 113) dL_held__109 (by decide) ?_
                      refine yy_icmp_ne C dL_held__113 (pc' := 116) rfl (tgt := 142) (by decide) (fun c_113 => ?_) (fun c_113 => ?_)
                      · skip
                        exact absurd c_113 (by decide)
                      · skip
                        refine yy_iload C 4 dL_held__116 (pc' := 118) rfl rfl ?_
                        refine yy_iconst C (v := (nI 1)) dL_held__118 (pc' := 119) rfl (by decide) ?_
                        refine yy_icmp_ne C dL_held__119 (pc' := 122) rfl (tgt := 126) (by decide) (fun c_119 => ?_) (fun c_119 => ?_)
                        · skip
                          exact absurd c_119 (by decide)
                        · skip
                          refine yy_iconst C (v := (nI 1)) dL_held__122 (pc' := 123) rfl (by decide) ?_
                          refine yy_goto C (tgt := 127) dL_held__123 (by decide) ?_
                          refine yy_iload C 1 dL_held__127 (pc' := 129) rfl rfl ?_
                          refine yy_bipush C (v := (-3)) dL_held__129 (pc' := 131) rfl (by decide) ?_
                          refine yy_icmp_ne C dL_held__131 (pc' := 134) rfl (tgt := 138) (by decide) (fun c_131 => ?_) (fun c_131 => ?_)
                          · skip
                            exact absurd c_131 (by decide)
                          · skip
                            refine yy_iconst C (v := (nI 1)) dL_held__134 (pc' := 135) rfl (by decide) ?_
                            refine yy_goto C (tgt := 139) dL_held__135 (by decide) ?_
                            refine yy_icmp_eq C dL_held__139 (pc' := 142) rfl (tgt := 144) (by decide) (fun c_139 => ?_) (fun c_139 => ?_)
                            · skip
                              refine yy_iload C 4 dL_held__144 (pc' := 146) rfl rfl ?_
                              refine yy_if_ne C dL_held__146 (pc' := 149) rfl (tgt := 329) (by decide) (fun c_146 => ?_) (fun c_146 => ?_)
                              · skip
                                refine yy_iinc C (v := (nI (l_ + 1))) (L' := [(4, .int (nI (l_ + 1))), (3, .int (nI (fb_ct (hb S a) (l_ + 1)))), (8, .int (-3)), (7, .int (-3)), (6, .int (-3)), (5, .int (nI 1)), (0, .ref (ad 0)), (1, .int (nI a)), (2, .int (nI (S.1 1)))]) 5 dL_held__329 (pc' := 332) rfl rfl (nI_add l_ 1) (by decide) rfl ?_
                                refine yy_goto C (tgt := 5) dL_held__332 (by decide) ?_
                                refine yy_loc [0, 1, 6, 7, 8] rfl ?_
                                refine yy_widen (cs2 := 0 + 6 * (l_ + 1)) (ss2 := 0 + 36 * (l_ + 1)) (show 0 + 6 * l_ + 5 ≤ 0 + 6 * (l_ + 1) by omega) (show 0 + 36 * l_ + 30 ≤ 0 + 36 * (l_ + 1) by omega) ?_
                                exact ih5 (l_ + 1) (by omega) (by omega)
                              · skip
                                exact absurd c_146 (by decide)
                            · skip
                              exact absurd c_139 (by decide)
        · skip
          refine yy_aload_n C 2 dL_held__11 (pc' := 12) rfl rfl rfl ?_
          refine yy_iload_n C 3 dL_held__12 (pc' := 13) rfl rfl rfl ?_
          refine yy_iload C 0 dL_held__13 (pc' := 15) rfl rfl ?_
          refine yc_i (yr_SW C (As := [.ref (ad 0), .int (nI a), .int (nI l_)]) (rest := []) lk_L_218 cd_L_holds st_L_holds (mL_holds l hl0 G B0 ad F S (nI a) (nI l_) hR.1.1) ⟨by decide, by decide⟩ ⟨(show 0 + 6 * l_ + 0 + 1 ≤ 245 by omega), (show 0 + 36 * l_ + 0 + 6 ≤ 1470 by omega)⟩ rfl rfl (Nat.le_of_ble_eq_true rfl) dL_held__15) (pc' := 18) rfl (fun r1 _ hw1 => ?_)
          obtain rfl : r1 = (nI 0) := hw1.trans g1
          refine yy_widen (cs2 := 0 + 6 * l_ + 1) (ss2 := 0 + 36 * l_ + 6) (show 0 + 6 * l_ + 0 + 1 ≤ 0 + 6 * l_ + 1 by omega) (show 0 + 36 * l_ + 0 + 6 ≤ 0 + 36 * l_ + 6 by omega) ?_
          refine yy_istore C (L' := [(5, .int (nI 0)), (4, .int (nI l_)), (3, .int (nI (fb_ct (hb S a) l_))), (0, .ref (ad 0)), (1, .int (nI a)), (2, .int (nI (S.1 1)))]) dL_held__18 (pc' := 20) rfl (by decide) rfl ?_
          refine yy_aload_n C 3 dL_held__20 (pc' := 21) rfl rfl rfl ?_
          refine yy_iload_n C 4 dL_held__21 (pc' := 22) rfl rfl rfl ?_
          refine yy_iload C 1 dL_held__22 (pc' := 24) rfl rfl ?_
          refine yc_i (yr_SW C (As := [.ref (ad 0), .int (nI a), .int (nI l_)]) (rest := []) lk_L_212 cd_L_why st_L_why (mL_why l hl0 G B0 ad F S (nI a) (nI l_) hR.1.1) ⟨by decide, by decide⟩ ⟨(show 0 + 6 * l_ + 1 + 1 ≤ 245 by omega), (show 0 + 36 * l_ + 6 + 6 ≤ 1470 by omega)⟩ rfl rfl (Nat.le_of_ble_eq_true rfl) dL_held__24) (pc' := 27) rfl (fun r2 _ hw2 => ?_)
          obtain rfl : r2 = (nI 45) := hw2.trans g3
          refine yy_widen (cs2 := 0 + 6 * l_ + 2) (ss2 := 0 + 36 * l_ + 12) (show 0 + 6 * l_ + 1 + 1 ≤ 0 + 6 * l_ + 2 by omega) (show 0 + 36 * l_ + 6 + 6 ≤ 0 + 36 * l_ + 12 by omega) ?_
          refine yy_istore C (L' := [(6, .int (nI 45)), (5, .int (nI 0)), (4, .int (nI l_)), (3, .int (nI (fb_ct (hb S a) l_))), (0, .ref (ad 0)), (1, .int (nI a)), (2, .int (nI (S.1 1)))]) dL_held__27 (pc' := 29) rfl (by decide) rfl ?_
          refine yy_aload_n C 4 dL_held__29 (pc' := 30) rfl rfl rfl ?_
          refine yy_iload_n C 5 dL_held__30 (pc' := 31) rfl rfl rfl ?_
          refine yy_iload C 2 dL_held__31 (pc' := 33) rfl rfl ?_
          refine yc_i (yr_SW C (As := [.ref (ad 0), .int (nI a), .int (nI l_)]) (rest := []) lk_L_220 cd_L_root st_L_root (mL_root l hl0 G B0 ad F S (nI a) (nI l_) hR.1.1) ⟨by decide, by decide⟩ ⟨(show 0 + 6 * l_ + 2 + 1 ≤ 245 by omega), (show 0 + 36 * l_ + 12 + 6 ≤ 1470 by omega)⟩ rfl rfl (Nat.le_of_ble_eq_true rfl) dL_held__33) (pc' := 36) rfl (fun r3 _ hw3 => ?_)
          obtain rfl : r3 = (-4) := hw3.trans g4
          refine yy_widen (cs2 := 0 + 6 * l_ + 3) (ss2 := 0 + 36 * l_ + 18) (show 0 + 6 * l_ + 2 + 1 ≤ 0 + 6 * l_ + 3 by omega) (show 0 + 36 * l_ + 12 + 6 ≤ 0 + 36 * l_ + 18 by omega) ?_
          refine yy_istore C (L' := [(7, .int (-4)), (6, .int (nI 45)), (5, .int (nI 0)), (4, .int (nI l_)), (3, .int (nI (fb_ct (hb S a) l_))), (0, .ref (ad 0)), (1, .int (nI a)), (2, .int (nI (S.1 1)))]) dL_held__36 (pc' := 38) rfl (by decide) rfl ?_
          refine yy_aload_n C 5 dL_held__38 (pc' := 39) rfl rfl rfl ?_
          refine yy_iload_n C 6 dL_held__39 (pc' := 40) rfl rfl rfl ?_
          refine yy_iload C 3 dL_held__40 (pc' := 42) rfl rfl ?_
          refine yc_i (yr_SW C (As := [.ref (ad 0), .int (nI a), .int (nI l_)]) (rest := []) lk_L_222 cd_L_causes st_L_causes (mL_causes l hl0 G B0 ad F S (nI a) (nI l_) hR.1.1) ⟨by decide, by decide⟩ ⟨(show 0 + 6 * l_ + 3 + 1 ≤ 245 by omega), (show 0 + 36 * l_ + 18 + 6 ≤ 1470 by omega)⟩ rfl rfl (Nat.le_of_ble_eq_true rfl) dL_held__42) (pc' := 45) rfl (fun r4 _ hw4 => ?_)
          obtain rfl : r4 = (nI 0) := hw4.trans g5
          refine yy_widen (cs2 := 0 + 6 * l_ + 4) (ss2 := 0 + 36 * l_ + 24) (show 0 + 6 * l_ + 3 + 1 ≤ 0 + 6 * l_ + 4 by omega) (show 0 + 36 * l_ + 18 + 6 ≤ 0 + 36 * l_ + 24 by omega) ?_
          refine yy_istore C (L' := [(8, .int (nI 0)), (7, .int (-4)), (6, .int (nI 45)), (5, .int (nI 0)), (4, .int (nI l_)), (3, .int (nI (fb_ct (hb S a) l_))), (0, .ref (ad 0)), (1, .int (nI a)), (2, .int (nI (S.1 1)))]) dL_held__45 (pc' := 47) rfl (by decide) rfl ?_
          refine yy_iload_n C 5 dL_held__47 (pc' := 48) rfl rfl rfl ?_
          refine yy_iload C 3 dL_held__48 (pc' := 50) rfl rfl ?_
          refine yy_iadd C (v := (nI (fb_ct (hb S a) (l_ + 1)))) dL_held__50 (pc' := 51) rfl (by rw [ct_f g7]; exact nI_add _ 0) ?_
          refine yy_istore_n C (L' := [(3, .int (nI (fb_ct (hb S a) (l_ + 1)))), (8, .int (nI 0)), (7, .int (-4)), (6, .int (nI 45)), (5, .int (nI 0)), (4, .int (nI l_)), (0, .ref (ad 0)), (1, .int (nI a)), (2, .int (nI (S.1 1)))]) dL_held__51 (pc' := 52) rfl rfl (by decide) rfl ?_
          refine yy_iload C 4 dL_held__52 (pc' := 54) rfl rfl ?_
          refine yy_aload_n C 6 dL_held__54 (pc' := 55) rfl rfl rfl ?_
          refine yy_iload_n C 7 dL_held__55 (pc' := 56) rfl rfl rfl ?_
          refine yy_iload C 5 dL_held__56 (pc' := 58) rfl rfl ?_
          refine yc_i (yr_SW C (As := [.ref (ad 0), .int (nI a), .int (nI l_)]) (rest := [.int (nI 0)]) lk_L_224 cd_L_holdsByLog st_L_holdsByLog (mL_holdsByLog l hl0 G B0 ad F S (nI a) (nI l_) hR.1.1) ⟨by decide, by decide⟩ ⟨(show 0 + 6 * l_ + 4 + 1 ≤ 245 by omega), (show 0 + 36 * l_ + 24 + 6 ≤ 1470 by omega)⟩ rfl rfl (Nat.le_of_ble_eq_true rfl) dL_held__58) (pc' := 61) rfl (fun r5 _ hw5 => ?_)
          obtain rfl : r5 = (nI 0) := hw5.trans g2
          refine yy_widen (cs2 := 0 + 6 * l_ + 5) (ss2 := 0 + 36 * l_ + 30) (show 0 + 6 * l_ + 4 + 1 ≤ 0 + 6 * l_ + 5 by omega) (show 0 + 36 * l_ + 24 + 6 ≤ 0 + 36 * l_ + 30 by omega) ?_
          refine yy_icmp_ne C dL_held__61 (pc' := 64) rfl (tgt := 142) (by decide) (fun c_61 => ?_) (fun c_61 => ?_)
          · skip
            exact absurd c_61 (by decide)
          · skip
            refine yy_iload C 4 dL_held__64 (pc' := 66) rfl rfl ?_
            refine yy_iconst C (v := (nI 1)) dL_held__66 (pc' := 67) rfl (by decide) ?_
            refine yy_icmp_ne C dL_held__67 (pc' := 70) rfl (tgt := 74) (by decide) (fun c_67 => ?_) (fun c_67 => ?_)
            · skip
              refine yy_iconst C (v := (nI 0)) dL_held__74 (pc' := 75) rfl (by decide) ?_
              refine yy_iload C 3 dL_held__75 (pc' := 77) rfl rfl ?_
              refine yy_bipush C (v := (-3)) dL_held__77 (pc' := 79) rfl (by decide) ?_
              refine yy_icmp_ne C dL_held__79 (pc' := 82) rfl (tgt := 86) (by decide) (fun c_79 => ?_) (fun c_79 => ?_)
              · skip
                refine yy_iconst C (v := (nI 0)) dL_held__86 (pc' := 87) rfl (by decide) ?_
                refine yy_icmp_ne C dL_held__87 (pc' := 90) rfl (tgt := 142) (by decide) (fun c_87 => ?_) (fun c_87 => ?_)
                · skip
                  exact absurd c_87 (by decide)
                · skip
                  refine yy_iload C 4 dL_held__90 (pc' := 92) rfl rfl ?_
                  refine yy_iconst C (v := (nI 1)) dL_held__92 (pc' := 93) rfl (by decide) ?_
                  refine yy_icmp_ne C dL_held__93 (pc' := 96) rfl (tgt := 100) (by decide) (fun c_93 => ?_) (fun c_93 => ?_)
                  · skip
                    refine yy_iconst C (v := (nI 0)) dL_held__100 (pc' := 101) rfl (by decide) ?_
                    refine yy_iload C 2 dL_held__101 (pc' := 103) rfl rfl ?_
                    refine yy_bipush C (v := (-3)) dL_held__103 (pc' := 105) rfl (by decide) ?_
                    refine yy_icmp_ne C dL_held__105 (pc' := 108) rfl (tgt := 112) (by decide) (fun c_105 => ?_) (fun c_105 => ?_)
                    · skip
                      refine yy_iconst C (v := (nI 0)) dL_held__112 (pc' := 113) rfl (by decide) ?_
                      refine yy_icmp_ne C dL_held__113 (pc' := 116) rfl (tgt := 142) (by decide) (fun c_113 => ?_) (fun c_113 => ?_)
                      · skip
                        exact absurd c_113 (by decide)
                      · skip
                        refine yy_iload C 4 dL_held__116 (pc' := 118) rfl rfl ?_
                        refine yy_iconst C (v := (nI 1)) dL_held__118 (pc' := 119) rfl (by decide) ?_
                        refine yy_icmp_ne C dL_held__119 (pc' := 122) rfl (tgt := 126) (by decide) (fun c_119 => ?_) (fun c_119 => ?_)
                        · skip
                          refine yy_iconst C (v := (nI 0)) dL_held__126 (pc' := 127) rfl (by decide) ?_
                          refine yy_iload C 1 dL_held__127 (pc' := 129) rfl rfl ?_
                          refine yy_bipush C (v := (-3)) dL_held__129 (pc' := 131) rfl (by decide) ?_
                          refine yy_icmp_ne C dL_held__131 (pc' := 134) rfl (tgt := 138) (by decide) (fun c_131 => ?_) (fun c_131 => ?_)
                          · skip
                            refine yy_iconst C (v := (nI 0)) dL_held__138 (pc' := 139) rfl (by decide) ?_
                            refine yy_icmp_eq C dL_held__139 (pc' := 142) rfl (tgt := 144) (by decide) (fun c_139 => ?_) (fun c_139 => ?_)
                            · skip
                              refine yy_iload C 4 dL_held__144 (pc' := 146) rfl rfl ?_
                              refine yy_if_ne C dL_held__146 (pc' := 149) rfl (tgt := 329) (by decide) (fun c_146 => ?_) (fun c_146 => ?_)
                              · skip
                                exact absurd c_146 (by decide)
                              · skip
                                refine yy_aload_n C 6 dL_held__149 (pc' := 150) rfl rfl rfl ?_
                                refine yy_iload C 5 dL_held__150 (pc' := 152) rfl rfl ?_
                                refine yc_i (yr_SW C (As := [.ref (ad 0), .int (nI l_)]) (rest := []) lk_L_204 cd_L_isHidden st_L_isHidden (mL_isHidden l hl0 G B0 ad F S (nI l_) hR.1.1) ⟨by decide, by decide⟩ ⟨(show 0 + 6 * l_ + 5 + 1 ≤ 245 by omega), (show 0 + 36 * l_ + 30 + 6 ≤ 1470 by omega)⟩ rfl rfl (Nat.le_of_ble_eq_true rfl) dL_held__152) (pc' := 155) rfl (fun r6 _ hw6 => ?_)
                                obtain rfl : r6 = (nI 0) := hw6.trans g6
                                refine yy_widen (cs2 := 0 + 6 * l_ + 6) (ss2 := 0 + 36 * l_ + 36) (show 0 + 6 * l_ + 5 + 1 ≤ 0 + 6 * l_ + 6 by omega) (show 0 + 36 * l_ + 30 + 6 ≤ 0 + 36 * l_ + 36 by omega) ?_
                                refine yy_iconst C (v := (nI 1)) dL_held__155 (pc' := 156) rfl (by decide) ?_
                                refine yy_icmp_ne C dL_held__156 (pc' := 159) rfl (tgt := 163) (by decide) (fun c_156 => ?_) (fun c_156 => ?_)
                                · skip
                                  refine yy_iconst C (v := (nI 0)) dL_held__163 (pc' := 164) rfl (by decide) ?_
                                  refine yy_istore C (L' := [(9, .int (nI 0)), (3, .int (nI (fb_ct (hb S a) (l_ + 1)))), (8, .int (nI 0)), (7, .int (-4)), (6, .int (nI 45)), (5, .int (nI 0)), (4, .int (nI l_)), (0, .ref (ad 0)), (1, .int (nI a)), (2, .int (nI (S.1 1)))]) dL_held__164 (pc' := 166) rfl (by decide) rfl ?_
                                  refine yy_iload C 4 dL_held__166 (pc' := 168) rfl rfl ?_
                                  refine yy_bipush C (v := (nI 45)) dL_held__168 (pc' := 170) rfl (by decide) ?_
                                  refine yy_icmp_ne C dL_held__170 (pc' := 173) rfl (tgt := 193) (by decide) (fun c_170 => ?_) (fun c_170 => ?_)
                                  · skip
                                    exact absurd c_170 (by decide)
                                  · skip
                                    refine yy_iload C 2 dL_held__173 (pc' := 175) rfl rfl ?_
                                    refine yy_if_ne C dL_held__175 (pc' := 178) rfl (tgt := 189) (by decide) (fun c_175 => ?_) (fun c_175 => ?_)
                                    · skip
                                      exact absurd c_175 (by decide)
                                    · skip
                                      refine yy_iload C 3 dL_held__178 (pc' := 180) rfl rfl ?_
                                      refine yy_bipush C (v := (-4)) dL_held__180 (pc' := 182) rfl (by decide) ?_
                                      refine yy_icmp_ne C dL_held__182 (pc' := 185) rfl (tgt := 189) (by decide) (fun c_182 => ?_) (fun c_182 => ?_)
                                      · skip
                                        exact absurd c_182 (by decide)
                                      · skip
                                        refine yy_iconst C (v := (nI 1)) dL_held__185 (pc' := 186) rfl (by decide) ?_
                                        refine yy_goto C (tgt := 277) dL_held__186 (by decide) ?_
                                        refine yy_istore C (L' := [(10, .int (nI 1)), (9, .int (nI 0)), (3, .int (nI (fb_ct (hb S a) (l_ + 1)))), (8, .int (nI 0)), (7, .int (-4)), (6, .int (nI 45)), (5, .int (nI 0)), (4, .int (nI l_)), (0, .ref (ad 0)), (1, .int (nI a)), (2, .int (nI (S.1 1)))]) dL_held__277 (pc' := 279) rfl (by decide) rfl ?_
                                        refine yy_iload C 0 dL_held__279 (pc' := 281) rfl rfl ?_
                                        refine yy_if_eq C dL_held__281 (pc' := 284) rfl (tgt := 327) (by decide) (fun c_281 => ?_) (fun c_281 => ?_)
                                        · skip
                                          exact absurd c_281 (by decide)
                                        · skip
                                          refine yy_iload C 1 dL_held__284 (pc' := 286) rfl rfl ?_
                                          refine yy_iload C 5 dL_held__286 (pc' := 288) rfl rfl ?_
                                          refine yy_bipush C (v := (nI 114)) dL_held__288 (pc' := 290) rfl (by decide) ?_
                                          refine yy_icmp_eq C dL_held__290 (pc' := 293) rfl (tgt := 300) (by decide) (fun c_290 => ?_) (fun c_290 => ?_)
                                          · skip
                                            exact absurd c_290 (by decide)
                                          · skip
                                            refine yy_iload C 5 dL_held__293 (pc' := 295) rfl rfl ?_
                                            refine yy_bipush C (v := (nI 115)) dL_held__295 (pc' := 297) rfl (by decide) ?_
                                            refine yy_icmp_ne C dL_held__297 (pc' := 300) rfl (tgt := 304) (by decide) (fun c_297 => ?_) (fun c_297 => ?_)
                                            · skip
                                              refine yy_iconst C (v := (nI 0)) dL_held__304 (pc' := 305) rfl (by decide) ?_
                                              refine yy_icmp_ne C dL_held__305 (pc' := 308) rfl (tgt := 327) (by decide) (fun c_305 => ?_) (fun c_305 => ?_)
                                              · skip
                                                exact absurd c_305 (by decide)
                                              · skip
                                                refine yy_iload C 3 dL_held__308 (pc' := 310) rfl rfl ?_
                                                refine yy_if_le C dL_held__310 (pc' := 313) rfl (tgt := 329) (by decide) (fun c_310 => ?_) (fun c_310 => ?_)
                                                · skip
                                                  refine yy_iinc C (v := (nI (l_ + 1))) (L' := [(4, .int (nI (l_ + 1))), (10, .int (nI 1)), (9, .int (nI 0)), (3, .int (nI (fb_ct (hb S a) (l_ + 1)))), (8, .int (nI 0)), (7, .int (-4)), (6, .int (nI 45)), (5, .int (nI 0)), (0, .ref (ad 0)), (1, .int (nI a)), (2, .int (nI (S.1 1)))]) 7 dL_held__329 (pc' := 332) rfl rfl (nI_add l_ 1) (by decide) rfl ?_
                                                  refine yy_goto C (tgt := 5) dL_held__332 (by decide) ?_
                                                  refine yy_loc [0, 3, 8, 9, 10] rfl ?_
                                                  refine yy_widen (cs2 := 0 + 6 * (l_ + 1)) (ss2 := 0 + 36 * (l_ + 1)) (show 0 + 6 * l_ + 6 ≤ 0 + 6 * (l_ + 1) by omega) (show 0 + 36 * l_ + 36 ≤ 0 + 36 * (l_ + 1) by omega) ?_
                                                  exact ih5 (l_ + 1) (by omega) (by omega)
                                                · skip
                                                  exact absurd c_310 (by decide)
                                            · skip
                                              exact absurd c_297 (by decide)
                                · skip
                                  exact absurd c_156 (by decide)
                            · skip
                              exact absurd c_139 (by decide)
                          · skip
                            exact absurd c_131 (by decide)
                        · skip
                          exact absurd c_119 (by decide)
                    · skip
                      exact absurd c_105 (by decide)
                  · skip
                    exact absurd c_93 (by decide)
              · skip
                exact absurd c_79 (by decide)
            · skip
              exact absurd c_67 (by decide)
        · skip
          refine yy_aload_n C 2 dL_held__11 (pc' := 12) rfl rfl rfl ?_
          refine yy_iload_n C 3 dL_held__12 (pc' := 13) rfl rfl rfl ?_
          refine yy_iload C 0 dL_held__13 (pc' := 15) rfl rfl ?_
          refine yc_i (yr_SW C (As := [.ref (ad 0), .int (nI a), .int (nI l_)]) (rest := []) lk_L_218 cd_L_holds st_L_holds (mL_holds l hl0 G B0 ad F S (nI a) (nI l_) hR.1.1) ⟨by decide, by decide⟩ ⟨(show 0 + 6 * l_ + 0 + 1 ≤ 245 by omega), (show 0 + 36 * l_ + 0 + 6 ≤ 1470 by omega)⟩ rfl rfl (Nat.le_of_ble_eq_true rfl) dL_held__15) (pc' := 18) rfl (fun r1 _ hw1 => ?_)
          obtain rfl : r1 = (nI 0) := hw1.trans g1
          refine yy_widen (cs2 := 0 + 6 * l_ + 1) (ss2 := 0 + 36 * l_ + 6) (show 0 + 6 * l_ + 0 + 1 ≤ 0 + 6 * l_ + 1 by omega) (show 0 + 36 * l_ + 0 + 6 ≤ 0 + 36 * l_ + 6 by omega) ?_
          refine yy_istore C (L' := [(5, .int (nI 0)), (4, .int (nI l_)), (3, .int (nI (fb_ct (hb S a) l_))), (0, .ref (ad 0)), (1, .int (nI a)), (2, .int (nI (S.1 1)))]) dL_held__18 (pc' := 20) rfl (by decide) rfl ?_
          refine yy_aload_n C 3 dL_held__20 (pc' := 21) rfl rfl rfl ?_
          refine yy_iload_n C 4 dL_held__21 (pc' := 22) rfl rfl rfl ?_
          refine yy_iload C 1 dL_held__22 (pc' := 24) rfl rfl ?_
          refine yc_i (yr_SW C (As := [.ref (ad 0), .int (nI a), .int (nI l_)]) (rest := []) lk_L_212 cd_L_why st_L_why (mL_why l hl0 G B0 ad F S (nI a) (nI l_) hR.1.1) ⟨by decide, by decide⟩ ⟨(show 0 + 6 * l_ + 1 + 1 ≤ 245 by omega), (show 0 + 36 * l_ + 6 + 6 ≤ 1470 by omega)⟩ rfl rfl (Nat.le_of_ble_eq_true rfl) dL_held__24) (pc' := 27) rfl (fun r2 _ hw2 => ?_)
          obtain rfl : r2 = (nI 106) := hw2.trans g3
          refine yy_widen (cs2 := 0 + 6 * l_ + 2) (ss2 := 0 + 36 * l_ + 12) (show 0 + 6 * l_ + 1 + 1 ≤ 0 + 6 * l_ + 2 by omega) (show 0 + 36 * l_ + 6 + 6 ≤ 0 + 36 * l_ + 12 by omega) ?_
          refine yy_istore C (L' := [(6, .int (nI 106)), (5, .int (nI 0)), (4, .int (nI l_)), (3, .int (nI (fb_ct (hb S a) l_))), (0, .ref (ad 0)), (1, .int (nI a)), (2, .int (nI (S.1 1)))]) dL_held__27 (pc' := 29) rfl (by decide) rfl ?_
          refine yy_aload_n C 4 dL_held__29 (pc' := 30) rfl rfl rfl ?_
          refine yy_iload_n C 5 dL_held__30 (pc' := 31) rfl rfl rfl ?_
          refine yy_iload C 2 dL_held__31 (pc' := 33) rfl rfl ?_
          refine yc_i (yr_SW C (As := [.ref (ad 0), .int (nI a), .int (nI l_)]) (rest := []) lk_L_220 cd_L_root st_L_root (mL_root l hl0 G B0 ad F S (nI a) (nI l_) hR.1.1) ⟨by decide, by decide⟩ ⟨(show 0 + 6 * l_ + 2 + 1 ≤ 245 by omega), (show 0 + 36 * l_ + 12 + 6 ≤ 1470 by omega)⟩ rfl rfl (Nat.le_of_ble_eq_true rfl) dL_held__33) (pc' := 36) rfl (fun r3 _ hw3 => ?_)
          obtain rfl : r3 = (nI 114) := hw3.trans g4
          refine yy_widen (cs2 := 0 + 6 * l_ + 3) (ss2 := 0 + 36 * l_ + 18) (show 0 + 6 * l_ + 2 + 1 ≤ 0 + 6 * l_ + 3 by omega) (show 0 + 36 * l_ + 12 + 6 ≤ 0 + 36 * l_ + 18 by omega) ?_
          refine yy_istore C (L' := [(7, .int (nI 114)), (6, .int (nI 106)), (5, .int (nI 0)), (4, .int (nI l_)), (3, .int (nI (fb_ct (hb S a) l_))), (0, .ref (ad 0)), (1, .int (nI a)), (2, .int (nI (S.1 1)))]) dL_held__36 (pc' := 38) rfl (by decide) rfl ?_
          refine yy_aload_n C 5 dL_held__38 (pc' := 39) rfl rfl rfl ?_
          refine yy_iload_n C 6 dL_held__39 (pc' := 40) rfl rfl rfl ?_
          refine yy_iload C 3 dL_held__40 (pc' := 42) rfl rfl ?_
          refine yc_i (yr_SW C (As := [.ref (ad 0), .int (nI a), .int (nI l_)]) (rest := []) lk_L_222 cd_L_causes st_L_causes (mL_causes l hl0 G B0 ad F S (nI a) (nI l_) hR.1.1) ⟨by decide, by decide⟩ ⟨(show 0 + 6 * l_ + 3 + 1 ≤ 245 by omega), (show 0 + 36 * l_ + 18 + 6 ≤ 1470 by omega)⟩ rfl rfl (Nat.le_of_ble_eq_true rfl) dL_held__42) (pc' := 45) rfl (fun r4 _ hw4 => ?_)
          obtain rfl : r4 = (nI 2) := hw4.trans g5
          refine yy_widen (cs2 := 0 + 6 * l_ + 4) (ss2 := 0 + 36 * l_ + 24) (show 0 + 6 * l_ + 3 + 1 ≤ 0 + 6 * l_ + 4 by omega) (show 0 + 36 * l_ + 18 + 6 ≤ 0 + 36 * l_ + 24 by omega) ?_
          refine yy_istore C (L' := [(8, .int (nI 2)), (7, .int (nI 114)), (6, .int (nI 106)), (5, .int (nI 0)), (4, .int (nI l_)), (3, .int (nI (fb_ct (hb S a) l_))), (0, .ref (ad 0)), (1, .int (nI a)), (2, .int (nI (S.1 1)))]) dL_held__45 (pc' := 47) rfl (by decide) rfl ?_
          refine yy_iload_n C 5 dL_held__47 (pc' := 48) rfl rfl rfl ?_
          refine yy_iload C 3 dL_held__48 (pc' := 50) rfl rfl ?_
          refine yy_iadd C (v := (nI (fb_ct (hb S a) (l_ + 1)))) dL_held__50 (pc' := 51) rfl (by rw [ct_f g7]; exact nI_add _ 0) ?_
          refine yy_istore_n C (L' := [(3, .int (nI (fb_ct (hb S a) (l_ + 1)))), (8, .int (nI 2)), (7, .int (nI 114)), (6, .int (nI 106)), (5, .int (nI 0)), (4, .int (nI l_)), (0, .ref (ad 0)), (1, .int (nI a)), (2, .int (nI (S.1 1)))]) dL_held__51 (pc' := 52) rfl rfl (by decide) rfl ?_
          refine yy_iload C 4 dL_held__52 (pc' := 54) rfl rfl ?_
          refine yy_aload_n C 6 dL_held__54 (pc' := 55) rfl rfl rfl ?_
          refine yy_iload_n C 7 dL_held__55 (pc' := 56) rfl rfl rfl ?_
          refine yy_iload C 5 dL_held__56 (pc' := 58) rfl rfl ?_
          refine yc_i (yr_SW C (As := [.ref (ad 0), .int (nI a), .int (nI l_)]) (rest := [.int (nI 0)]) lk_L_224 cd_L_holdsByLog st_L_holdsByLog (mL_holdsByLog l hl0 G B0 ad F S (nI a) (nI l_) hR.1.1) ⟨by decide, by decide⟩ ⟨(show 0 + 6 * l_ + 4 + 1 ≤ 245 by omega), (show 0 + 36 * l_ + 24 + 6 ≤ 1470 by omega)⟩ rfl rfl (Nat.le_of_ble_eq_true rfl) dL_held__58) (pc' := 61) rfl (fun r5 _ hw5 => ?_)
          obtain rfl : r5 = (nI 0) := hw5.trans g2
          refine yy_widen (cs2 := 0 + 6 * l_ + 5) (ss2 := 0 + 36 * l_ + 30) (show 0 + 6 * l_ + 4 + 1 ≤ 0 + 6 * l_ + 5 by omega) (show 0 + 36 * l_ + 24 + 6 ≤ 0 + 36 * l_ + 30 by omega) ?_
          refine yy_icmp_ne C dL_held__61 (pc' := 64) rfl (tgt := 142) (by decide) (fun c_61 => ?_) (fun c_61 => ?_)
          · skip
            exact absurd c_61 (by decide)
          · skip
            refine yy_iload C 4 dL_held__64 (pc' := 66) rfl rfl ?_
            refine yy_iconst C (v := (nI 1)) dL_held__66 (pc' := 67) rfl (by decide) ?_
            refine yy_icmp_ne C dL_held__67 (pc' := 70) rfl (tgt := 74) (by decide) (fun c_67 => ?_) (fun c_67 => ?_)
            · skip
              refine yy_iconst C (v := (nI 0)) dL_held__74 (pc' := 75) rfl (by decide) ?_
              refine yy_iload C 3 dL_held__75 (pc' := 77) rfl rfl ?_
              refine yy_bipush C (v := (-3)) dL_held__77 (pc' := 79) rfl (by decide) ?_
              refine yy_icmp_ne C dL_held__79 (pc' := 82) rfl (tgt := 86) (by decide) (fun c_79 => ?_) (fun c_79 => ?_)
              · skip
                refine yy_iconst C (v := (nI 0)) dL_held__86 (pc' := 87) rfl (by decide) ?_
                refine yy_icmp_ne C dL_held__87 (pc' := 90) rfl (tgt := 142) (by decide) (fun c_87 => ?_) (fun c_87 => ?_)
                · skip
                  exact absurd c_87 (by decide)
                · skip
                  refine yy_iload C 4 dL_held__90 (pc' := 92) rfl rfl ?_
                  refine yy_iconst C (v := (nI 1)) dL_held__92 (pc' := 93) rfl (by decide) ?_
                  refine yy_icmp_ne C dL_held__93 (pc' := 96) rfl (tgt := 100) (by decide) (fun c_93 => ?_) (fun c_93 => ?_)
                  · skip
                    refine yy_iconst C (v := (nI 0)) dL_held__100 (pc' := 101) rfl (by decide) ?_
                    refine yy_iload C 2 dL_held__101 (pc' := 103) rfl rfl ?_
                    refine yy_bipush C (v := (-3)) dL_held__103 (pc' := 105) rfl (by decide) ?_
                    refine yy_icmp_ne C dL_held__105 (pc' := 108) rfl (tgt := 112) (by decide) (fun c_105 => ?_) (fun c_105 => ?_)
                    · skip
                      refine yy_iconst C (v := (nI 0)) dL_held__112 (pc' := 113) rfl (by decide) ?_
                      refine yy_icmp_ne C dL_held__113 (pc' := 116) rfl (tgt := 142) (by decide) (fun c_113 => ?_) (fun c_113 => ?_)
                      · skip
                        exact absurd c_113 (by decide)
                      · skip
                        refine yy_iload C 4 dL_held__116 (pc' := 118) rfl rfl ?_
                        refine yy_iconst C (v := (nI 1)) dL_held__118 (pc' := 119) rfl (by decide) ?_
                        refine yy_icmp_ne C dL_held__119 (pc' := 122) rfl (tgt := 126) (by decide) (fun c_119 => ?_) (fun c_119 => ?_)
                        · skip
                          refine yy_iconst C (v := (nI 0)) dL_held__126 (pc' := 127) rfl (by decide) ?_
                          refine yy_iload C 1 dL_held__127 (pc' := 129) rfl rfl ?_
                          refine yy_bipush C (v := (-3)) dL_held__129 (pc' := 131) rfl (by decide) ?_
                          refine yy_icmp_ne C dL_held__131 (pc' := 134) rfl (tgt := 138) (by decide) (fun c_131 => ?_) (fun c_131 => ?_)
                          · skip
                            refine yy_iconst C (v := (nI 0)) dL_held__138 (pc' := 139) rfl (by decide) ?_
                            refine yy_icmp_eq C dL_held__139 (pc' := 142) rfl (tgt := 144) (by decide) (fun c_139 => ?_) (fun c_139 => ?_)
                            · skip
                              refine yy_iload C 4 dL_held__144 (pc' := 146) rfl rfl ?_
                              refine yy_if_ne C dL_held__146 (pc' := 149) rfl (tgt := 329) (by decide) (fun c_146 => ?_) (fun c_146 => ?_)
                              · skip
                                exact absurd c_146 (by decide)
                              · skip
                                refine yy_aload_n C 6 dL_held__149 (pc' := 150) rfl rfl rfl ?_
                                refine yy_iload C 5 dL_held__150 (pc' := 152) rfl rfl ?_
                                refine yc_i (yr_SW C (As := [.ref (ad 0), .int (nI l_)]) (rest := []) lk_L_204 cd_L_isHidden st_L_isHidden (mL_isHidden l hl0 G B0 ad F S (nI l_) hR.1.1) ⟨by decide, by decide⟩ ⟨(show 0 + 6 * l_ + 5 + 1 ≤ 245 by omega), (show 0 + 36 * l_ + 30 + 6 ≤ 1470 by omega)⟩ rfl rfl (Nat.le_of_ble_eq_true rfl) dL_held__152) (pc' := 155) rfl (fun r6 _ hw6 => ?_)
                                obtain rfl : r6 = (nI 0) := hw6.trans g6
                                refine yy_widen (cs2 := 0 + 6 * l_ + 6) (ss2 := 0 + 36 * l_ + 36) (show 0 + 6 * l_ + 5 + 1 ≤ 0 + 6 * l_ + 6 by omega) (show 0 + 36 * l_ + 30 + 6 ≤ 0 + 36 * l_ + 36 by omega) ?_
                                refine yy_iconst C (v := (nI 1)) dL_held__155 (pc' := 156) rfl (by decide) ?_
                                refine yy_icmp_ne C dL_held__156 (pc' := 159) rfl (tgt := 163) (by decide) (fun c_156 => ?_) (fun c_156 => ?_)
                                · skip
                                  refine yy_iconst C (v := (nI 0)) dL_held__163 (pc' := 164) rfl (by decide) ?_
                                  refine yy_istore C (L' := [(9, .int (nI 0)), (3, .int (nI (fb_ct (hb S a) (l_ + 1)))), (8, .int (nI 2)), (7, .int (nI 114)), (6, .int (nI 106)), (5, .int (nI 0)), (4, .int (nI l_)), (0, .ref (ad 0)), (1, .int (nI a)), (2, .int (nI (S.1 1)))]) dL_held__164 (pc' := 166) rfl (by decide) rfl ?_
                                  refine yy_iload C 4 dL_held__166 (pc' := 168) rfl rfl ?_
                                  refine yy_bipush C (v := (nI 45)) dL_held__168 (pc' := 170) rfl (by decide) ?_
                                  refine yy_icmp_ne C dL_held__170 (pc' := 173) rfl (tgt := 193) (by decide) (fun c_170 => ?_) (fun c_170 => ?_)
                                  · skip
                                    refine yy_iload C 4 dL_held__193 (pc' := 195) rfl rfl ?_
                                    refine yy_bipush C (v := (nI 106)) dL_held__195 (pc' := 197) rfl (by decide) ?_
                                    refine yy_icmp_ne C dL_held__197 (pc' := 200) rfl (tgt := 220) (by decide) (fun c_197 => ?_) (fun c_197 => ?_)
                                    · skip
                                      exact absurd c_197 (by decide)
                                    · skip
                                      refine yy_iload C 2 dL_held__200 (pc' := 202) rfl rfl ?_
                                      refine yy_iconst C (v := (nI 2)) dL_held__202 (pc' := 203) rfl (by decide) ?_
                                      refine yy_icmp_lt C dL_held__203 (pc' := 206) rfl (tgt := 216) (by decide) (fun c_203 => ?_) (fun c_203 => ?_)
                                      · skip
                                        exact absurd c_203 (by decide)
                                      · skip
                                        refine yy_iload C 2 dL_held__206 (pc' := 208) rfl rfl ?_
                                        refine yy_iconst C (v := (nI 3)) dL_held__208 (pc' := 209) rfl (by decide) ?_
                                        refine yy_icmp_gt C dL_held__209 (pc' := 212) rfl (tgt := 216) (by decide) (fun c_209 => ?_) (fun c_209 => ?_)
                                        · skip
                                          exact absurd c_209 (by decide)
                                        · skip
                                          refine yy_iconst C (v := (nI 1)) dL_held__212 (pc' := 213) rfl (by decide) ?_
                                          refine yy_goto C (tgt := 277) dL_held__213 (by decide) ?_
                                          refine yy_istore C (L' := [(10, .int (nI 1)), (9, .int (nI 0)), (3, .int (nI (fb_ct (hb S a) (l_ + 1)))), (8, .int (nI 2)), (7, .int (nI 114)), (6, .int (nI 106)), (5, .int (nI 0)), (4, .int (nI l_)), (0, .ref (ad 0)), (1, .int (nI a)), (2, .int (nI (S.1 1)))]) dL_held__277 (pc' := 279) rfl (by decide) rfl ?_
                                          refine yy_iload C 0 dL_held__279 (pc' := 281) rfl rfl ?_
                                          refine yy_if_eq C dL_held__281 (pc' := 284) rfl (tgt := 327) (by decide) (fun c_281 => ?_) (fun c_281 => ?_)
                                          · skip
                                            exact absurd c_281 (by decide)
                                          · skip
                                            refine yy_iload C 1 dL_held__284 (pc' := 286) rfl rfl ?_
                                            refine yy_iload C 5 dL_held__286 (pc' := 288) rfl rfl ?_
                                            refine yy_bipush C (v := (nI 114)) dL_held__288 (pc' := 290) rfl (by decide) ?_
                                            refine yy_icmp_eq C dL_held__290 (pc' := 293) rfl (tgt := 300) (by decide) (fun c_290 => ?_) (fun c_290 => ?_)
                                            · skip
                                              exact absurd c_290 (by decide)
                                            · skip
                                              refine yy_iload C 5 dL_held__293 (pc' := 295) rfl rfl ?_
                                              refine yy_bipush C (v := (nI 115)) dL_held__295 (pc' := 297) rfl (by decide) ?_
                                              refine yy_icmp_ne C dL_held__297 (pc' := 300) rfl (tgt := 304) (by decide) (fun c_297 => ?_) (fun c_297 => ?_)
                                              · skip
                                                refine yy_iconst C (v := (nI 0)) dL_held__304 (pc' := 305) rfl (by decide) ?_
                                                refine yy_icmp_ne C dL_held__305 (pc' := 308) rfl (tgt := 327) (by decide) (fun c_305 => ?_) (fun c_305 => ?_)
                                                · skip
                                                  exact absurd c_305 (by decide)
                                                · skip
                                                  refine yy_iload C 3 dL_held__308 (pc' := 310) rfl rfl ?_
                                                  refine yy_if_le C dL_held__310 (pc' := 313) rfl (tgt := 329) (by decide) (fun c_310 => ?_) (fun c_310 => ?_)
                                                  · skip
                                                    exact absurd c_310 (by decide)
                                                  · skip
                                                    refine yy_iload C 4 dL_held__313 (pc' := 315) rfl rfl ?_
                                                    refine yy_bipush C (v := (nI 114)) dL_held__315 (pc' := 317) rfl (by decide) ?_
                                                    refine yy_icmp_eq C dL_held__317 (pc' := 320) rfl (tgt := 329) (by decide) (fun c_317 => ?_) (fun c_317 => ?_)
                                                    · skip
                                                      refine yy_iinc C (v := (nI (l_ + 1))) (L' := [(4, .int (nI (l_ + 1))), (10, .int (nI 1)), (9, .int (nI 0)), (3, .int (nI (fb_ct (hb S a) (l_ + 1)))), (8, .int (nI 2)), (7, .int (nI 114)), (6, .int (nI 106)), (5, .int (nI 0)), (0, .ref (ad 0)), (1, .int (nI a)), (2, .int (nI (S.1 1)))]) 7 dL_held__329 (pc' := 332) rfl rfl (nI_add l_ 1) (by decide) rfl ?_
                                                      refine yy_goto C (tgt := 5) dL_held__332 (by decide) ?_
                                                      refine yy_loc [0, 3, 8, 9, 10] rfl ?_
                                                      refine yy_widen (cs2 := 0 + 6 * (l_ + 1)) (ss2 := 0 + 36 * (l_ + 1)) (show 0 + 6 * l_ + 6 ≤ 0 + 6 * (l_ + 1) by omega) (show 0 + 36 * l_ + 36 ≤ 0 + 36 * (l_ + 1) by omega) ?_
                                                      exact ih5 (l_ + 1) (by omega) (by omega)
                                                    · skip
                                                      exact absurd c_317 (by decide)
                                              · skip
                                                exact absurd c_297 (by decide)
                                  · skip
                                    exact absurd c_170 (by decide)
                                · skip
                                  exact absurd c_156 (by decide)
                            · skip
                              exact absurd c_139 (by decide)
                          · skip
                            exact absurd c_131 (by decide)
                        · skip
                          exact absurd c_119 (by decide)
                    · skip
                      exact absurd c_105 (by decide)
                  · skip
                    exact absurd c_93 (by decide)
              · skip
                exact absurd c_79 (by decide)
            · skip
              exact absurd c_67 (by decide)
        · skip
          refine yy_aload_n C 2 dL_held__11 (pc' := 12) rfl rfl rfl ?_
          refine yy_iload_n C 3 dL_held__12 (pc' := 13) rfl rfl rfl ?_
          refine yy_iload C 0 dL_held__13 (pc' := 15) rfl rfl ?_
          refine yc_i (yr_SW C (As := [.ref (ad 0), .int (nI a), .int (nI l_)]) (rest := []) lk_L_218 cd_L_holds st_L_holds (mL_holds l hl0 G B0 ad F S (nI a) (nI l_) hR.1.1) ⟨by decide, by decide⟩ ⟨(show 0 + 6 * l_ + 0 + 1 ≤ 245 by omega), (show 0 + 36 * l_ + 0 + 6 ≤ 1470 by omega)⟩ rfl rfl (Nat.le_of_ble_eq_true rfl) dL_held__15) (pc' := 18) rfl (fun r1 _ hw1 => ?_)
          obtain rfl : r1 = (nI 0) := hw1.trans g1
          refine yy_widen (cs2 := 0 + 6 * l_ + 1) (ss2 := 0 + 36 * l_ + 6) (show 0 + 6 * l_ + 0 + 1 ≤ 0 + 6 * l_ + 1 by omega) (show 0 + 36 * l_ + 0 + 6 ≤ 0 + 36 * l_ + 6 by omega) ?_
          refine yy_istore C (L' := [(5, .int (nI 0)), (4, .int (nI l_)), (3, .int (nI (fb_ct (hb S a) l_))), (0, .ref (ad 0)), (1, .int (nI a)), (2, .int (nI (S.1 1)))]) dL_held__18 (pc' := 20) rfl (by decide) rfl ?_
          refine yy_aload_n C 3 dL_held__20 (pc' := 21) rfl rfl rfl ?_
          refine yy_iload_n C 4 dL_held__21 (pc' := 22) rfl rfl rfl ?_
          refine yy_iload C 1 dL_held__22 (pc' := 24) rfl rfl ?_
          refine yc_i (yr_SW C (As := [.ref (ad 0), .int (nI a), .int (nI l_)]) (rest := []) lk_L_212 cd_L_why st_L_why (mL_why l hl0 G B0 ad F S (nI a) (nI l_) hR.1.1) ⟨by decide, by decide⟩ ⟨(show 0 + 6 * l_ + 1 + 1 ≤ 245 by omega), (show 0 + 36 * l_ + 6 + 6 ≤ 1470 by omega)⟩ rfl rfl (Nat.le_of_ble_eq_true rfl) dL_held__24) (pc' := 27) rfl (fun r2 _ hw2 => ?_)
          obtain rfl : r2 = (nI 106) := hw2.trans g3
          refine yy_widen (cs2 := 0 + 6 * l_ + 2) (ss2 := 0 + 36 * l_ + 12) (show 0 + 6 * l_ + 1 + 1 ≤ 0 + 6 * l_ + 2 by omega) (show 0 + 36 * l_ + 6 + 6 ≤ 0 + 36 * l_ + 12 by omega) ?_
          refine yy_istore C (L' := [(6, .int (nI 106)), (5, .int (nI 0)), (4, .int (nI l_)), (3, .int (nI (fb_ct (hb S a) l_))), (0, .ref (ad 0)), (1, .int (nI a)), (2, .int (nI (S.1 1)))]) dL_held__27 (pc' := 29) rfl (by decide) rfl ?_
          refine yy_aload_n C 4 dL_held__29 (pc' := 30) rfl rfl rfl ?_
          refine yy_iload_n C 5 dL_held__30 (pc' := 31) rfl rfl rfl ?_
          refine yy_iload C 2 dL_held__31 (pc' := 33) rfl rfl ?_
          refine yc_i (yr_SW C (As := [.ref (ad 0), .int (nI a), .int (nI l_)]) (rest := []) lk_L_220 cd_L_root st_L_root (mL_root l hl0 G B0 ad F S (nI a) (nI l_) hR.1.1) ⟨by decide, by decide⟩ ⟨(show 0 + 6 * l_ + 2 + 1 ≤ 245 by omega), (show 0 + 36 * l_ + 12 + 6 ≤ 1470 by omega)⟩ rfl rfl (Nat.le_of_ble_eq_true rfl) dL_held__33) (pc' := 36) rfl (fun r3 _ hw3 => ?_)
          obtain rfl : r3 = (nI 115) := hw3.trans g4
          refine yy_widen (cs2 := 0 + 6 * l_ + 3) (ss2 := 0 + 36 * l_ + 18) (show 0 + 6 * l_ + 2 + 1 ≤ 0 + 6 * l_ + 3 by omega) (show 0 + 36 * l_ + 12 + 6 ≤ 0 + 36 * l_ + 18 by omega) ?_
          refine yy_istore C (L' := [(7, .int (nI 115)), (6, .int (nI 106)), (5, .int (nI 0)), (4, .int (nI l_)), (3, .int (nI (fb_ct (hb S a) l_))), (0, .ref (ad 0)), (1, .int (nI a)), (2, .int (nI (S.1 1)))]) dL_held__36 (pc' := 38) rfl (by decide) rfl ?_
          refine yy_aload_n C 5 dL_held__38 (pc' := 39) rfl rfl rfl ?_
          refine yy_iload_n C 6 dL_held__39 (pc' := 40) rfl rfl rfl ?_
          refine yy_iload C 3 dL_held__40 (pc' := 42) rfl rfl ?_
          refine yc_i (yr_SW C (As := [.ref (ad 0), .int (nI a), .int (nI l_)]) (rest := []) lk_L_222 cd_L_causes st_L_causes (mL_causes l hl0 G B0 ad F S (nI a) (nI l_) hR.1.1) ⟨by decide, by decide⟩ ⟨(show 0 + 6 * l_ + 3 + 1 ≤ 245 by omega), (show 0 + 36 * l_ + 18 + 6 ≤ 1470 by omega)⟩ rfl rfl (Nat.le_of_ble_eq_true rfl) dL_held__42) (pc' := 45) rfl (fun r4 _ hw4 => ?_)
          obtain rfl : r4 = (nI 2) := hw4.trans g5
          refine yy_widen (cs2 := 0 + 6 * l_ + 4) (ss2 := 0 + 36 * l_ + 24) (show 0 + 6 * l_ + 3 + 1 ≤ 0 + 6 * l_ + 4 by omega) (show 0 + 36 * l_ + 18 + 6 ≤ 0 + 36 * l_ + 24 by omega) ?_
          refine yy_istore C (L' := [(8, .int (nI 2)), (7, .int (nI 115)), (6, .int (nI 106)), (5, .int (nI 0)), (4, .int (nI l_)), (3, .int (nI (fb_ct (hb S a) l_))), (0, .ref (ad 0)), (1, .int (nI a)), (2, .int (nI (S.1 1)))]) dL_held__45 (pc' := 47) rfl (by decide) rfl ?_
          refine yy_iload_n C 5 dL_held__47 (pc' := 48) rfl rfl rfl ?_
          refine yy_iload C 3 dL_held__48 (pc' := 50) rfl rfl ?_
          refine yy_iadd C (v := (nI (fb_ct (hb S a) (l_ + 1)))) dL_held__50 (pc' := 51) rfl (by rw [ct_f g7]; exact nI_add _ 0) ?_
          refine yy_istore_n C (L' := [(3, .int (nI (fb_ct (hb S a) (l_ + 1)))), (8, .int (nI 2)), (7, .int (nI 115)), (6, .int (nI 106)), (5, .int (nI 0)), (4, .int (nI l_)), (0, .ref (ad 0)), (1, .int (nI a)), (2, .int (nI (S.1 1)))]) dL_held__51 (pc' := 52) rfl rfl (by decide) rfl ?_
          refine yy_iload C 4 dL_held__52 (pc' := 54) rfl rfl ?_
          refine yy_aload_n C 6 dL_held__54 (pc' := 55) rfl rfl rfl ?_
          refine yy_iload_n C 7 dL_held__55 (pc' := 56) rfl rfl rfl ?_
          refine yy_iload C 5 dL_held__56 (pc' := 58) rfl rfl ?_
          refine yc_i (yr_SW C (As := [.ref (ad 0), .int (nI a), .int (nI l_)]) (rest := [.int (nI 0)]) lk_L_224 cd_L_holdsByLog st_L_holdsByLog (mL_holdsByLog l hl0 G B0 ad F S (nI a) (nI l_) hR.1.1) ⟨by decide, by decide⟩ ⟨(show 0 + 6 * l_ + 4 + 1 ≤ 245 by omega), (show 0 + 36 * l_ + 24 + 6 ≤ 1470 by omega)⟩ rfl rfl (Nat.le_of_ble_eq_true rfl) dL_held__58) (pc' := 61) rfl (fun r5 _ hw5 => ?_)
          obtain rfl : r5 = (nI 0) := hw5.trans g2
          refine yy_widen (cs2 := 0 + 6 * l_ + 5) (ss2 := 0 + 36 * l_ + 30) (show 0 + 6 * l_ + 4 + 1 ≤ 0 + 6 * l_ + 5 by omega) (show 0 + 36 * l_ + 24 + 6 ≤ 0 + 36 * l_ + 30 by omega) ?_
          refine yy_icmp_ne C dL_held__61 (pc' := 64) rfl (tgt := 142) (by decide) (fun c_61 => ?_) (fun c_61 => ?_)
          · skip
            exact absurd c_61 (by decide)
          · skip
            refine yy_iload C 4 dL_held__64 (pc' := 66) rfl rfl ?_
            refine yy_iconst C (v := (nI 1)) dL_held__66 (pc' := 67) rfl (by decide) ?_
            refine yy_icmp_ne C dL_held__67 (pc' := 70) rfl (tgt := 74) (by decide) (fun c_67 => ?_) (fun c_67 => ?_)
            · skip
              refine yy_iconst C (v := (nI 0)) dL_held__74 (pc' := 75) rfl (by decide) ?_
              refine yy_iload C 3 dL_held__75 (pc' := 77) rfl rfl ?_
              refine yy_bipush C (v := (-3)) dL_held__77 (pc' := 79) rfl (by decide) ?_
              refine yy_icmp_ne C dL_held__79 (pc' := 82) rfl (tgt := 86) (by decide) (fun c_79 => ?_) (fun c_79 => ?_)
              · skip
                refine yy_iconst C (v := (nI 0)) dL_held__86 (pc' := 87) rfl (by decide) ?_
                refine yy_icmp_ne C dL_held__87 (pc' := 90) rfl (tgt := 142) (by decide) (fun c_87 => ?_) (fun c_87 => ?_)
                · skip
                  exact absurd c_87 (by decide)
                · skip
                  refine yy_iload C 4 dL_held__90 (pc' := 92) rfl rfl ?_
                  refine yy_iconst C (v := (nI 1)) dL_held__92 (pc' := 93) rfl (by decide) ?_
                  refine yy_icmp_ne C dL_held__93 (pc' := 96) rfl (tgt := 100) (by decide) (fun c_93 => ?_) (fun c_93 => ?_)
                  · skip
                    refine yy_iconst C (v := (nI 0)) dL_held__100 (pc' := 101) rfl (by decide) ?_
                    refine yy_iload C 2 dL_held__101 (pc' := 103) rfl rfl ?_
                    refine yy_bipush C (v := (-3)) dL_held__103 (pc' := 105) rfl (by decide) ?_
                    refine yy_icmp_ne C dL_held__105 (pc' := 108) rfl (tgt := 112) (by decide) (fun c_105 => ?_) (fun c_105 => ?_)
                    · skip
                      refine yy_iconst C (v := (nI 0)) dL_held__112 (pc' := 113) rfl (by decide) ?_
                      refine yy_icmp_ne C dL_held__113 (pc' := 116) rfl (tgt := 142) (by decide) (fun c_113 => ?_) (fun c_113 => ?_)
                      · skip
                        exact absurd c_113 (by decide)
                      · skip
                        refine yy_iload C 4 dL_held__116 (pc' := 118) rfl rfl ?_
                        refine yy_iconst C (v := (nI 1)) dL_held__118 (pc' := 119) rfl (by decide) ?_
                        refine yy_icmp_ne C dL_held__119 (pc' := 122) rfl (tgt := 126) (by decide) (fun c_119 => ?_) (fun c_119 => ?_)
                        · skip
                          refine yy_iconst C (v := (nI 0)) dL_held__126 (pc' := 127) rfl (by decide) ?_
                          refine yy_iload C 1 dL_held__127 (pc' := 129) rfl rfl ?_
                          refine yy_bipush C (v := (-3)) dL_held__129 (pc' := 131) rfl (by decide) ?_
                          refine yy_icmp_ne C dL_held__131 (pc' := 134) rfl (tgt := 138) (by decide) (fun c_131 => ?_) (fun c_131 => ?_)
                          · skip
                            refine yy_iconst C (v := (nI 0)) dL_held__138 (pc' := 139) rfl (by decide) ?_
                            refine yy_icmp_eq C dL_held__139 (pc' := 142) rfl (tgt := 144) (by decide) (fun c_139 => ?_) (fun c_139 => ?_)
                            · skip
                              refine yy_iload C 4 dL_held__144 (pc' := 146) rfl rfl ?_
                              refine yy_if_ne C dL_held__146 (pc' := 149) rfl (tgt := 329) (by decide) (fun c_146 => ?_) (fun c_146 => ?_)
                              · skip
                                exact absurd c_146 (by decide)
                              · skip
                                refine yy_aload_n C 6 dL_held__149 (pc' := 150) rfl rfl rfl ?_
                                refine yy_iload C 5 dL_held__150 (pc' := 152) rfl rfl ?_
                                refine yc_i (yr_SW C (As := [.ref (ad 0), .int (nI l_)]) (rest := []) lk_L_204 cd_L_isHidden st_L_isHidden (mL_isHidden l hl0 G B0 ad F S (nI l_) hR.1.1) ⟨by decide, by decide⟩ ⟨(show 0 + 6 * l_ + 5 + 1 ≤ 245 by omega), (show 0 + 36 * l_ + 30 + 6 ≤ 1470 by omega)⟩ rfl rfl (Nat.le_of_ble_eq_true rfl) dL_held__152) (pc' := 155) rfl (fun r6 _ hw6 => ?_)
                                obtain rfl : r6 = (nI 0) := hw6.trans g6
                                refine yy_widen (cs2 := 0 + 6 * l_ + 6) (ss2 := 0 + 36 * l_ + 36) (show 0 + 6 * l_ + 5 + 1 ≤ 0 + 6 * l_ + 6 by omega) (show 0 + 36 * l_ + 30 + 6 ≤ 0 + 36 * l_ + 36 by omega) ?_
                                refine yy_iconst C (v := (nI 1)) dL_held__155 (pc' := 156) rfl (by decide) ?_
                                refine yy_icmp_ne C dL_held__156 (pc' := 159) rfl (tgt := 163) (by decide) (fun c_156 => ?_) (fun c_156 => ?_)
                                · skip
                                  refine yy_iconst C (v := (nI 0)) dL_held__163 (pc' := 164) rfl (by decide) ?_
                                  refine yy_istore C (L' := [(9, .int (nI 0)), (3, .int (nI (fb_ct (hb S a) (l_ + 1)))), (8, .int (nI 2)), (7, .int (nI 115)), (6, .int (nI 106)), (5, .int (nI 0)), (4, .int (nI l_)), (0, .ref (ad 0)), (1, .int (nI a)), (2, .int (nI (S.1 1)))]) dL_held__164 (pc' := 166) rfl (by decide) rfl ?_
                                  refine yy_iload C 4 dL_held__166 (pc' := 168) rfl rfl ?_
                                  refine yy_bipush C (v := (nI 45)) dL_held__168 (pc' := 170) rfl (by decide) ?_
                                  refine yy_icmp_ne C dL_held__170 (pc' := 173) rfl (tgt := 193) (by decide) (fun c_170 => ?_) (fun c_170 => ?_)
                                  · skip
                                    refine yy_iload C 4 dL_held__193 (pc' := 195) rfl rfl ?_
                                    refine yy_bipush C (v := (nI 106)) dL_held__195 (pc' := 197) rfl (by decide) ?_
                                    refine yy_icmp_ne C dL_held__197 (pc' := 200) rfl (tgt := 220) (by decide) (fun c_197 => ?_) (fun c_197 => ?_)
                                    · skip
                                      exact absurd c_197 (by decide)
                                    · skip
                                      refine yy_iload C 2 dL_held__200 (pc' := 202) rfl rfl ?_
                                      refine yy_iconst C (v := (nI 2)) dL_held__202 (pc' := 203) rfl (by decide) ?_
                                      refine yy_icmp_lt C dL_held__203 (pc' := 206) rfl (tgt := 216) (by decide) (fun c_203 => ?_) (fun c_203 => ?_)
                                      · skip
                                        exact absurd c_203 (by decide)
                                      · skip
                                        refine yy_iload C 2 dL_held__206 (pc' := 208) rfl rfl ?_
                                        refine yy_iconst C (v := (nI 3)) dL_held__208 (pc' := 209) rfl (by decide) ?_
                                        refine yy_icmp_gt C dL_held__209 (pc' := 212) rfl (tgt := 216) (by decide) (fun c_209 => ?_) (fun c_209 => ?_)
                                        · skip
                                          exact absurd c_209 (by decide)
                                        · skip
                                          refine yy_iconst C (v := (nI 1)) dL_held__212 (pc' := 213) rfl (by decide) ?_
                                          refine yy_goto C (tgt := 277) dL_held__213 (by decide) ?_
                                          refine yy_istore C (L' := [(10, .int (nI 1)), (9, .int (nI 0)), (3, .int (nI (fb_ct (hb S a) (l_ + 1)))), (8, .int (nI 2)), (7, .int (nI 115)), (6, .int (nI 106)), (5, .int (nI 0)), (4, .int (nI l_)), (0, .ref (ad 0)), (1, .int (nI a)), (2, .int (nI (S.1 1)))]) dL_held__277 (pc' := 279) rfl (by decide) rfl ?_
                                          refine yy_iload C 0 dL_held__279 (pc' := 281) rfl rfl ?_
                                          refine yy_if_eq C dL_held__281 (pc' := 284) rfl (tgt := 327) (by decide) (fun c_281 => ?_) (fun c_281 => ?_)
                                          · skip
                                            exact absurd c_281 (by decide)
                                          · skip
                                            refine yy_iload C 1 dL_held__284 (pc' := 286) rfl rfl ?_
                                            refine yy_iload C 5 dL_held__286 (pc' := 288) rfl rfl ?_
                                            refine yy_bipush C (v := (nI 114)) dL_held__288 (pc' := 290) rfl (by decide) ?_
                                            refine yy_icmp_eq C dL_held__290 (pc' := 293) rfl (tgt := 300) (by decide) (fun c_290 => ?_) (fun c_290 => ?_)
                                            · skip
                                              exact absurd c_290 (by decide)
                                            · skip
                                              refine yy_iload C 5 dL_held__293 (pc' := 295) rfl rfl ?_
                                              refine yy_bipush C (v := (nI 115)) dL_held__295 (pc' := 297) rfl (by decide) ?_
                                              refine yy_icmp_ne C dL_held__297 (pc' := 300) rfl (tgt := 304) (by decide) (fun c_297 => ?_) (fun c_297 => ?_)
                                              · skip
                                                refine yy_iconst C (v := (nI 0)) dL_held__304 (pc' := 305) rfl (by decide) ?_
                                                refine yy_icmp_ne C dL_held__305 (pc' := 308) rfl (tgt := 327) (by decide) (fun c_305 => ?_) (fun c_305 => ?_)
                                                · skip
                                                  exact absurd c_305 (by decide)
                                                · skip
                                                  refine yy_iload C 3 dL_held__308 (pc' := 310) rfl rfl ?_
                                                  refine yy_if_le C dL_held__310 (pc' := 313) rfl (tgt := 329) (by decide) (fun c_310 => ?_) (fun c_310 => ?_)
                                                  · skip
                                                    exact absurd c_310 (by decide)
                                                  · skip
                                                    refine yy_iload C 4 dL_held__313 (pc' := 315) rfl rfl ?_
                                                    refine yy_bipush C (v := (nI 114)) dL_held__315 (pc' := 317) rfl (by decide) ?_
                                                    refine yy_icmp_eq C dL_held__317 (pc' := 320) rfl (tgt := 329) (by decide) (fun c_317 => ?_) (fun c_317 => ?_)
                                                    · skip
                                                      exact absurd c_317 (by decide)
                                                    · skip
                                                      refine yy_iload C 4 dL_held__320 (pc' := 322) rfl rfl ?_
                                                      refine yy_bipush C (v := (nI 115)) dL_held__322 (pc' := 324) rfl (by decide) ?_
                                                      refine yy_icmp_eq C dL_held__324 (pc' := 327) rfl (tgt := 329) (by decide) (fun c_324 => ?_) (fun c_324 => ?_)
                                                      · skip
                                                        refine yy_iinc C (v := (nI (l_ + 1))) (L' := [(4, .int (nI (l_ + 1))), (10, .int (nI 1)), (9, .int (nI 0)), (3, .int (nI (fb_ct (hb S a) (l_ + 1)))), (8, .int (nI 2)), (7, .int (nI 115)), (6, .int (nI 106)), (5, .int (nI 0)), (0, .ref (ad 0)), (1, .int (nI a)), (2, .int (nI (S.1 1)))]) 7 dL_held__329 (pc' := 332) rfl rfl (nI_add l_ 1) (by decide) rfl ?_
                                                        refine yy_goto C (tgt := 5) dL_held__332 (by decide) ?_
                                                        refine yy_loc [0, 3, 8, 9, 10] rfl ?_
                                                        refine yy_widen (cs2 := 0 + 6 * (l_ + 1)) (ss2 := 0 + 36 * (l_ + 1)) (show 0 + 6 * l_ + 6 ≤ 0 + 6 * (l_ + 1) by omega) (show 0 + 36 * l_ + 36 ≤ 0 + 36 * (l_ + 1) by omega) ?_
                                                        exact ih5 (l_ + 1) (by omega) (by omega)
                                                      · skip
                                                        exact absurd c_324 (by decide)
                                              · skip
                                                exact absurd c_297 (by decide)
                                  · skip
                                    exact absurd c_170 (by decide)
                                · skip
                                  exact absurd c_156 (by decide)
                            · skip
                              exact absurd c_139 (by decide)
                          · skip
                            exact absurd c_131 (by decide)
                        · skip
                          exact absurd c_119 (by decide)
                    · skip
                      exact absurd c_105 (by decide)
                  · skip
                    exact absurd c_93 (by decide)
              · skip
                exact absurd c_79 (by decide)
            · skip
              exact absurd c_67 (by decide)
        · skip
          refine yy_aload_n C 2 dL_held__11 (pc' := 12) rfl rfl rfl ?_
          refine yy_iload_n C 3 dL_held__12 (pc' := 13) rfl rfl rfl ?_
          refine yy_iload C 0 dL_held__13 (pc' := 15) rfl rfl ?_
          refine yc_i (yr_SW C (As := [.ref (ad 0), .int (nI a), .int (nI l_)]) (rest := []) lk_L_218 cd_L_holds st_L_holds (mL_holds l hl0 G B0 ad F S (nI a) (nI l_) hR.1.1) ⟨by decide, by decide⟩ ⟨(show 0 + 6 * l_ + 0 + 1 ≤ 245 by omega), (show 0 + 36 * l_ + 0 + 6 ≤ 1470 by omega)⟩ rfl rfl (Nat.le_of_ble_eq_true rfl) dL_held__15) (pc' := 18) rfl (fun r1 _ hw1 => ?_)
          obtain rfl : r1 = (nI 0) := hw1.trans g1
          refine yy_widen (cs2 := 0 + 6 * l_ + 1) (ss2 := 0 + 36 * l_ + 6) (show 0 + 6 * l_ + 0 + 1 ≤ 0 + 6 * l_ + 1 by omega) (show 0 + 36 * l_ + 0 + 6 ≤ 0 + 36 * l_ + 6 by omega) ?_
          refine yy_istore C (L' := [(5, .int (nI 0)), (4, .int (nI l_)), (3, .int (nI (fb_ct (hb S a) l_))), (0, .ref (ad 0)), (1, .int (nI a)), (2, .int (nI (S.1 1)))]) dL_held__18 (pc' := 20) rfl (by decide) rfl ?_
          refine yy_aload_n C 3 dL_held__20 (pc' := 21) rfl rfl rfl ?_
          refine yy_iload_n C 4 dL_held__21 (pc' := 22) rfl rfl rfl ?_
          refine yy_iload C 1 dL_held__22 (pc' := 24) rfl rfl ?_
          refine yc_i (yr_SW C (As := [.ref (ad 0), .int (nI a), .int (nI l_)]) (rest := []) lk_L_212 cd_L_why st_L_why (mL_why l hl0 G B0 ad F S (nI a) (nI l_) hR.1.1) ⟨by decide, by decide⟩ ⟨(show 0 + 6 * l_ + 1 + 1 ≤ 245 by omega), (show 0 + 36 * l_ + 6 + 6 ≤ 1470 by omega)⟩ rfl rfl (Nat.le_of_ble_eq_true rfl) dL_held__24) (pc' := 27) rfl (fun r2 _ hw2 => ?_)
          obtain rfl : r2 = (nI 106) := hw2.trans g3
          refine yy_widen (cs2 := 0 + 6 * l_ + 2) (ss2 := 0 + 36 * l_ + 12) (show 0 + 6 * l_ + 1 + 1 ≤ 0 + 6 * l_ + 2 by omega) (show 0 + 36 * l_ + 6 + 6 ≤ 0 + 36 * l_ + 12 by omega) ?_
          refine yy_istore C (L' := [(6, .int (nI 106)), (5, .int (nI 0)), (4, .int (nI l_)), (3, .int (nI (fb_ct (hb S a) l_))), (0, .ref (ad 0)), (1, .int (nI a)), (2, .int (nI (S.1 1)))]) dL_held__27 (pc' := 29) rfl (by decide) rfl ?_
          refine yy_aload_n C 4 dL_held__29 (pc' := 30) rfl rfl rfl ?_
          refine yy_iload_n C 5 dL_held__30 (pc' := 31) rfl rfl rfl ?_
          refine yy_iload C 2 dL_held__31 (pc' := 33) rfl rfl ?_
          refine yc_i (yr_SW C (As := [.ref (ad 0), .int (nI a), .int (nI l_)]) (rest := []) lk_L_220 cd_L_root st_L_root (mL_root l hl0 G B0 ad F S (nI a) (nI l_) hR.1.1) ⟨by decide, by decide⟩ ⟨(show 0 + 6 * l_ + 2 + 1 ≤ 245 by omega), (show 0 + 36 * l_ + 12 + 6 ≤ 1470 by omega)⟩ rfl rfl (Nat.le_of_ble_eq_true rfl) dL_held__33) (pc' := 36) rfl (fun r3 _ hw3 => ?_)
          obtain rfl : r3 = (nI 115) := hw3.trans g4
          refine yy_widen (cs2 := 0 + 6 * l_ + 3) (ss2 := 0 + 36 * l_ + 18) (show 0 + 6 * l_ + 2 + 1 ≤ 0 + 6 * l_ + 3 by omega) (show 0 + 36 * l_ + 12 + 6 ≤ 0 + 36 * l_ + 18 by omega) ?_
          refine yy_istore C (L' := [(7, .int (nI 115)), (6, .int (nI 106)), (5, .int (nI 0)), (4, .int (nI l_)), (3, .int (nI (fb_ct (hb S a) l_))), (0, .ref (ad 0)), (1, .int (nI a)), (2, .int (nI (S.1 1)))]) dL_held__36 (pc' := 38) rfl (by decide) rfl ?_
          refine yy_aload_n C 5 dL_held__38 (pc' := 39) rfl rfl rfl ?_
          refine yy_iload_n C 6 dL_held__39 (pc' := 40) rfl rfl rfl ?_
          refine yy_iload C 3 dL_held__40 (pc' := 42) rfl rfl ?_
          refine yc_i (yr_SW C (As := [.ref (ad 0), .int (nI a), .int (nI l_)]) (rest := []) lk_L_222 cd_L_causes st_L_causes (mL_causes l hl0 G B0 ad F S (nI a) (nI l_) hR.1.1) ⟨by decide, by decide⟩ ⟨(show 0 + 6 * l_ + 3 + 1 ≤ 245 by omega), (show 0 + 36 * l_ + 18 + 6 ≤ 1470 by omega)⟩ rfl rfl (Nat.le_of_ble_eq_true rfl) dL_held__42) (pc' := 45) rfl (fun r4 _ hw4 => ?_)
          obtain rfl : r4 = (nI 3) := hw4.trans g5
          refine yy_widen (cs2 := 0 + 6 * l_ + 4) (ss2 := 0 + 36 * l_ + 24) (show 0 + 6 * l_ + 3 + 1 ≤ 0 + 6 * l_ + 4 by omega) (show 0 + 36 * l_ + 18 + 6 ≤ 0 + 36 * l_ + 24 by omega) ?_
          refine yy_istore C (L' := [(8, .int (nI 3)), (7, .int (nI 115)), (6, .int (nI 106)), (5, .int (nI 0)), (4, .int (nI l_)), (3, .int (nI (fb_ct (hb S a) l_))), (0, .ref (ad 0)), (1, .int (nI a)), (2, .int (nI (S.1 1)))]) dL_held__45 (pc' := 47) rfl (by decide) rfl ?_
          refine yy_iload_n C 5 dL_held__47 (pc' := 48) rfl rfl rfl ?_
          refine yy_iload C 3 dL_held__48 (pc' := 50) rfl rfl ?_
          refine yy_iadd C (v := (nI (fb_ct (hb S a) (l_ + 1)))) dL_held__50 (pc' := 51) rfl (by rw [ct_f g7]; exact nI_add _ 0) ?_
          refine yy_istore_n C (L' := [(3, .int (nI (fb_ct (hb S a) (l_ + 1)))), (8, .int (nI 3)), (7, .int (nI 115)), (6, .int (nI 106)), (5, .int (nI 0)), (4, .int (nI l_)), (0, .ref (ad 0)), (1, .int (nI a)), (2, .int (nI (S.1 1)))]) dL_held__51 (pc' := 52) rfl rfl (by decide) rfl ?_
          refine yy_iload C 4 dL_held__52 (pc' := 54) rfl rfl ?_
          refine yy_aload_n C 6 dL_held__54 (pc' := 55) rfl rfl rfl ?_
          refine yy_iload_n C 7 dL_held__55 (pc' := 56) rfl rfl rfl ?_
          refine yy_iload C 5 dL_held__56 (pc' := 58) rfl rfl ?_
          refine yc_i (yr_SW C (As := [.ref (ad 0), .int (nI a), .int (nI l_)]) (rest := [.int (nI 0)]) lk_L_224 cd_L_holdsByLog st_L_holdsByLog (mL_holdsByLog l hl0 G B0 ad F S (nI a) (nI l_) hR.1.1) ⟨by decide, by decide⟩ ⟨(show 0 + 6 * l_ + 4 + 1 ≤ 245 by omega), (show 0 + 36 * l_ + 24 + 6 ≤ 1470 by omega)⟩ rfl rfl (Nat.le_of_ble_eq_true rfl) dL_held__58) (pc' := 61) rfl (fun r5 _ hw5 => ?_)
          obtain rfl : r5 = (nI 0) := hw5.trans g2
          refine yy_widen (cs2 := 0 + 6 * l_ + 5) (ss2 := 0 + 36 * l_ + 30) (show 0 + 6 * l_ + 4 + 1 ≤ 0 + 6 * l_ + 5 by omega) (show 0 + 36 * l_ + 24 + 6 ≤ 0 + 36 * l_ + 30 by omega) ?_
          refine yy_icmp_ne C dL_held__61 (pc' := 64) rfl (tgt := 142) (by decide) (fun c_61 => ?_) (fun c_61 => ?_)
          · skip
            exact absurd c_61 (by decide)
          · skip
            refine yy_iload C 4 dL_held__64 (pc' := 66) rfl rfl ?_
            refine yy_iconst C (v := (nI 1)) dL_held__66 (pc' := 67) rfl (by decide) ?_
            refine yy_icmp_ne C dL_held__67 (pc' := 70) rfl (tgt := 74) (by decide) (fun c_67 => ?_) (fun c_67 => ?_)
            · skip
              refine yy_iconst C (v := (nI 0)) dL_held__74 (pc' := 75) rfl (by decide) ?_
              refine yy_iload C 3 dL_held__75 (pc' := 77) rfl rfl ?_
              refine yy_bipush C (v := (-3)) dL_held__77 (pc' := 79) rfl (by decide) ?_
              refine yy_icmp_ne C dL_held__79 (pc' := 82) rfl (tgt := 86) (by decide) (fun c_79 => ?_) (fun c_79 => ?_)
              · skip
                refine yy_iconst C (v := (nI 0)) dL_held__86 (pc' := 87) rfl (by decide) ?_
                refine yy_icmp_ne C dL_held__87 (pc' := 90) rfl (tgt := 142) (by decide) (fun c_87 => ?_) (fun c_87 => ?_)
                · skip
                  exact absurd c_87 (by decide)
                · skip
                  refine yy_iload C 4 dL_held__90 (pc' := 92) rfl rfl ?_
                  refine yy_iconst C (v := (nI 1)) dL_held__92 (pc' := 93) rfl (by decide) ?_
                  refine yy_icmp_ne C dL_held__93 (pc' := 96) rfl (tgt := 100) (by decide) (fun c_93 => ?_) (fun c_93 => ?_)
                  · skip
                    refine yy_iconst C (v := (nI 0)) dL_held__100 (pc' := 101) rfl (by decide) ?_
                    refine yy_iload C 2 dL_held__101 (pc' := 103) rfl rfl ?_
                    refine yy_bipush C (v := (-3)) dL_held__103 (pc' := 105) rfl (by decide) ?_
                    refine yy_icmp_ne C dL_held__105 (pc' := 108) rfl (tgt := 112) (by decide) (fun c_105 => ?_) (fun c_105 => ?_)
                    · skip
                      refine yy_iconst C (v := (nI 0)) dL_held__112 (pc' := 113) rfl (by decide) ?_
                      refine yy_icmp_ne C dL_held__113 (pc' := 116) rfl (tgt := 142) (by decide) (fun c_113 => ?_) (fun c_113 => ?_)
                      · skip
                        exact absurd c_113 (by decide)
                      · skip
                        refine yy_iload C 4 dL_held__116 (pc' := 118) rfl rfl ?_
                        refine yy_iconst C (v := (nI 1)) dL_held__118 (pc' := 119) rfl (by decide) ?_
                        refine yy_icmp_ne C dL_held__119 (pc' := 122) rfl (tgt := 126) (by decide) (fun c_119 => ?_) (fun c_119 => ?_)
                        · skip
                          refine yy_iconst C (v := (nI 0)) dL_held__126 (pc' := 127) rfl (by decide) ?_
                          refine yy_iload C 1 dL_held__127 (pc' := 129) rfl rfl ?_
                          refine yy_bipush C (v := (-3)) dL_held__129 (pc' := 131) rfl (by decide) ?_
                          refine yy_icmp_ne C dL_held__131 (pc' := 134) rfl (tgt := 138) (by decide) (fun c_131 => ?_) (fun c_131 => ?_)
                          · skip
                            refine yy_iconst C (v := (nI 0)) dL_held__138 (pc' := 139) rfl (by decide) ?_
                            refine yy_icmp_eq C dL_held__139 (pc' := 142) rfl (tgt := 144) (by decide) (fun c_139 => ?_) (fun c_139 => ?_)
                            · skip
                              refine yy_iload C 4 dL_held__144 (pc' := 146) rfl rfl ?_
                              refine yy_if_ne C dL_held__146 (pc' := 149) rfl (tgt := 329) (by decide) (fun c_146 => ?_) (fun c_146 => ?_)
                              · skip
                                exact absurd c_146 (by decide)
                              · skip
                                refine yy_aload_n C 6 dL_held__149 (pc' := 150) rfl rfl rfl ?_
                                refine yy_iload C 5 dL_held__150 (pc' := 152) rfl rfl ?_
                                refine yc_i (yr_SW C (As := [.ref (ad 0), .int (nI l_)]) (rest := []) lk_L_204 cd_L_isHidden st_L_isHidden (mL_isHidden l hl0 G B0 ad F S (nI l_) hR.1.1) ⟨by decide, by decide⟩ ⟨(show 0 + 6 * l_ + 5 + 1 ≤ 245 by omega), (show 0 + 36 * l_ + 30 + 6 ≤ 1470 by omega)⟩ rfl rfl (Nat.le_of_ble_eq_true rfl) dL_held__152) (pc' := 155) rfl (fun r6 _ hw6 => ?_)
                                obtain rfl : r6 = (nI 0) := hw6.trans g6
                                refine yy_widen (cs2 := 0 + 6 * l_ + 6) (ss2 := 0 + 36 * l_ + 36) (show 0 + 6 * l_ + 5 + 1 ≤ 0 + 6 * l_ + 6 by omega) (show 0 + 36 * l_ + 30 + 6 ≤ 0 + 36 * l_ + 36 by omega) ?_
                                refine yy_iconst C (v := (nI 1)) dL_held__155 (pc' := 156) rfl (by decide) ?_
                                refine yy_icmp_ne C dL_held__156 (pc' := 159) rfl (tgt := 163) (by decide) (fun c_156 => ?_) (fun c_156 => ?_)
                                · skip
                                  refine yy_iconst C (v := (nI 0)) dL_held__163 (pc' := 164) rfl (by decide) ?_
                                  refine yy_istore C (L' := [(9, .int (nI 0)), (3, .int (nI (fb_ct (hb S a) (l_ + 1)))), (8, .int (nI 3)), (7, .int (nI 115)), (6, .int (nI 106)), (5, .int (nI 0)), (4, .int (nI l_)), (0, .ref (ad 0)), (1, .int (nI a)), (2, .int (nI (S.1 1)))]) dL_held__164 (pc' := 166) rfl (by decide) rfl ?_
                                  refine yy_iload C 4 dL_held__166 (pc' := 168) rfl rfl ?_
                                  refine yy_bipush C (v := (nI 45)) dL_held__168 (pc' := 170) rfl (by decide) ?_
                                  refine yy_icmp_ne C dL_held__170 (pc' := 173) rfl (tgt := 193) (by decide) (fun c_170 => ?_) (fun c_170 => ?_)
                                  · skip
                                    refine yy_iload C 4 dL_held__193 (pc' := 195) rfl rfl ?_
                                    refine yy_bipush C (v := (nI 106)) dL_held__195 (pc' := 197) rfl (by decide) ?_
                                    refine yy_icmp_ne C dL_held__197 (pc' := 200) rfl (tgt := 220) (by decide) (fun c_197 => ?_) (fun c_197 => ?_)
                                    · skip
                                      exact absurd c_197 (by decide)
                                    · skip
                                      refine yy_iload C 2 dL_held__200 (pc' := 202) rfl rfl ?_
                                      refine yy_iconst C (v := (nI 2)) dL_held__202 (pc' := 203) rfl (by decide) ?_
                                      refine yy_icmp_lt C dL_held__203 (pc' := 206) rfl (tgt := 216) (by decide) (fun c_203 => ?_) (fun c_203 => ?_)
                                      · skip
                                        exact absurd c_203 (by decide)
                                      · skip
                                        refine yy_iload C 2 dL_held__206 (pc' := 208) rfl rfl ?_
                                        refine yy_iconst C (v := (nI 3)) dL_held__208 (pc' := 209) rfl (by decide) ?_
                                        refine yy_icmp_gt C dL_held__209 (pc' := 212) rfl (tgt := 216) (by decide) (fun c_209 => ?_) (fun c_209 => ?_)
                                        · skip
                                          exact absurd c_209 (by decide)
                                        · skip
                                          refine yy_iconst C (v := (nI 1)) dL_held__212 (pc' := 213) rfl (by decide) ?_
                                          refine yy_goto C (tgt := 277) dL_held__213 (by decide) ?_
                                          refine yy_istore C (L' := [(10, .int (nI 1)), (9, .int (nI 0)), (3, .int (nI (fb_ct (hb S a) (l_ + 1)))), (8, .int (nI 3)), (7, .int (nI 115)), (6, .int (nI 106)), (5, .int (nI 0)), (4, .int (nI l_)), (0, .ref (ad 0)), (1, .int (nI a)), (2, .int (nI (S.1 1)))]) dL_held__277 (pc' := 279) rfl (by decide) rfl ?_
                                          refine yy_iload C 0 dL_held__279 (pc' := 281) rfl rfl ?_
                                          refine yy_if_eq C dL_held__281 (pc' := 284) rfl (tgt := 327) (by decide) (fun c_281 => ?_) (fun c_281 => ?_)
                                          · skip
                                            exact absurd c_281 (by decide)
                                          · skip
                                            refine yy_iload C 1 dL_held__284 (pc' := 286) rfl rfl ?_
                                            refine yy_iload C 5 dL_held__286 (pc' := 288) rfl rfl ?_
                                            refine yy_bipush C (v := (nI 114)) dL_held__288 (pc' := 290) rfl (by decide) ?_
                                            refine yy_icmp_eq C dL_held__290 (pc' := 293) rfl (tgt := 300) (by decide) (fun c_290 => ?_) (fun c_290 => ?_)
                                            · skip
                                              exact absurd c_290 (by decide)
                                            · skip
                                              refine yy_iload C 5 dL_held__293 (pc' := 295) rfl rfl ?_
                                              refine yy_bipush C (v := (nI 115)) dL_held__295 (pc' := 297) rfl (by decide) ?_
                                              refine yy_icmp_ne C dL_held__297 (pc' := 300) rfl (tgt := 304) (by decide) (fun c_297 => ?_) (fun c_297 => ?_)
                                              · skip
                                                refine yy_iconst C (v := (nI 0)) dL_held__304 (pc' := 305) rfl (by decide) ?_
                                                refine yy_icmp_ne C dL_held__305 (pc' := 308) rfl (tgt := 327) (by decide) (fun c_305 => ?_) (fun c_305 => ?_)
                                                · skip
                                                  exact absurd c_305 (by decide)
                                                · skip
                                                  refine yy_iload C 3 dL_held__308 (pc' := 310) rfl rfl ?_
                                                  refine yy_if_le C dL_held__310 (pc' := 313) rfl (tgt := 329) (by decide) (fun c_310 => ?_) (fun c_310 => ?_)
                                                  · skip
                                                    exact absurd c_310 (by decide)
                                                  · skip
                                                    refine yy_iload C 4 dL_held__313 (pc' := 315) rfl rfl ?_
                                                    refine yy_bipush C (v := (nI 114)) dL_held__315 (pc' := 317) rfl (by decide) ?_
                                                    refine yy_icmp_eq C dL_held__317 (pc' := 320) rfl (tgt := 329) (by decide) (fun c_317 => ?_) (fun c_317 => ?_)
                                                    · skip
                                                      exact absurd c_317 (by decide)
                                                    · skip
                                                      refine yy_iload C 4 dL_held__320 (pc' := 322) rfl rfl ?_
                                                      refine yy_bipush C (v := (nI 115)) dL_held__322 (pc' := 324) rfl (by decide) ?_
                                                      refine yy_icmp_eq C dL_held__324 (pc' := 327) rfl (tgt := 329) (by decide) (fun c_324 => ?_) (fun c_324 => ?_)
                                                      · skip
                                                        refine yy_iinc C (v := (nI (l_ + 1))) (L' := [(4, .int (nI (l_ + 1))), (10, .int (nI 1)), (9, .int (nI 0)), (3, .int (nI (fb_ct (hb S a) (l_ + 1)))), (8, .int (nI 3)), (7, .int (nI 115)), (6, .int (nI 106)), (5, .int (nI 0)), (0, .ref (ad 0)), (1, .int (nI a)), (2, .int (nI (S.1 1)))]) 7 dL_held__329 (pc' := 332) rfl rfl (nI_add l_ 1) (by decide) rfl ?_
                                                        refine yy_goto C (tgt := 5) dL_held__332 (by decide) ?_
                                                        refine yy_loc [0, 3, 8, 9, 10] rfl ?_
                                                        refine yy_widen (cs2 := 0 + 6 * (l_ + 1)) (ss2 := 0 + 36 * (l_ + 1)) (show 0 + 6 * l_ + 6 ≤ 0 + 6 * (l_ + 1) by omega) (show 0 + 36 * l_ + 36 ≤ 0 + 36 * (l_ + 1) by omega) ?_
                                                        exact ih5 (l_ + 1) (by omega) (by omega)
                                                      · skip
                                                        exact absurd c_324 (by decide)
                                              · skip
                                                exact absurd c_297 (by decide)
                                  · skip
                                    exact absurd c_170 (by decide)
                                · skip
                                  exact absurd c_156 (by decide)
                            · skip
                              exact absurd c_139 (by decide)
                          · skip
                            exact absurd c_131 (by decide)
                        · skip
                          exact absurd c_119 (by decide)
                    · skip
                      exact absurd c_105 (by decide)
                  · skip
                    exact absurd c_93 (by decide)
              · skip
                exact absurd c_79 (by decide)
            · skip
              exact absurd c_67 (by decide)
        · skip
          refine yy_aload_n C 2 dL_held__11 (pc' := 12) rfl rfl rfl ?_
          refine yy_iload_n C 3 dL_held__12 (pc' := 13) rfl rfl rfl ?_
          refine yy_iload C 0 dL_held__13 (pc' := 15) rfl rfl ?_
          refine yc_i (yr_SW C (As := [.ref (ad 0), .int (nI a), .int (nI l_)]) (rest := []) lk_L_218 cd_L_holds st_L_holds (mL_holds l hl0 G B0 ad F S (nI a) (nI l_) hR.1.1) ⟨by decide, by decide⟩ ⟨(show 0 + 6 * l_ + 0 + 1 ≤ 245 by omega), (show 0 + 36 * l_ + 0 + 6 ≤ 1470 by omega)⟩ rfl rfl (Nat.le_of_ble_eq_true rfl) dL_held__15) (pc' := 18) rfl (fun r1 _ hw1 => ?_)
          obtain rfl : r1 = (nI 0) := hw1.trans g1
          refine yy_widen (cs2 := 0 + 6 * l_ + 1) (ss2 := 0 + 36 * l_ + 6) (show 0 + 6 * l_ + 0 + 1 ≤ 0 + 6 * l_ + 1 by omega) (show 0 + 36 * l_ + 0 + 6 ≤ 0 + 36 * l_ + 6 by omega) ?_
          refine yy_istore C (L' := [(5, .int (nI 0)), (4, .int (nI l_)), (3, .int (nI (fb_ct (hb S a) l_))), (0, .ref (ad 0)), (1, .int (nI a)), (2, .int (nI (S.1 1)))]) dL_held__18 (pc' := 20) rfl (by decide) rfl ?_
          refine yy_aload_n C 3 dL_held__20 (pc' := 21) rfl rfl rfl ?_
          refine yy_iload_n C 4 dL_held__21 (pc' := 22) rfl rfl rfl ?_
          refine yy_iload C 1 dL_held__22 (pc' := 24) rfl rfl ?_
          refine yc_i (yr_SW C (As := [.ref (ad 0), .int (nI a), .int (nI l_)]) (rest := []) lk_L_212 cd_L_why st_L_why (mL_why l hl0 G B0 ad F S (nI a) (nI l_) hR.1.1) ⟨by decide, by decide⟩ ⟨(show 0 + 6 * l_ + 1 + 1 ≤ 245 by omega), (show 0 + 36 * l_ + 6 + 6 ≤ 1470 by omega)⟩ rfl rfl (Nat.le_of_ble_eq_true rfl) dL_held__24) (pc' := 27) rfl (fun r2 _ hw2 => ?_)
          obtain rfl : r2 = (nI 114) := hw2.trans g3
          refine yy_widen (cs2 := 0 + 6 * l_ + 2) (ss2 := 0 + 36 * l_ + 12) (show 0 + 6 * l_ + 1 + 1 ≤ 0 + 6 * l_ + 2 by omega) (show 0 + 36 * l_ + 6 + 6 ≤ 0 + 36 * l_ + 12 by omega) ?_
          refine yy_istore C (L' := [(6, .int (nI 114)), (5, .int (nI 0)), (4, .int (nI l_)), (3, .int (nI (fb_ct (hb S a) l_))), (0, .ref (ad 0)), (1, .int (nI a)), (2, .int (nI (S.1 1)))]) dL_held__27 (pc' := 29) rfl (by decide) rfl ?_
          refine yy_aload_n C 4 dL_held__29 (pc' := 30) rfl rfl rfl ?_
          refine yy_iload_n C 5 dL_held__30 (pc' := 31) rfl rfl rfl ?_
          refine yy_iload C 2 dL_held__31 (pc' := 33) rfl rfl ?_
          refine yc_i (yr_SW C (As := [.ref (ad 0), .int (nI a), .int (nI l_)]) (rest := []) lk_L_220 cd_L_root st_L_root (mL_root l hl0 G B0 ad F S (nI a) (nI l_) hR.1.1) ⟨by decide, by decide⟩ ⟨(show 0 + 6 * l_ + 2 + 1 ≤ 245 by omega), (show 0 + 36 * l_ + 12 + 6 ≤ 1470 by omega)⟩ rfl rfl (Nat.le_of_ble_eq_true rfl) dL_held__33) (pc' := 36) rfl (fun r3 _ hw3 => ?_)
          obtain rfl : r3 = (nI 114) := hw3.trans g4
          refine yy_widen (cs2 := 0 + 6 * l_ + 3) (ss2 := 0 + 36 * l_ + 18) (show 0 + 6 * l_ + 2 + 1 ≤ 0 + 6 * l_ + 3 by omega) (show 0 + 36 * l_ + 12 + 6 ≤ 0 + 36 * l_ + 18 by omega) ?_
          refine yy_istore C (L' := [(7, .int (nI 114)), (6, .int (nI 114)), (5, .int (nI 0)), (4, .int (nI l_)), (3, .int (nI (fb_ct (hb S a) l_))), (0, .ref (ad 0)), (1, .int (nI a)), (2, .int (nI (S.1 1)))]) dL_held__36 (pc' := 38) rfl (by decide) rfl ?_
          refine yy_aload_n C 5 dL_held__38 (pc' := 39) rfl rfl rfl ?_
          refine yy_iload_n C 6 dL_held__39 (pc' := 40) rfl rfl rfl ?_
          refine yy_iload C 3 dL_held__40 (pc' := 42) rfl rfl ?_
          refine yc_i (yr_SW C (As := [.ref (ad 0), .int (nI a), .int (nI l_)]) (rest := []) lk_L_222 cd_L_causes st_L_causes (mL_causes l hl0 G B0 ad F S (nI a) (nI l_) hR.1.1) ⟨by decide, by decide⟩ ⟨(show 0 + 6 * l_ + 3 + 1 ≤ 245 by omega), (show 0 + 36 * l_ + 18 + 6 ≤ 1470 by omega)⟩ rfl rfl (Nat.le_of_ble_eq_true rfl) dL_held__42) (pc' := 45) rfl (fun r4 _ hw4 => ?_)
          obtain rfl : r4 = (nI 1) := hw4.trans g5
          refine yy_widen (cs2 := 0 + 6 * l_ + 4) (ss2 := 0 + 36 * l_ + 24) (show 0 + 6 * l_ + 3 + 1 ≤ 0 + 6 * l_ + 4 by omega) (show 0 + 36 * l_ + 18 + 6 ≤ 0 + 36 * l_ + 24 by omega) ?_
          refine yy_istore C (L' := [(8, .int (nI 1)), (7, .int (nI 114)), (6, .int (nI 114)), (5, .int (nI 0)), (4, .int (nI l_)), (3, .int (nI (fb_ct (hb S a) l_))), (0, .ref (ad 0)), (1, .int (nI a)), (2, .int (nI (S.1 1)))]) dL_held__45 (pc' := 47) rfl (by decide) rfl ?_
          refine yy_iload_n C 5 dL_held__47 (pc' := 48) rfl rfl rfl ?_
          refine yy_iload C 3 dL_held__48 (pc' := 50) rfl rfl ?_
          refine yy_iadd C (v := (nI (fb_ct (hb S a) (l_ + 1)))) dL_held__50 (pc' := 51) rfl (by rw [ct_f g7]; exact nI_add _ 0) ?_
          refine yy_istore_n C (L' := [(3, .int (nI (fb_ct (hb S a) (l_ + 1)))), (8, .int (nI 1)), (7, .int (nI 114)), (6, .int (nI 114)), (5, .int (nI 0)), (4, .int (nI l_)), (0, .ref (ad 0)), (1, .int (nI a)), (2, .int (nI (S.1 1)))]) dL_held__51 (pc' := 52) rfl rfl (by decide) rfl ?_
          refine yy_iload C 4 dL_held__52 (pc' := 54) rfl rfl ?_
          refine yy_aload_n C 6 dL_held__54 (pc' := 55) rfl rfl rfl ?_
          refine yy_iload_n C 7 dL_held__55 (pc' := 56) rfl rfl rfl ?_
          refine yy_iload C 5 dL_held__56 (pc' := 58) rfl rfl ?_
          refine yc_i (yr_SW C (As := [.ref (ad 0), .int (nI a), .int (nI l_)]) (rest := [.int (nI 0)]) lk_L_224 cd_L_holdsByLog st_L_holdsByLog (mL_holdsByLog l hl0 G B0 ad F S (nI a) (nI l_) hR.1.1) ⟨by decide, by decide⟩ ⟨(show 0 + 6 * l_ + 4 + 1 ≤ 245 by omega), (show 0 + 36 * l_ + 24 + 6 ≤ 1470 by omega)⟩ rfl rfl (Nat.le_of_ble_eq_true rfl) dL_held__58) (pc' := 61) rfl (fun r5 _ hw5 => ?_)
          obtain rfl : r5 = (nI 0) := hw5.trans g2
          refine yy_widen (cs2 := 0 + 6 * l_ + 5) (ss2 := 0 + 36 * l_ + 30) (show 0 + 6 * l_ + 4 + 1 ≤ 0 + 6 * l_ + 5 by omega) (show 0 + 36 * l_ + 24 + 6 ≤ 0 + 36 * l_ + 30 by omega) ?_
          refine yy_icmp_ne C dL_held__61 (pc' := 64) rfl (tgt := 142) (by decide) (fun c_61 => ?_) (fun c_61 => ?_)
          · skip
            exact absurd c_61 (by decide)
          · skip
            refine yy_iload C 4 dL_held__64 (pc' := 66) rfl rfl ?_
            refine yy_iconst C (v := (nI 1)) dL_held__66 (pc' := 67) rfl (by decide) ?_
            refine yy_icmp_ne C dL_held__67 (pc' := 70) rfl (tgt := 74) (by decide) (fun c_67 => ?_) (fun c_67 => ?_)
            · skip
              refine yy_iconst C (v := (nI 0)) dL_held__74 (pc' := 75) rfl (by decide) ?_
              refine yy_iload C 3 dL_held__75 (pc' := 77) rfl rfl ?_
              refine yy_bipush C (v := (-3)) dL_held__77 (pc' := 79) rfl (by decide) ?_
              refine yy_icmp_ne C dL_held__79 (pc' := 82) rfl (tgt := 86) (by decide) (fun c_79 => ?_) (fun c_79 => ?_)
              · skip
                refine yy_iconst C (v := (nI 0)) dL_held__86 (pc' := 87) rfl (by decide) ?_
                refine yy_icmp_ne C dL_held__87 (pc' := 90) rfl (tgt := 142) (by decide) (fun c_87 => ?_) (fun c_87 => ?_)
                · skip
                  exact absurd c_87 (by decide)
                · skip
                  refine yy_iload C 4 dL_held__90 (pc' := 92) rfl rfl ?_
                  refine yy_iconst C (v := (nI 1)) dL_held__92 (pc' := 93) rfl (by decide) ?_
                  refine yy_icmp_ne C dL_held__93 (pc' := 96) rfl (tgt := 100) (by decide) (fun c_93 => ?_) (fun c_93 => ?_)
                  · skip
                    refine yy_iconst C (v := (nI 0)) dL_held__100 (pc' := 101) rfl (by decide) ?_
                    refine yy_iload C 2 dL_held__101 (pc' := 103) rfl rfl ?_
                    refine yy_bipush C (v := (-3)) dL_held__103 (pc' := 105) rfl (by decide) ?_
                    refine yy_icmp_ne C dL_held__105 (pc' := 108) rfl (tgt := 112) (by decide) (fun c_105 => ?_) (fun c_105 => ?_)
                    · skip
                      refine yy_iconst C (v := (nI 0)) dL_held__112 (pc' := 113) rfl (by decide) ?_
                      refine yy_icmp_ne C dL_held__113 (pc' := 116) rfl (tgt := 142) (by decide) (fun c_113 => ?_) (fun c_113 => ?_)
                      · skip
                        exact absurd c_113 (by decide)
                      · skip
                        refine yy_iload C 4 dL_held__116 (pc' := 118) rfl rfl ?_
                        refine yy_iconst C (v := (nI 1)) dL_held__118 (pc' := 119) rfl (by decide) ?_
                        refine yy_icmp_ne C dL_held__119 (pc' := 122) rfl (tgt := 126) (by decide) (fun c_119 => ?_) (fun c_119 => ?_)
                        · skip
                          refine yy_iconst C (v := (nI 0)) dL_held__126 (pc' := 127) rfl (by decide) ?_
                          refine yy_iload C 1 dL_held__127 (pc' := 129) rfl rfl ?_
                          refine yy_bipush C (v := (-3)) dL_held__129 (pc' := 131) rfl (by decide) ?_
                          refine yy_icmp_ne C dL_held__131 (pc' := 134) rfl (tgt := 138) (by decide) (fun c_131 => ?_) (fun c_131 => ?_)
                          · skip
                            refine yy_iconst C (v := (nI 0)) dL_held__138 (pc' := 139) rfl (by decide) ?_
                            refine yy_icmp_eq C dL_held__139 (pc' := 142) rfl (tgt := 144) (by decide) (fun c_139 => ?_) (fun c_139 => ?_)
                            · skip
                              refine yy_iload C 4 dL_held__144 (pc' := 146) rfl rfl ?_
                              refine yy_if_ne C dL_held__146 (pc' := 149) rfl (tgt := 329) (by decide) (fun c_146 => ?_) (fun c_146 => ?_)
                              · skip
                                exact absurd c_146 (by decide)
                              · skip
                                refine yy_aload_n C 6 dL_held__149 (pc' := 150) rfl rfl rfl ?_
                                refine yy_iload C 5 dL_held__150 (pc' := 152) rfl rfl ?_
                                refine yc_i (yr_SW C (As := [.ref (ad 0), .int (nI l_)]) (rest := []) lk_L_204 cd_L_isHidden st_L_isHidden (mL_isHidden l hl0 G B0 ad F S (nI l_) hR.1.1) ⟨by decide, by decide⟩ ⟨(show 0 + 6 * l_ + 5 + 1 ≤ 245 by omega), (show 0 + 36 * l_ + 30 + 6 ≤ 1470 by omega)⟩ rfl rfl (Nat.le_of_ble_eq_true rfl) dL_held__152) (pc' := 155) rfl (fun r6 _ hw6 => ?_)
                                obtain rfl : r6 = (nI 1) := hw6.trans g6
                                refine yy_widen (cs2 := 0 + 6 * l_ + 6) (ss2 := 0 + 36 * l_ + 36) (show 0 + 6 * l_ + 5 + 1 ≤ 0 + 6 * l_ + 6 by omega) (show 0 + 36 * l_ + 30 + 6 ≤ 0 + 36 * l_ + 36 by omega) ?_
                                refine yy_iconst C (v := (nI 1)) dL_held__155 (pc' := 156) rfl (by decide) ?_
                                refine yy_icmp_ne C dL_held__156 (pc' := 159) rfl (tgt := 163) (by decide) (fun c_156 => ?_) (fun c_156 => ?_)
                                · skip
                                  exact absurd c_156 (by decide)
                                · skip
                                  refine yy_iconst C (v := (nI 1)) dL_held__159 (pc' := 160) rfl (by decide) ?_
                                  refine yy_goto C (tgt := 164) dL_held__160 (by decide) ?_
                                  refine yy_istore C (L' := [(9, .int (nI 1)), (3, .int (nI (fb_ct (hb S a) (l_ + 1)))), (8, .int (nI 1)), (7, .int (nI 114)), (6, .int (nI 114)), (5, .int (nI 0)), (4, .int (nI l_)), (0, .ref (ad 0)), (1, .int (nI a)), (2, .int (nI (S.1 1)))]) dL_held__164 (pc' := 166) rfl (by decide) rfl ?_
                                  refine yy_iload C 4 dL_held__166 (pc' := 168) rfl rfl ?_
                                  refine yy_bipush C (v := (nI 45)) dL_held__168 (pc' := 170) rfl (by decide) ?_
                                  refine yy_icmp_ne C dL_held__170 (pc' := 173) rfl (tgt := 193) (by decide) (fun c_170 => ?_) (fun c_170 => ?_)
                                  · skip
                                    refine yy_iload C 4 dL_held__193 (pc' := 195) rfl rfl ?_
                                    refine yy_bipush C (v := (nI 106)) dL_held__195 (pc' := 197) rfl (by decide) ?_
                                    refine yy_icmp_ne C dL_held__197 (pc' := 200) rfl (tgt := 220) (by decide) (fun c_197 => ?_) (fun c_197 => ?_)
                                    · skip
                                      refine yy_iload C 4 dL_held__220 (pc' := 222) rfl rfl ?_
                                      refine yy_bipush C (v := (nI 114)) dL_held__222 (pc' := 224) rfl (by decide) ?_
                                      refine yy_icmp_ne C dL_held__224 (pc' := 227) rfl (tgt := 252) (by decide) (fun c_224 => ?_) (fun c_224 => ?_)
                                      · skip
                                        exact absurd c_224 (by decide)
                                      · skip
                                        refine yy_iload C 2 dL_held__227 (pc' := 229) rfl rfl ?_
                                        refine yy_iload C 3 dL_held__229 (pc' := 231) rfl rfl ?_
                                        refine yy_bipush C (v := (nI 115)) dL_held__231 (pc' := 233) rfl (by decide) ?_
                                        refine yy_icmp_ne C dL_held__233 (pc' := 236) rfl (tgt := 240) (by decide) (fun c_233 => ?_) (fun c_233 => ?_)
                                        · skip
                                          refine yy_iconst C (v := (nI 1)) dL_held__240 (pc' := 241) rfl (by decide) ?_
                                          refine yy_icmp_ne C dL_held__241 (pc' := 244) rfl (tgt := 248) (by decide) (fun c_241 => ?_) (fun c_241 => ?_)
                                          · skip
                                            exact absurd c_241 (by decide)
                                          · skip
                                            refine yy_iconst C (v := (nI 1)) dL_held__244 (pc' := 245) rfl (by decide) ?_
                                            refine yy_goto C (tgt := 277) dL_held__245 (by decide) ?_
                                            refine yy_istore C (L' := [(10, .int (nI 1)), (9, .int (nI 1)), (3, .int (nI (fb_ct (hb S a) (l_ + 1)))), (8, .int (nI 1)), (7, .int (nI 114)), (6, .int (nI 114)), (5, .int (nI 0)), (4, .int (nI l_)), (0, .ref (ad 0)), (1, .int (nI a)), (2, .int (nI (S.1 1)))]) dL_held__277 (pc' := 279) rfl (by decide) rfl ?_
                                            refine yy_iload C 0 dL_held__279 (pc' := 281) rfl rfl ?_
                                            refine yy_if_eq C dL_held__281 (pc' := 284) rfl (tgt := 327) (by decide) (fun c_281 => ?_) (fun c_281 => ?_)
                                            · skip
                                              exact absurd c_281 (by decide)
                                            · skip
                                              refine yy_iload C 1 dL_held__284 (pc' := 286) rfl rfl ?_
                                              refine yy_iload C 5 dL_held__286 (pc' := 288) rfl rfl ?_
                                              refine yy_bipush C (v := (nI 114)) dL_held__288 (pc' := 290) rfl (by decide) ?_
                                              refine yy_icmp_eq C dL_held__290 (pc' := 293) rfl (tgt := 300) (by decide) (fun c_290 => ?_) (fun c_290 => ?_)
                                              · skip
                                                refine yy_iconst C (v := (nI 1)) dL_held__300 (pc' := 301) rfl (by decide) ?_
                                                refine yy_goto C (tgt := 305) dL_held__301 (by decide) ?_
                                                refine yy_icmp_ne C dL_held__305 (pc' := 308) rfl (tgt := 327) (by decide) (fun c_305 => ?_) (fun c_305 => ?_)
                                                · skip
                                                  exact absurd c_305 (by decide)
                                                · skip
                                                  refine yy_iload C 3 dL_held__308 (pc' := 310) rfl rfl ?_
                                                  refine yy_if_le C dL_held__310 (pc' := 313) rfl (tgt := 329) (by decide) (fun c_310 => ?_) (fun c_310 => ?_)
                                                  · skip
                                                    exact absurd c_310 (by decide)
                                                  · skip
                                                    refine yy_iload C 4 dL_held__313 (pc' := 315) rfl rfl ?_
                                                    refine yy_bipush C (v := (nI 114)) dL_held__315 (pc' := 317) rfl (by decide) ?_
                                                    refine yy_icmp_eq C dL_held__317 (pc' := 320) rfl (tgt := 329) (by decide) (fun c_317 => ?_) (fun c_317 => ?_)
                                                    · skip
                                                      refine yy_iinc C (v := (nI (l_ + 1))) (L' := [(4, .int (nI (l_ + 1))), (10, .int (nI 1)), (9, .int (nI 1)), (3, .int (nI (fb_ct (hb S a) (l_ + 1)))), (8, .int (nI 1)), (7, .int (nI 114)), (6, .int (nI 114)), (5, .int (nI 0)), (0, .ref (ad 0)), (1, .int (nI a)), (2, .int (nI (S.1 1)))]) 7 dL_held__329 (pc' := 332) rfl rfl (nI_add l_ 1) (by decide) rfl ?_
                                                      refine yy_goto C (tgt := 5) dL_held__332 (by decide) ?_
                                                      refine yy_loc [0, 3, 8, 9, 10] rfl ?_
                                                      refine yy_widen (cs2 := 0 + 6 * (l_ + 1)) (ss2 := 0 + 36 * (l_ + 1)) (show 0 + 6 * l_ + 6 ≤ 0 + 6 * (l_ + 1) by omega) (show 0 + 36 * l_ + 36 ≤ 0 + 36 * (l_ + 1) by omega) ?_
                                                      exact ih5 (l_ + 1) (by omega) (by omega)
                                                    · skip
                                                      exact absurd c_317 (by decide)
                                              · skip
                                                exact absurd c_290 (by decide)
                                        · skip
                                          exact absurd c_233 (by decide)
                                    · skip
                                      exact absurd c_197 (by decide)
                                  · skip
                                    exact absurd c_170 (by decide)
                            · skip
                              exact absurd c_139 (by decide)
                          · skip
                            exact absurd c_131 (by decide)
                        · skip
                          exact absurd c_119 (by decide)
                    · skip
                      exact absurd c_105 (by decide)
                  · skip
                    exact absurd c_93 (by decide)
              · skip
                exact absurd c_79 (by decide)
            · skip
              exact absurd c_67 (by decide)
        · skip
          refine yy_aload_n C 2 dL_held__11 (pc' := 12) rfl rfl rfl ?_
          refine yy_iload_n C 3 dL_held__12 (pc' := 13) rfl rfl rfl ?_
          refine yy_iload C 0 dL_held__13 (pc' := 15) rfl rfl ?_
          refine yc_i (yr_SW C (As := [.ref (ad 0), .int (nI a), .int (nI l_)]) (rest := []) lk_L_218 cd_L_holds st_L_holds (mL_holds l hl0 G B0 ad F S (nI a) (nI l_) hR.1.1) ⟨by decide, by decide⟩ ⟨(show 0 + 6 * l_ + 0 + 1 ≤ 245 by omega), (show 0 + 36 * l_ + 0 + 6 ≤ 1470 by omega)⟩ rfl rfl (Nat.le_of_ble_eq_true rfl) dL_held__15) (pc' := 18) rfl (fun r1 _ hw1 => ?_)
          obtain rfl : r1 = (nI 0) := hw1.trans g1
          refine yy_widen (cs2 := 0 + 6 * l_ + 1) (ss2 := 0 + 36 * l_ + 6) (show 0 + 6 * l_ + 0 + 1 ≤ 0 + 6 * l_ + 1 by omega) (show 0 + 36 * l_ + 0 + 6 ≤ 0 + 36 * l_ + 6 by omega) ?_
          refine yy_istore C (L' := [(5, .int (nI 0)), (4, .int (nI l_)), (3, .int (nI (fb_ct (hb S a) l_))), (0, .ref (ad 0)), (1, .int (nI a)), (2, .int (nI (S.1 1)))]) dL_held__18 (pc' := 20) rfl (by decide) rfl ?_
          refine yy_aload_n C 3 dL_held__20 (pc' := 21) rfl rfl rfl ?_
          refine yy_iload_n C 4 dL_held__21 (pc' := 22) rfl rfl rfl ?_
          refine yy_iload C 1 dL_held__22 (pc' := 24) rfl rfl ?_
          refine yc_i (yr_SW C (As := [.ref (ad 0), .int (nI a), .int (nI l_)]) (rest := []) lk_L_212 cd_L_why st_L_why (mL_why l hl0 G B0 ad F S (nI a) (nI l_) hR.1.1) ⟨by decide, by decide⟩ ⟨(show 0 + 6 * l_ + 1 + 1 ≤ 245 by omega), (show 0 + 36 * l_ + 6 + 6 ≤ 1470 by omega)⟩ rfl rfl (Nat.le_of_ble_eq_true rfl) dL_held__24) (pc' := 27) rfl (fun r2 _ hw2 => ?_)
          obtain rfl : r2 = (nI 114) := hw2.trans g3
          refine yy_widen (cs2 := 0 + 6 * l_ + 2) (ss2 := 0 + 36 * l_ + 12) (show 0 + 6 * l_ + 1 + 1 ≤ 0 + 6 * l_ + 2 by omega) (show 0 + 36 * l_ + 6 + 6 ≤ 0 + 36 * l_ + 12 by omega) ?_
          refine yy_istore C (L' := [(6, .int (nI 114)), (5, .int (nI 0)), (4, .int (nI l_)), (3, .int (nI (fb_ct (hb S a) l_))), (0, .ref (ad 0)), (1, .int (nI a)), (2, .int (nI (S.1 1)))]) dL_held__27 (pc' := 29) rfl (by decide) rfl ?_
          refine yy_aload_n C 4 dL_held__29 (pc' := 30) rfl rfl rfl ?_
          refine yy_iload_n C 5 dL_held__30 (pc' := 31) rfl rfl rfl ?_
          refine yy_iload C 2 dL_held__31 (pc' := 33) rfl rfl ?_
          refine yc_i (yr_SW C (As := [.ref (ad 0), .int (nI a), .int (nI l_)]) (rest := []) lk_L_220 cd_L_root st_L_root (mL_root l hl0 G B0 ad F S (nI a) (nI l_) hR.1.1) ⟨by decide, by decide⟩ ⟨(show 0 + 6 * l_ + 2 + 1 ≤ 245 by omega), (show 0 + 36 * l_ + 12 + 6 ≤ 1470 by omega)⟩ rfl rfl (Nat.le_of_ble_eq_true rfl) dL_held__33) (pc' := 36) rfl (fun r3 _ hw3 => ?_)
          obtain rfl : r3 = (nI 115) := hw3.trans g4
          refine yy_widen (cs2 := 0 + 6 * l_ + 3) (ss2 := 0 + 36 * l_ + 18) (show 0 + 6 * l_ + 2 + 1 ≤ 0 + 6 * l_ + 3 by omega) (show 0 + 36 * l_ + 12 + 6 ≤ 0 + 36 * l_ + 18 by omega) ?_
          refine yy_istore C (L' := [(7, .int (nI 115)), (6, .int (nI 114)), (5, .int (nI 0)), (4, .int (nI l_)), (3, .int (nI (fb_ct (hb S a) l_))), (0, .ref (ad 0)), (1, .int (nI a)), (2, .int (nI (S.1 1)))]) dL_held__36 (pc' := 38) rfl (by decide) rfl ?_
          refine yy_aload_n C 5 dL_held__38 (pc' := 39) rfl rfl rfl ?_
          refine yy_iload_n C 6 dL_held__39 (pc' := 40) rfl rfl rfl ?_
          refine yy_iload C 3 dL_held__40 (pc' := 42) rfl rfl ?_
          refine yc_i (yr_SW C (As := [.ref (ad 0), .int (nI a), .int (nI l_)]) (rest := []) lk_L_222 cd_L_causes st_L_causes (mL_causes l hl0 G B0 ad F S (nI a) (nI l_) hR.1.1) ⟨by decide, by decide⟩ ⟨(show 0 + 6 * l_ + 3 + 1 ≤ 245 by omega), (show 0 + 36 * l_ + 18 + 6 ≤ 1470 by omega)⟩ rfl rfl (Nat.le_of_ble_eq_true rfl) dL_held__42) (pc' := 45) rfl (fun r4 _ hw4 => ?_)
          obtain rfl : r4 = (nI 2) := hw4.trans g5
          refine yy_widen (cs2 := 0 + 6 * l_ + 4) (ss2 := 0 + 36 * l_ + 24) (show 0 + 6 * l_ + 3 + 1 ≤ 0 + 6 * l_ + 4 by omega) (show 0 + 36 * l_ + 18 + 6 ≤ 0 + 36 * l_ + 24 by omega) ?_
          refine yy_istore C (L' := [(8, .int (nI 2)), (7, .int (nI 115)), (6, .int (nI 114)), (5, .int (nI 0)), (4, .int (nI l_)), (3, .int (nI (fb_ct (hb S a) l_))), (0, .ref (ad 0)), (1, .int (nI a)), (2, .int (nI (S.1 1)))]) dL_held__45 (pc' := 47) rfl (by decide) rfl ?_
          refine yy_iload_n C 5 dL_held__47 (pc' := 48) rfl rfl rfl ?_
          refine yy_iload C 3 dL_held__48 (pc' := 50) rfl rfl ?_
          refine yy_iadd C (v := (nI (fb_ct (hb S a) (l_ + 1)))) dL_held__50 (pc' := 51) rfl (by rw [ct_f g7]; exact nI_add _ 0) ?_
          refine yy_istore_n C (L' := [(3, .int (nI (fb_ct (hb S a) (l_ + 1)))), (8, .int (nI 2)), (7, .int (nI 115)), (6, .int (nI 114)), (5, .int (nI 0)), (4, .int (nI l_)), (0, .ref (ad 0)), (1, .int (nI a)), (2, .int (nI (S.1 1)))]) dL_held__51 (pc' := 52) rfl rfl (by decide) rfl ?_
          refine yy_iload C 4 dL_held__52 (pc' := 54) rfl rfl ?_
          refine yy_aload_n C 6 dL_held__54 (pc' := 55) rfl rfl rfl ?_
          refine yy_iload_n C 7 dL_held__55 (pc' := 56) rfl rfl rfl ?_
          refine yy_iload C 5 dL_held__56 (pc' := 58) rfl rfl ?_
          refine yc_i (yr_SW C (As := [.ref (ad 0), .int (nI a), .int (nI l_)]) (rest := [.int (nI 0)]) lk_L_224 cd_L_holdsByLog st_L_holdsByLog (mL_holdsByLog l hl0 G B0 ad F S (nI a) (nI l_) hR.1.1) ⟨by decide, by decide⟩ ⟨(show 0 + 6 * l_ + 4 + 1 ≤ 245 by omega), (show 0 + 36 * l_ + 24 + 6 ≤ 1470 by omega)⟩ rfl rfl (Nat.le_of_ble_eq_true rfl) dL_held__58) (pc' := 61) rfl (fun r5 _ hw5 => ?_)
          obtain rfl : r5 = (nI 0) := hw5.trans g2
          refine yy_widen (cs2 := 0 + 6 * l_ + 5) (ss2 := 0 + 36 * l_ + 30) (show 0 + 6 * l_ + 4 + 1 ≤ 0 + 6 * l_ + 5 by omega) (show 0 + 36 * l_ + 24 + 6 ≤ 0 + 36 * l_ + 30 by omega) ?_
          refine yy_icmp_ne C dL_held__61 (pc' := 64) rfl (tgt := 142) (by decide) (fun c_61 => ?_) (fun c_61 => ?_)
          · skip
            exact absurd c_61 (by decide)
          · skip
            refine yy_iload C 4 dL_held__64 (pc' := 66) rfl rfl ?_
            refine yy_iconst C (v := (nI 1)) dL_held__66 (pc' := 67) rfl (by decide) ?_
            refine yy_icmp_ne C dL_held__67 (pc' := 70) rfl (tgt := 74) (by decide) (fun c_67 => ?_) (fun c_67 => ?_)
            · skip
              refine yy_iconst C (v := (nI 0)) dL_held__74 (pc' := 75) rfl (by decide) ?_
              refine yy_iload C 3 dL_held__75 (pc' := 77) rfl rfl ?_
              refine yy_bipush C (v := (-3)) dL_held__77 (pc' := 79) rfl (by decide) ?_
              refine yy_icmp_ne C dL_held__79 (pc' := 82) rfl (tgt := 86) (by decide) (fun c_79 => ?_) (fun c_79 => ?_)
              · skip
                refine yy_iconst C (v := (nI 0)) dL_held__86 (pc' := 87) rfl (by decide) ?_
                refine yy_icmp_ne C dL_held__87 (pc' := 90) rfl (tgt := 142) (by decide) (fun c_87 => ?_) (fun c_87 => ?_)
                · skip
                  exact absurd c_87 (by decide)
                · skip
                  refine yy_iload C 4 dL_held__90 (pc' := 92) rfl rfl ?_
                  refine yy_iconst C (v := (nI 1)) dL_held__92 (pc' := 93) rfl (by decide) ?_
                  refine yy_icmp_ne C dL_held__93 (pc' := 96) rfl (tgt := 100) (by decide) (fun c_93 => ?_) (fun c_93 => ?_)
                  · skip
                    refine yy_iconst C (v := (nI 0)) dL_held__100 (pc' := 101) rfl (by decide) ?_
                    refine yy_iload C 2 dL_held__101 (pc' := 103) rfl rfl ?_
                    refine yy_bipush C (v := (-3)) dL_held__103 (pc' := 105) rfl (by decide) ?_
                    refine yy_icmp_ne C dL_held__105 (pc' := 108) rfl (tgt := 112) (by decide) (fun c_105 => ?_) (fun c_105 => ?_)
                    · skip
                      refine yy_iconst C (v := (nI 0)) dL_held__112 (pc' := 113) rfl (by decide) ?_
                      refine yy_icmp_ne C dL_held__113 (pc' := 116) rfl (tgt := 142) (by decide) (fun c_113 => ?_) (fun c_113 => ?_)
                      · skip
                        exact absurd c_113 (by decide)
                      · skip
                        refine yy_iload C 4 dL_held__116 (pc' := 118) rfl rfl ?_
                        refine yy_iconst C (v := (nI 1)) dL_held__118 (pc' := 119) rfl (by decide) ?_
                        refine yy_icmp_ne C dL_held__119 (pc' := 122) rfl (tgt := 126) (by decide) (fun c_119 => ?_) (fun c_119 => ?_)
                        · skip
                          refine yy_iconst C (v := (nI 0)) dL_held__126 (pc' := 127) rfl (by decide) ?_
                          refine yy_iload C 1 dL_held__127 (pc' := 129) rfl rfl ?_
                          refine yy_bipush C (v := (-3)) dL_held__129 (pc' := 131) rfl (by decide) ?_
                          refine yy_icmp_ne C dL_held__131 (pc' := 134) rfl (tgt := 138) (by decide) (fun c_131 => ?_) (fun c_131 => ?_)
                          · skip
                            refine yy_iconst C (v := (nI 0)) dL_held__138 (pc' := 139) rfl (by decide) ?_
                            refine yy_icmp_eq C dL_held__139 (pc' := 142) rfl (tgt := 144) (by decide) (fun c_139 => ?_) (fun c_139 => ?_)
                            · skip
                              refine yy_iload C 4 dL_held__144 (pc' := 146) rfl rfl ?_
                              refine yy_if_ne C dL_held__146 (pc' := 149) rfl (tgt := 329) (by decide) (fun c_146 => ?_) (fun c_146 => ?_)
                              · skip
                                exact absurd c_146 (by decide)
                              · skip
                                refine yy_aload_n C 6 dL_held__149 (pc' := 150) rfl rfl rfl ?_
                                refine yy_iload C 5 dL_held__150 (pc' := 152) rfl rfl ?_
                                refine yc_i (yr_SW C (As := [.ref (ad 0), .int (nI l_)]) (rest := []) lk_L_204 cd_L_isHidden st_L_isHidden (mL_isHidden l hl0 G B0 ad F S (nI l_) hR.1.1) ⟨by decide, by decide⟩ ⟨(show 0 + 6 * l_ + 5 + 1 ≤ 245 by omega), (show 0 + 36 * l_ + 30 + 6 ≤ 1470 by omega)⟩ rfl rfl (Nat.le_of_ble_eq_true rfl) dL_held__152) (pc' := 155) rfl (fun r6 _ hw6 => ?_)
                                obtain rfl : r6 = (nI 1) := hw6.trans g6
                                refine yy_widen (cs2 := 0 + 6 * l_ + 6) (ss2 := 0 + 36 * l_ + 36) (show 0 + 6 * l_ + 5 + 1 ≤ 0 + 6 * l_ + 6 by omega) (show 0 + 36 * l_ + 30 + 6 ≤ 0 + 36 * l_ + 36 by omega) ?_
                                refine yy_iconst C (v := (nI 1)) dL_held__155 (pc' := 156) rfl (by decide) ?_
                                refine yy_icmp_ne C dL_held__156 (pc' := 159) rfl (tgt := 163) (by decide) (fun c_156 => ?_) (fun c_156 => ?_)
                                · skip
                                  exact absurd c_156 (by decide)
                                · skip
                                  refine yy_iconst C (v := (nI 1)) dL_held__159 (pc' := 160) rfl (by decide) ?_
                                  refine yy_goto C (tgt := 164) dL_held__160 (by decide) ?_
                                  refine yy_istore C (L' := [(9, .int (nI 1)), (3, .int (nI (fb_ct (hb S a) (l_ + 1)))), (8, .int (nI 2)), (7, .int (nI 115)), (6, .int (nI 114)), (5, .int (nI 0)), (4, .int (nI l_)), (0, .ref (ad 0)), (1, .int (nI a)), (2, .int (nI (S.1 1)))]) dL_held__164 (pc' := 166) rfl (by decide) rfl ?_
                                  refine yy_iload C 4 dL_held__166 (pc' := 168) rfl rfl ?_
                                  refine yy_bipush C (v := (nI 45)) dL_held__168 (pc' := 170) rfl (by decide) ?_
                                  refine yy_icmp_ne C dL_held__170 (pc' := 173) rfl (tgt := 193) (by decide) (fun c_170 => ?_) (fun c_170 => ?_)
                                  · skip
                                    refine yy_iload C 4 dL_held__193 (pc' := 195) rfl rfl ?_
                                    refine yy_bipush C (v := (nI 106)) dL_held__195 (pc' := 197) rfl (by decide) ?_
                                    refine yy_icmp_ne C dL_held__197 (pc' := 200) rfl (tgt := 220) (by decide) (fun c_197 => ?_) (fun c_197 => ?_)
                                    · skip
                                      refine yy_iload C 4 dL_held__220 (pc' := 222) rfl rfl ?_
                                      refine yy_bipush C (v := (nI 114)) dL_held__222 (pc' := 224) rfl (by decide) ?_
                                      refine yy_icmp_ne C dL_held__224 (pc' := 227) rfl (tgt := 252) (by decide) (fun c_224 => ?_) (fun c_224 => ?_)
                                      · skip
                                        exact absurd c_224 (by decide)
                                      · skip
                                        refine yy_iload C 2 dL_held__227 (pc' := 229) rfl rfl ?_
                                        refine yy_iload C 3 dL_held__229 (pc' := 231) rfl rfl ?_
                                        refine yy_bipush C (v := (nI 115)) dL_held__231 (pc' := 233) rfl (by decide) ?_
                                        refine yy_icmp_ne C dL_held__233 (pc' := 236) rfl (tgt := 240) (by decide) (fun c_233 => ?_) (fun c_233 => ?_)
                                        · skip
                                          exact absurd c_233 (by decide)
                                        · skip
                                          refine yy_iconst C (v := (nI 2)) dL_held__236 (pc' := 237) rfl (by decide) ?_
                                          refine yy_goto C (tgt := 241) dL_held__237 (by decide) ?_
                                          refine yy_icmp_ne C dL_held__241 (pc' := 244) rfl (tgt := 248) (by decide) (fun c_241 => ?_) (fun c_241 => ?_)
                                          · skip
                                            exact absurd c_241 (by decide)
                                          · skip
                                            refine yy_iconst C (v := (nI 1)) dL_held__244 (pc' := 245) rfl (by decide) ?_
                                            refine yy_goto C (tgt := 277) dL_held__245 (by decide) ?_
                                            refine yy_istore C (L' := [(10, .int (nI 1)), (9, .int (nI 1)), (3, .int (nI (fb_ct (hb S a) (l_ + 1)))), (8, .int (nI 2)), (7, .int (nI 115)), (6, .int (nI 114)), (5, .int (nI 0)), (4, .int (nI l_)), (0, .ref (ad 0)), (1, .int (nI a)), (2, .int (nI (S.1 1)))]) dL_held__277 (pc' := 279) rfl (by decide) rfl ?_
                                            refine yy_iload C 0 dL_held__279 (pc' := 281) rfl rfl ?_
                                            refine yy_if_eq C dL_held__281 (pc' := 284) rfl (tgt := 327) (by decide) (fun c_281 => ?_) (fun c_281 => ?_)
                                            · skip
                                              exact absurd c_281 (by decide)
                                            · skip
                                              refine yy_iload C 1 dL_held__284 (pc' := 286) rfl rfl ?_
                                              refine yy_iload C 5 dL_held__286 (pc' := 288) rfl rfl ?_
                                              refine yy_bipush C (v := (nI 114)) dL_held__288 (pc' := 290) rfl (by decide) ?_
                                              refine yy_icmp_eq C dL_held__290 (pc' := 293) rfl (tgt := 300) (by decide) (fun c_290 => ?_) (fun c_290 => ?_)
                                              · skip
                                                refine yy_iconst C (v := (nI 1)) dL_held__300 (pc' := 301) rfl (by decide) ?_
                                                refine yy_goto C (tgt := 305) dL_held__301 (by decide) ?_
                                                refine yy_icmp_ne C dL_held__305 (pc' := 308) rfl (tgt := 327) (by decide) (fun c_305 => ?_) (fun c_305 => ?_)
                                                · skip
                                                  exact absurd c_305 (by decide)
                                                · skip
                                                  refine yy_iload C 3 dL_held__308 (pc' := 310) rfl rfl ?_
                                                  refine yy_if_le C dL_held__310 (pc' := 313) rfl (tgt := 329) (by decide) (fun c_310 => ?_) (fun c_310 => ?_)
                                                  · skip
                                                    exact absurd c_310 (by decide)
                                                  · skip
                                                    refine yy_iload C 4 dL_held__313 (pc' := 315) rfl rfl ?_
                                                    refine yy_bipush C (v := (nI 114)) dL_held__315 (pc' := 317) rfl (by decide) ?_
                                                    refine yy_icmp_eq C dL_held__317 (pc' := 320) rfl (tgt := 329) (by decide) (fun c_317 => ?_) (fun c_317 => ?_)
                                                    · skip
                                                      exact absurd c_317 (by decide)
                                                    · skip
                                                      refine yy_iload C 4 dL_held__320 (pc' := 322) rfl rfl ?_
                                                      refine yy_bipush C (v := (nI 115)) dL_held__322 (pc' := 324) rfl (by decide) ?_
                                                      refine yy_icmp_eq C dL_held__324 (pc' := 327) rfl (tgt := 329) (by decide) (fun c_324 => ?_) (fun c_324 => ?_)
                                                      · skip
                                                        refine yy_iinc C (v := (nI (l_ + 1))) (L' := [(4, .int (nI (l_ + 1))), (10, .int (nI 1)), (9, .int (nI 1)), (3, .int (nI (fb_ct (hb S a) (l_ + 1)))), (8, .int (nI 2)), (7, .int (nI 115)), (6, .int (nI 114)), (5, .int (nI 0)), (0, .ref (ad 0)), (1, .int (nI a)), (2, .int (nI (S.1 1)))]) 7 dL_held__329 (pc' := 332) rfl rfl (nI_add l_ 1) (by decide) rfl ?_
                                                        refine yy_goto C (tgt := 5) dL_held__332 (by decide) ?_
                                                        refine yy_loc [0, 3, 8, 9, 10] rfl ?_
                                                        refine yy_widen (cs2 := 0 + 6 * (l_ + 1)) (ss2 := 0 + 36 * (l_ + 1)) (show 0 + 6 * l_ + 6 ≤ 0 + 6 * (l_ + 1) by omega) (show 0 + 36 * l_ + 36 ≤ 0 + 36 * (l_ + 1) by omega) ?_
                                                        exact ih5 (l_ + 1) (by omega) (by omega)
                                                      · skip
                                                        exact absurd c_324 (by decide)
                                              · skip
                                                exact absurd c_290 (by decide)
                                    · skip
                                      exact absurd c_197 (by decide)
                                  · skip
                                    exact absurd c_170 (by decide)
                            · skip
                              exact absurd c_139 (by decide)
                          · skip
                            exact absurd c_131 (by decide)
                        · skip
                          exact absurd c_119 (by decide)
                    · skip
                      exact absurd c_105 (by decide)
                  · skip
                    exact absurd c_93 (by decide)
              · skip
                exact absurd c_79 (by decide)
            · skip
              exact absurd c_67 (by decide)
        · skip
          refine yy_aload_n C 2 dL_held__11 (pc' := 12) rfl rfl rfl ?_
          refine yy_iload_n C 3 dL_held__12 (pc' := 13) rfl rfl rfl ?_
          refine yy_iload C 0 dL_held__13 (pc' := 15) rfl rfl ?_
          refine yc_i (yr_SW C (As := [.ref (ad 0), .int (nI a), .int (nI l_)]) (rest := []) lk_L_218 cd_L_holds st_L_holds (mL_holds l hl0 G B0 ad F S (nI a) (nI l_) hR.1.1) ⟨by decide, by decide⟩ ⟨(show 0 + 6 * l_ + 0 + 1 ≤ 245 by omega), (show 0 + 36 * l_ + 0 + 6 ≤ 1470 by omega)⟩ rfl rfl (Nat.le_of_ble_eq_true rfl) dL_held__15) (pc' := 18) rfl (fun r1 _ hw1 => ?_)
          obtain rfl : r1 = (nI 0) := hw1.trans g1
          refine yy_widen (cs2 := 0 + 6 * l_ + 1) (ss2 := 0 + 36 * l_ + 6) (show 0 + 6 * l_ + 0 + 1 ≤ 0 + 6 * l_ + 1 by omega) (show 0 + 36 * l_ + 0 + 6 ≤ 0 + 36 * l_ + 6 by omega) ?_
          refine yy_istore C (L' := [(5, .int (nI 0)), (4, .int (nI l_)), (3, .int (nI (fb_ct (hb S a) l_))), (0, .ref (ad 0)), (1, .int (nI a)), (2, .int (nI (S.1 1)))]) dL_held__18 (pc' := 20) rfl (by decide) rfl ?_
          refine yy_aload_n C 3 dL_held__20 (pc' := 21) rfl rfl rfl ?_
          refine yy_iload_n C 4 dL_held__21 (pc' := 22) rfl rfl rfl ?_
          refine yy_iload C 1 dL_held__22 (pc' := 24) rfl rfl ?_
          refine yc_i (yr_SW C (As := [.ref (ad 0), .int (nI a), .int (nI l_)]) (rest := []) lk_L_212 cd_L_why st_L_why (mL_why l hl0 G B0 ad F S (nI a) (nI l_) hR.1.1) ⟨by decide, by decide⟩ ⟨(show 0 + 6 * l_ + 1 + 1 ≤ 245 by omega), (show 0 + 36 * l_ + 6 + 6 ≤ 1470 by omega)⟩ rfl rfl (Nat.le_of_ble_eq_true rfl) dL_held__24) (pc' := 27) rfl (fun r2 _ hw2 => ?_)
          obtain rfl : r2 = (nI 115) := hw2.trans g3
          refine yy_widen (cs2 := 0 + 6 * l_ + 2) (ss2 := 0 + 36 * l_ + 12) (show 0 + 6 * l_ + 1 + 1 ≤ 0 + 6 * l_ + 2 by omega) (show 0 + 36 * l_ + 6 + 6 ≤ 0 + 36 * l_ + 12 by omega) ?_
          refine yy_istore C (L' := [(6, .int (nI 115)), (5, .int (nI 0)), (4, .int (nI l_)), (3, .int (nI (fb_ct (hb S a) l_))), (0, .ref (ad 0)), (1, .int (nI a)), (2, .int (nI (S.1 1)))]) dL_held__27 (pc' := 29) rfl (by decide) rfl ?_
          refine yy_aload_n C 4 dL_held__29 (pc' := 30) rfl rfl rfl ?_
          refine yy_iload_n C 5 dL_held__30 (pc' := 31) rfl rfl rfl ?_
          refine yy_iload C 2 dL_held__31 (pc' := 33) rfl rfl ?_
          refine yc_i (yr_SW C (As := [.ref (ad 0), .int (nI a), .int (nI l_)]) (rest := []) lk_L_220 cd_L_root st_L_root (mL_root l hl0 G B0 ad F S (nI a) (nI l_) hR.1.1) ⟨by decide, by decide⟩ ⟨(show 0 + 6 * l_ + 2 + 1 ≤ 245 by omega), (show 0 + 36 * l_ + 12 + 6 ≤ 1470 by omega)⟩ rfl rfl (Nat.le_of_ble_eq_true rfl) dL_held__33) (pc' := 36) rfl (fun r3 _ hw3 => ?_)
          obtain rfl : r3 = (nI 115) := hw3.trans g4
          refine yy_widen (cs2 := 0 + 6 * l_ + 3) (ss2 := 0 + 36 * l_ + 18) (show 0 + 6 * l_ + 2 + 1 ≤ 0 + 6 * l_ + 3 by omega) (show 0 + 36 * l_ + 12 + 6 ≤ 0 + 36 * l_ + 18 by omega) ?_
          refine yy_istore C (L' := [(7, .int (nI 115)), (6, .int (nI 115)), (5, .int (nI 0)), (4, .int (nI l_)), (3, .int (nI (fb_ct (hb S a) l_))), (0, .ref (ad 0)), (1, .int (nI a)), (2, .int (nI (S.1 1)))]) dL_held__36 (pc' := 38) rfl (by decide) rfl ?_
          refine yy_aload_n C 5 dL_held__38 (pc' := 39) rfl rfl rfl ?_
          refine yy_iload_n C 6 dL_held__39 (pc' := 40) rfl rfl rfl ?_
          refine yy_iload C 3 dL_held__40 (pc' := 42) rfl rfl ?_
          refine yc_i (yr_SW C (As := [.ref (ad 0), .int (nI a), .int (nI l_)]) (rest := []) lk_L_222 cd_L_causes st_L_causes (mL_causes l hl0 G B0 ad F S (nI a) (nI l_) hR.1.1) ⟨by decide, by decide⟩ ⟨(show 0 + 6 * l_ + 3 + 1 ≤ 245 by omega), (show 0 + 36 * l_ + 18 + 6 ≤ 1470 by omega)⟩ rfl rfl (Nat.le_of_ble_eq_true rfl) dL_held__42) (pc' := 45) rfl (fun r4 _ hw4 => ?_)
          obtain rfl : r4 = (nI 1) := hw4.trans g5
          refine yy_widen (cs2 := 0 + 6 * l_ + 4) (ss2 := 0 + 36 * l_ + 24) (show 0 + 6 * l_ + 3 + 1 ≤ 0 + 6 * l_ + 4 by omega) (show 0 + 36 * l_ + 18 + 6 ≤ 0 + 36 * l_ + 24 by omega) ?_
          refine yy_istore C (L' := [(8, .int (nI 1)), (7, .int (nI 115)), (6, .int (nI 115)), (5, .int (nI 0)), (4, .int (nI l_)), (3, .int (nI (fb_ct (hb S a) l_))), (0, .ref (ad 0)), (1, .int (nI a)), (2, .int (nI (S.1 1)))]) dL_held__45 (pc' := 47) rfl (by decide) rfl ?_
          refine yy_iload_n C 5 dL_held__47 (pc' := 48) rfl rfl rfl ?_
          refine yy_iload C 3 dL_held__48 (pc' := 50) rfl rfl ?_
          refine yy_iadd C (v := (nI (fb_ct (hb S a) (l_ + 1)))) dL_held__50 (pc' := 51) rfl (by rw [ct_f g7]; exact nI_add _ 0) ?_
          refine yy_istore_n C (L' := [(3, .int (nI (fb_ct (hb S a) (l_ + 1)))), (8, .int (nI 1)), (7, .int (nI 115)), (6, .int (nI 115)), (5, .int (nI 0)), (4, .int (nI l_)), (0, .ref (ad 0)), (1, .int (nI a)), (2, .int (nI (S.1 1)))]) dL_held__51 (pc' := 52) rfl rfl (by decide) rfl ?_
          refine yy_iload C 4 dL_held__52 (pc' := 54) rfl rfl ?_
          refine yy_aload_n C 6 dL_held__54 (pc' := 55) rfl rfl rfl ?_
          refine yy_iload_n C 7 dL_held__55 (pc' := 56) rfl rfl rfl ?_
          refine yy_iload C 5 dL_held__56 (pc' := 58) rfl rfl ?_
          refine yc_i (yr_SW C (As := [.ref (ad 0), .int (nI a), .int (nI l_)]) (rest := [.int (nI 0)]) lk_L_224 cd_L_holdsByLog st_L_holdsByLog (mL_holdsByLog l hl0 G B0 ad F S (nI a) (nI l_) hR.1.1) ⟨by decide, by decide⟩ ⟨(show 0 + 6 * l_ + 4 + 1 ≤ 245 by omega), (show 0 + 36 * l_ + 24 + 6 ≤ 1470 by omega)⟩ rfl rfl (Nat.le_of_ble_eq_true rfl) dL_held__58) (pc' := 61) rfl (fun r5 _ hw5 => ?_)
          obtain rfl : r5 = (nI 0) := hw5.trans g2
          refine yy_widen (cs2 := 0 + 6 * l_ + 5) (ss2 := 0 + 36 * l_ + 30) (show 0 + 6 * l_ + 4 + 1 ≤ 0 + 6 * l_ + 5 by omega) (show 0 + 36 * l_ + 24 + 6 ≤ 0 + 36 * l_ + 30 by omega) ?_
          refine yy_icmp_ne C dL_held__61 (pc' := 64) rfl (tgt := 142) (by decide) (fun c_61 => ?_) (fun c_61 => ?_)
          · skip
            exact absurd c_61 (by decide)
          · skip
            refine yy_iload C 4 dL_held__64 (pc' := 66) rfl rfl ?_
            refine yy_iconst C (v := (nI 1)) dL_held__66 (pc' := 67) rfl (by decide) ?_
            refine yy_icmp_ne C dL_held__67 (pc' := 70) rfl (tgt := 74) (by decide) (fun c_67 => ?_) (fun c_67 => ?_)
            · skip
              refine yy_iconst C (v := (nI 0)) dL_held__74 (pc' := 75) rfl (by decide) ?_
              refine yy_iload C 3 dL_held__75 (pc' := 77) rfl rfl ?_
              refine yy_bipush C (v := (-3)) dL_held__77 (pc' := 79) rfl (by decide) ?_
              refine yy_icmp_ne C dL_held__79 (pc' := 82) rfl (tgt := 86) (by decide) (fun c_79 => ?_) (fun c_79 => ?_)
              · skip
                refine yy_iconst C (v := (nI 0)) dL_held__86 (pc' := 87) rfl (by decide) ?_
                refine yy_icmp_ne C dL_held__87 (pc' := 90) rfl (tgt := 142) (by decide) (fun c_87 => ?_) (fun c_87 => ?_)
                · skip
                  exact absurd c_87 (by decide)
                · skip
                  refine yy_iload C 4 dL_held__90 (pc' := 92) rfl rfl ?_
                  refine yy_iconst C (v := (nI 1)) dL_held__92 (pc' := 93) rfl (by decide) ?_
                  refine yy_icmp_ne C dL_held__93 (pc' := 96) rfl (tgt := 100) (by decide) (fun c_93 => ?_) (fun c_93 => ?_)
                  · skip
                    refine yy_iconst C (v := (nI 0)) dL_held__100 (pc' := 101) rfl (by decide) ?_
                    refine yy_iload C 2 dL_held__101 (pc' := 103) rfl rfl ?_
                    refine yy_bipush C (v := (-3)) dL_held__103 (pc' := 105) rfl (by decide) ?_
                    refine yy_icmp_ne C dL_held__105 (pc' := 108) rfl (tgt := 112) (by decide) (fun c_105 => ?_) (fun c_105 => ?_)
                    · skip
                      refine yy_iconst C (v := (nI 0)) dL_held__112 (pc' := 113) rfl (by decide) ?_
                      refine yy_icmp_ne C dL_held__113 (pc' := 116) rfl (tgt := 142) (by decide) (fun c_113 => ?_) (fun c_113 => ?_)
                      · skip
                        exact absurd c_113 (by decide)
                      · skip
                        refine yy_iload C 4 dL_held__116 (pc' := 118) rfl rfl ?_
                        refine yy_iconst C (v := (nI 1)) dL_held__118 (pc' := 119) rfl (by decide) ?_
                        refine yy_icmp_ne C dL_held__119 (pc' := 122) rfl (tgt := 126) (by decide) (fun c_119 => ?_) (fun c_119 => ?_)
                        · skip
                          refine yy_iconst C (v := (nI 0)) dL_held__126 (pc' := 127) rfl (by decide) ?_
                          refine yy_iload C 1 dL_held__127 (pc' := 129) rfl rfl ?_
                          refine yy_bipush C (v := (-3)) dL_held__129 (pc' := 131) rfl (by decide) ?_
                          refine yy_icmp_ne C dL_held__131 (pc' := 134) rfl (tgt := 138) (by decide) (fun c_131 => ?_) (fun c_131 => ?_)
                          · skip
                            refine yy_iconst C (v := (nI 0)) dL_held__138 (pc' := 139) rfl (by decide) ?_
                            refine yy_icmp_eq C dL_held__139 (pc' := 142) rfl (tgt := 144) (by decide) (fun c_139 => ?_) (fun c_139 => ?_)
                            · skip
                              refine yy_iload C 4 dL_held__144 (pc' := 146) rfl rfl ?_
                              refine yy_if_ne C dL_held__146 (pc' := 149) rfl (tgt := 329) (by decide) (fun c_146 => ?_) (fun c_146 => ?_)
                              · skip
                                exact absurd c_146 (by decide)
                              · skip
                                refine yy_aload_n C 6 dL_held__149 (pc' := 150) rfl rfl rfl ?_
                                refine yy_iload C 5 dL_held__150 (pc' := 152) rfl rfl ?_
                                refine yc_i (yr_SW C (As := [.ref (ad 0), .int (nI l_)]) (rest := []) lk_L_204 cd_L_isHidden st_L_isHidden (mL_isHidden l hl0 G B0 ad F S (nI l_) hR.1.1) ⟨by decide, by decide⟩ ⟨(show 0 + 6 * l_ + 5 + 1 ≤ 245 by omega), (show 0 + 36 * l_ + 30 + 6 ≤ 1470 by omega)⟩ rfl rfl (Nat.le_of_ble_eq_true rfl) dL_held__152) (pc' := 155) rfl (fun r6 _ hw6 => ?_)
                                obtain rfl : r6 = (nI 1) := hw6.trans g6
                                refine yy_widen (cs2 := 0 + 6 * l_ + 6) (ss2 := 0 + 36 * l_ + 36) (show 0 + 6 * l_ + 5 + 1 ≤ 0 + 6 * l_ + 6 by omega) (show 0 + 36 * l_ + 30 + 6 ≤ 0 + 36 * l_ + 36 by omega) ?_
                                refine yy_iconst C (v := (nI 1)) dL_held__155 (pc' := 156) rfl (by decide) ?_
                                refine yy_icmp_ne C dL_held__156 (pc' := 159) rfl (tgt := 163) (by decide) (fun c_156 => ?_) (fun c_156 => ?_)
                                · skip
                                  exact absurd c_156 (by decide)
                                · skip
                                  refine yy_iconst C (v := (nI 1)) dL_held__159 (pc' := 160) rfl (by decide) ?_
                                  refine yy_goto C (tgt := 164) dL_held__160 (by decide) ?_
                                  refine yy_istore C (L' := [(9, .int (nI 1)), (3, .int (nI (fb_ct (hb S a) (l_ + 1)))), (8, .int (nI 1)), (7, .int (nI 115)), (6, .int (nI 115)), (5, .int (nI 0)), (4, .int (nI l_)), (0, .ref (ad 0)), (1, .int (nI a)), (2, .int (nI (S.1 1)))]) dL_held__164 (pc' := 166) rfl (by decide) rfl ?_
                                  refine yy_iload C 4 dL_held__166 (pc' := 168) rfl rfl ?_
                                  refine yy_bipush C (v := (nI 45)) dL_held__168 (pc' := 170) rfl (by decide) ?_
                                  refine yy_icmp_ne C dL_held__170 (pc' := 173) rfl (tgt := 193) (by decide) (fun c_170 => ?_) (fun c_170 => ?_)
                                  · skip
                                    refine yy_iload C 4 dL_held__193 (pc' := 195) rfl rfl ?_
                                    refine yy_bipush C (v := (nI 106)) dL_held__195 (pc' := 197) rfl (by decide) ?_
                                    refine yy_icmp_ne C dL_held__197 (pc' := 200) rfl (tgt := 220) (by decide) (fun c_197 => ?_) (fun c_197 => ?_)
                                    · skip
                                      refine yy_iload C 4 dL_held__220 (pc' := 222) rfl rfl ?_
                                      refine yy_bipush C (v := (nI 114)) dL_held__222 (pc' := 224) rfl (by decide) ?_
                                      refine yy_icmp_ne C dL_held__224 (pc' := 227) rfl (tgt := 252) (by decide) (fun c_224 => ?_) (fun c_224 => ?_)
                                      · skip
                                        refine yy_iload C 4 dL_held__252 (pc' := 254) rfl rfl ?_
                                        refine yy_bipush C (v := (nI 115)) dL_held__254 (pc' := 256) rfl (by decide) ?_
                                        refine yy_icmp_ne C dL_held__256 (pc' := 259) rfl (tgt := 276) (by decide) (fun c_256 => ?_) (fun c_256 => ?_)
                                        · skip
                                          exact absurd c_256 (by decide)
                                        · skip
                                          refine yy_iload C 2 dL_held__259 (pc' := 261) rfl rfl ?_
                                          refine yy_iconst C (v := (nI 1)) dL_held__261 (pc' := 262) rfl (by decide) ?_
                                          refine yy_icmp_ne C dL_held__262 (pc' := 265) rfl (tgt := 276) (by decide) (fun c_262 => ?_) (fun c_262 => ?_)
                                          · skip
                                            exact absurd c_262 (by decide)
                                          · skip
                                            refine yy_iload C 3 dL_held__265 (pc' := 267) rfl rfl ?_
                                            refine yy_bipush C (v := (nI 115)) dL_held__267 (pc' := 269) rfl (by decide) ?_
                                            refine yy_icmp_ne C dL_held__269 (pc' := 272) rfl (tgt := 276) (by decide) (fun c_269 => ?_) (fun c_269 => ?_)
                                            · skip
                                              exact absurd c_269 (by decide)
                                            · skip
                                              refine yy_iconst C (v := (nI 1)) dL_held__272 (pc' := 273) rfl (by decide) ?_
                                              refine yy_goto C (tgt := 277) dL_held__273 (by decide) ?_
                                              refine yy_istore C (L' := [(10, .int (nI 1)), (9, .int (nI 1)), (3, .int (nI (fb_ct (hb S a) (l_ + 1)))), (8, .int (nI 1)), (7, .int (nI 115)), (6, .int (nI 115)), (5, .int (nI 0)), (4, .int (nI l_)), (0, .ref (ad 0)), (1, .int (nI a)), (2, .int (nI (S.1 1)))]) dL_held__277 (pc' := 279) rfl (by decide) rfl ?_
                                              refine yy_iload C 0 dL_held__279 (pc' := 281) rfl rfl ?_
                                              refine yy_if_eq C dL_held__281 (pc' := 284) rfl (tgt := 327) (by decide) (fun c_281 => ?_) (fun c_281 => ?_)
                                              · skip
                                                exact absurd c_281 (by decide)
                                              · skip
                                                refine yy_iload C 1 dL_held__284 (pc' := 286) rfl rfl ?_
                                                refine yy_iload C 5 dL_held__286 (pc' := 288) rfl rfl ?_
                                                refine yy_bipush C (v := (nI 114)) dL_held__288 (pc' := 290) rfl (by decide) ?_
                                                refine yy_icmp_eq C dL_held__290 (pc' := 293) rfl (tgt := 300) (by decide) (fun c_290 => ?_) (fun c_290 => ?_)
                                                · skip
                                                  exact absurd c_290 (by decide)
                                                · skip
                                                  refine yy_iload C 5 dL_held__293 (pc' := 295) rfl rfl ?_
                                                  refine yy_bipush C (v := (nI 115)) dL_held__295 (pc' := 297) rfl (by decide) ?_
                                                  refine yy_icmp_ne C dL_held__297 (pc' := 300) rfl (tgt := 304) (by decide) (fun c_297 => ?_) (fun c_297 => ?_)
                                                  · skip
                                                    exact absurd c_297 (by decide)
                                                  · skip
                                                    refine yy_iconst C (v := (nI 1)) dL_held__300 (pc' := 301) rfl (by decide) ?_
                                                    refine yy_goto C (tgt := 305) dL_held__301 (by decide) ?_
                                                    refine yy_icmp_ne C dL_held__305 (pc' := 308) rfl (tgt := 327) (by decide) (fun c_305 => ?_) (fun c_305 => ?_)
                                                    · skip
                                                      exact absurd c_305 (by decide)
                                                    · skip
                                                      refine yy_iload C 3 dL_held__308 (pc' := 310) rfl rfl ?_
                                                      refine yy_if_le C dL_held__310 (pc' := 313) rfl (tgt := 329) (by decide) (fun c_310 => ?_) (fun c_310 => ?_)
                                                      · skip
                                                        exact absurd c_310 (by decide)
                                                      · skip
                                                        refine yy_iload C 4 dL_held__313 (pc' := 315) rfl rfl ?_
                                                        refine yy_bipush C (v := (nI 114)) dL_held__315 (pc' := 317) rfl (by decide) ?_
                                                        refine yy_icmp_eq C dL_held__317 (pc' := 320) rfl (tgt := 329) (by decide) (fun c_317 => ?_) (fun c_317 => ?_)
                                                        · skip
                                                          exact absurd c_317 (by decide)
                                                        · skip
                                                          refine yy_iload C 4 dL_held__320 (pc' := 322) rfl rfl ?_
                                                          refine yy_bipush C (v := (nI 115)) dL_held__322 (pc' := 324) rfl (by decide) ?_
                                                          refine yy_icmp_eq C dL_held__324 (pc' := 327) rfl (tgt := 329) (by decide) (fun c_324 => ?_) (fun c_324 => ?_)
                                                          · skip
                                                            refine yy_iinc C (v := (nI (l_ + 1))) (L' := [(4, .int (nI (l_ + 1))), (10, .int (nI 1)), (9, .int (nI 1)), (3, .int (nI (fb_ct (hb S a) (l_ + 1)))), (8, .int (nI 1)), (7, .int (nI 115)), (6, .int (nI 115)), (5, .int (nI 0)), (0, .ref (ad 0)), (1, .int (nI a)), (2, .int (nI (S.1 1)))]) 7 dL_held__329 (pc' := 332) rfl rfl (nI_add l_ 1) (by decide) rfl ?_
                                                            refine yy_goto C (tgt := 5) dL_held__332 (by decide) ?_
                                                            refine yy_loc [0, 3, 8, 9, 10] rfl ?_
                                                            refine yy_widen (cs2 := 0 + 6 * (l_ + 1)) (ss2 := 0 + 36 * (l_ + 1)) (show 0 + 6 * l_ + 6 ≤ 0 + 6 * (l_ + 1) by omega) (show 0 + 36 * l_ + 36 ≤ 0 + 36 * (l_ + 1) by omega) ?_
                                                            exact ih5 (l_ + 1) (by omega) (by omega)
                                                          · skip
                                                            exact absurd c_324 (by decide)
                                      · skip
                                        exact absurd c_224 (by decide)
                                    · skip
                                      exact absurd c_197 (by decide)
                                  · skip
                                    exact absurd c_170 (by decide)
                            · skip
                              exact absurd c_139 (by decide)
                          · skip
                            exact absurd c_131 (by decide)
                        · skip
                          exact absurd c_119 (by decide)
                    · skip
                      exact absurd c_105 (by decide)
                  · skip
                    exact absurd c_93 (by decide)
              · skip
                exact absurd c_79 (by decide)
            · skip
              exact absurd c_67 (by decide)
  refine yy_loc (L' := [(4, .int (nI 0)), (3, .int (nI 0)), (0, .ref (ad 0)), (1, .int (nI a)), (2, .int (nI (S.1 1)))]) [0, 1, 2, 3, 4] rfl ?_
  refine yy_widen (cs2 := 0 + 6 * 0) (ss2 := 0 + 36 * 0) (Nat.le_refl _) (Nat.le_refl _) ?_
  exact lp_5 (S.1 1 + 1) 0 (Nat.zero_le _) (by omega)
