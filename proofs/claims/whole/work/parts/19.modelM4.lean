theorem fir_nar (M : SM) (x k : Nat) : narrow .char (.int (firM M x k)) = .int (firM M x k) := by
  unfold firM
  split
  · rfl
  · split
    · rfl
    · split <;> rfl
theorem nh_1 {nl : Nat} {h : Nat → Nat → Bool} {a x : Int32} (ha : inR a 5 = false) : cdNH nl h a x = 1 := by rw [cdNH, if_pos ha]
theorem nh_2 {nl : Nat} {h : Nat → Nat → Bool} {a x : Int32} (ha : inR a 5 = true) (hx : inR x nl = false) : cdNH nl h a x = 2 := by rw [cdNH, if_neg (by rw [ha]; decide), if_pos hx]
theorem nh_3 {nl : Nat} {h : Nat → Nat → Bool} {a x : Int32} (ha : inR a 5 = true) (hx : inR x nl = true) (hh : h (ix a) (ix x) = true) : cdNH nl h a x = 3 := by rw [cdNH, if_neg (by rw [ha]; decide), if_neg (by rw [hx]; decide), if_pos hh]
theorem nh_0 {nl : Nat} {h : Nat → Nat → Bool} {a x : Int32} (ha : inR a 5 = true) (hx : inR x nl = true) (hh : h (ix a) (ix x) = false) : cdNH nl h a x = 0 := by rw [cdNH, if_neg (by rw [ha]; decide), if_neg (by rw [hx]; decide), if_neg (by rw [hh]; decide)]
theorem nh_bt {q : Nat} (h : (!decide (q = 0)) = false) : q = 0 := by
  by_cases hq : q = 0
  · exact hq
  · rw [decide_eq_false hq] at h; cases h
theorem nh_bf {q : Nat} (h : (!decide (q = 0)) = true) : ¬ q = 0 := by
  intro hq
  rw [decide_eq_true hq] at h; cases h
theorem bI_nz {q n : Nat} (h : q = n) (hn : ¬ n = 0) : nI 1 = bI (!decide (q = 0)) := by
  rw [h, decide_eq_false hn]; rfl
theorem bI_e0 {q : Nat} (h : q = 0) : nI 0 = bI (!decide (q = 0)) := by
  rw [h]; rfl
def rtM (M : SM) (X : Nat → Nat) (a x : Int32) : Nat := if cdNH (M.1 2) (fun j k => (X j).testBit k) a x = 0 then (if firM M (X (ix a)) (ix x) = nI 45 then 4 else 0) else cdNH (M.1 2) (fun j k => (X j).testBit k) a x
def rootM (M : SM) (x k : Nat) : Int32 := if hSM M (ix (cauI M x k)) = true then nI 115 else nI 114
def causesM (M : SM) (x k : Nat) : Int32 := if firM M x k = nI 45 then nI 0 else nI (((if firM M x k = nI 106 then 1 else 0) + (if hRM M (ix (cauI M x k)) = true then 1 else 0)) + (if hSM M (ix (cauI M x k)) = true then 1 else 0))
theorem fstI_lt {p : Nat → Bool} {n : Nat} (hn : n ≤ 40) (h : 0 ≤ fstI p n) : ix (fstI p n) < n := by
  unfold fstI at h ⊢
  split
  · rename_i z hz
    have h1 := (fst_lt hz).1
    rw [ix_nI (by omega)]
    exact h1
  · rename_i hz
    rw [hz] at h
    exact absurd h (by decide)
theorem cau_ix {M : SM} {x k : Nat} (h2 : M.1 2 ≤ 40) (hk : k < M.1 2) (h : ¬ firM M x k = nI 45) : ix (cauI M x k) < M.1 2 := by
  unfold cauI
  by_cases hh : hidM M k = true
  · rw [if_pos hh, ix_nI (by omega)]; exact hk
  · rw [if_neg hh]
    have h3 : hRM M k = false ∧ hSM M k = false := by simpa [hidM] using hh
    unfold firM at h
    rw [if_neg (by rw [h3.1]; decide), if_neg (by rw [h3.2]; decide)] at h
    by_cases hb : 0 ≤ betI M x k
    · exact fstI_lt h2 hb
    · rw [if_neg hb] at h
      exact absurd rfl h
abbrev rX7_first : Room := { frames := 4, cells := 0, slots := 0, locals := 90 }
set_option maxHeartbeats 4000000 in
set_option maxRecDepth 100000 in
theorem mX7_first (l : Launch) (G : gG) (B0 : Nat) (bd : Nat → Nat) (F : va_W) (M : SM) (a k x : Nat) (ha : a < 5) (hk : k < M.1 2) (hrow : rowB (M.2 18) (40 * a) 40 x) (hM : IM M) : Met l yX7_first (Cond.code yX7_first cX7_first 3 (some .char) :: WG) rX7_first (va_Pc [.ref (bd 0), .int (nI a), .int (nI k)] (PR G B0 (wM G bd M ++ F))) (va_Qi (fun (r : Int32) (u : Nat → Int32) => r = firM M x k) (fun (u : Nat → Int32) (t_ : State) => va_P G.1 vwCl (wM G bd (mI M 19 u) ++ F) t_.heap ∧ va_D (fun q => B0 ≤ q) (wM G bd (mI M 19 u) ++ F)) (fun q => B0 ≤ q)) rX7_first.cells rX7_first.slots (fun q => B0 ≤ q) := by
  refine met_of RX7 [(0, .ref (bd 0)), (1, .int (nI a)), (2, .int (nI k))] rfl (by decide) (Nat.le_of_ble_eq_true rfl) rfl ?_
  intro p e s m args below meth c C hr hnm
  refine yq ?_
  intro QQ hQ
  obtain ⟨j1, j2, j3, j4, j5, j6, j7, j8, jJ, jQ⟩ := id hM
  refine yy_aload_n C 0 dX7_first_0 (pc' := 1) rfl rfl rfl ?_
  refine yy_iload_n C 2 dX7_first_1 (pc' := 2) rfl rfl rfl ?_
  refine yc_i (yr_V C (As := [.int (nI k)]) (rest := []) lk_X7_115 cd_X7_byRule im_X7_byRule se_X7_byRule (mX7_byRule l G B0 bd F (M) k (by omega) (by exact hM)) ⟨by decide, by decide⟩ ⟨by decide, by decide⟩ 0 rfl rfl rfl rfl (Nat.le_of_ble_eq_true rfl) dX7_first_2) (pc' := 5) rfl (fun r1 _ hw1 => ?_)
  subst hw1
  refine yb_if_eq C dX7_first_5 (pc' := 8) rfl (tgt := 11) (by decide) (fun c_5 => ?_) (fun c_5 => ?_)
  · skip
    refine yy_aload_n C 0 dX7_first_11 (pc' := 12) rfl rfl rfl ?_
    refine yy_iload_n C 2 dX7_first_12 (pc' := 13) rfl rfl rfl ?_
    refine yc_i (yr_V C (As := [.int (nI k)]) (rest := []) lk_X7_118 cd_X7_bySpan im_X7_bySpan se_X7_bySpan (mX7_bySpan l G B0 bd F (M) k (by omega) (by exact hM)) ⟨by decide, by decide⟩ ⟨by decide, by decide⟩ 0 rfl rfl rfl rfl (Nat.le_of_ble_eq_true rfl) dX7_first_13) (pc' := 16) rfl (fun r2 _ hw2 => ?_)
    subst hw2
    refine yb_if_eq C dX7_first_16 (pc' := 19) rfl (tgt := 22) (by decide) (fun c_16 => ?_) (fun c_16 => ?_)
    · skip
      refine yy_aload_n C 0 dX7_first_22 (pc' := 23) rfl rfl rfl ?_
      refine yy_iload_n C 1 dX7_first_23 (pc' := 24) rfl rfl rfl ?_
      refine yy_iload_n C 2 dX7_first_24 (pc' := 25) rfl rfl rfl ?_
      refine yc_i (yr_V C (As := [.int (nI a), .int (nI k)]) (rest := []) lk_X7_141 cd_X7_betrayed im_X7_betrayed se_X7_betrayed (mX7_betrayed l G B0 bd F (M) a k x (by omega) (by omega) hrow (by exact hM)) ⟨by decide, by decide⟩ ⟨by decide, by decide⟩ 0 rfl rfl rfl rfl (Nat.le_of_ble_eq_true rfl) dX7_first_25) (pc' := 28) rfl (fun r3 u1 hw3 => ?_)
      subst hw3
      refine yy_if_ge C dX7_first_28 (pc' := 31) rfl (tgt := 36) (by decide) (fun c_28 => ?_) (fun c_28 => ?_)
      · skip
        refine yy_bipush C (v := (nI 106)) dX7_first_36 (pc' := 38) rfl (by decide) ?_
        subst hQ
        exact ye_i C hr rfl u1 dX7_first_38 rfl (by decide) (by decide) (by rw [firM, if_neg (by rw [c_5]; decide), if_neg (by rw [c_16]; decide), if_pos c_28])
      · skip
        refine yy_bipush C (v := (nI 45)) dX7_first_31 (pc' := 33) rfl (by decide) ?_
        refine yy_goto C (tgt := 38) dX7_first_33 (by decide) ?_
        subst hQ
        exact ye_i C hr rfl u1 dX7_first_38 rfl (by decide) (by decide) (by rw [firM, if_neg (by rw [c_5]; decide), if_neg (by rw [c_16]; decide), if_neg c_28])
    · skip
      refine yy_bipush C (v := (nI 115)) dX7_first_19 (pc' := 21) rfl (by decide) ?_
      subst hQ
      exact ye_i C hr rfl (M.2 19) dX7_first_21 rfl (by decide) (by decide) (by rw [firM, if_neg (by rw [c_5]; decide), if_pos c_16])
  · skip
    refine yy_bipush C (v := (nI 114)) dX7_first_8 (pc' := 10) rfl (by decide) ?_
    subst hQ
    exact ye_i C hr rfl (M.2 19) dX7_first_10 rfl (by decide) (by decide) (by rw [firM, if_pos c_5])

abbrev rX7_cause : Room := { frames := 4, cells := 0, slots := 0, locals := 90 }
set_option maxHeartbeats 4000000 in
set_option maxRecDepth 100000 in
theorem mX7_cause (l : Launch) (G : gG) (B0 : Nat) (bd : Nat → Nat) (F : va_W) (M : SM) (a k x : Nat) (ha : a < 5) (hk : k < M.1 2) (hrow : rowB (M.2 18) (40 * a) 40 x) (hM : IM M) : Met l yX7_cause (Cond.code yX7_cause cX7_cause 3 (some .int) :: WG) rX7_cause (va_Pc [.ref (bd 0), .int (nI a), .int (nI k)] (PR G B0 (wM G bd M ++ F))) (va_Qi (fun (r : Int32) (u : Nat → Int32) => r = cauI M x k) (fun (u : Nat → Int32) (t_ : State) => va_P G.1 vwCl (wM G bd (mI M 19 u) ++ F) t_.heap ∧ va_D (fun q => B0 ≤ q) (wM G bd (mI M 19 u) ++ F)) (fun q => B0 ≤ q)) rX7_cause.cells rX7_cause.slots (fun q => B0 ≤ q) := by
  refine met_of RX7 [(0, .ref (bd 0)), (1, .int (nI a)), (2, .int (nI k))] rfl (by decide) (Nat.le_of_ble_eq_true rfl) rfl ?_
  intro p e s m args below meth c C hr hnm
  refine yq ?_
  intro QQ hQ
  obtain ⟨j1, j2, j3, j4, j5, j6, j7, j8, jJ, jQ⟩ := id hM
  refine yy_aload_n C 0 dX7_cause_0 (pc' := 1) rfl rfl rfl ?_
  refine yy_iload_n C 2 dX7_cause_1 (pc' := 2) rfl rfl rfl ?_
  refine yc_i (yr_V C (As := [.int (nI k)]) (rest := []) lk_X7_121 cd_X7_hides im_X7_hides se_X7_hides (mX7_hides l G B0 bd F (M) k (by omega) (by exact hM)) ⟨by decide, by decide⟩ ⟨by decide, by decide⟩ 0 rfl rfl rfl rfl (Nat.le_of_ble_eq_true rfl) dX7_cause_2) (pc' := 5) rfl (fun r1 _ hw1 => ?_)
  subst hw1
  refine yb_if_eq C dX7_cause_5 (pc' := 8) rfl (tgt := 12) (by decide) (fun c_5 => ?_) (fun c_5 => ?_)
  · skip
    refine yy_aload_n C 0 dX7_cause_12 (pc' := 13) rfl rfl rfl ?_
    refine yy_iload_n C 1 dX7_cause_13 (pc' := 14) rfl rfl rfl ?_
    refine yy_iload_n C 2 dX7_cause_14 (pc' := 15) rfl rfl rfl ?_
    refine yc_i (yr_V C (As := [.int (nI a), .int (nI k)]) (rest := []) lk_X7_141 cd_X7_betrayed im_X7_betrayed se_X7_betrayed (mX7_betrayed l G B0 bd F (M) a k x (by omega) (by omega) hrow (by exact hM)) ⟨by decide, by decide⟩ ⟨by decide, by decide⟩ 0 rfl rfl rfl rfl (Nat.le_of_ble_eq_true rfl) dX7_cause_15) (pc' := 18) rfl (fun r2 u1 hw2 => ?_)
    subst hw2
    subst hQ
    exact ye_i C hr (vp_nar_int _) u1 dX7_cause_18 rfl (by decide) (by decide) (by rw [cauI, if_neg (by rw [c_5]; decide)])
  · skip
    refine yy_iload_n C 2 dX7_cause_8 (pc' := 9) rfl rfl rfl ?_
    refine yy_goto C (tgt := 18) dX7_cause_9 (by decide) ?_
    subst hQ
    exact ye_i C hr (vp_nar_int _) (M.2 19) dX7_cause_18 rfl (by decide) (by decide) (by rw [cauI, if_pos c_5])

abbrev rX7_noReasons : Room := { frames := 2, cells := 0, slots := 0, locals := 43 }
set_option maxHeartbeats 4000000 in
set_option maxRecDepth 100000 in
theorem mX7_noReasons (l : Launch) (G : gG) (B0 : Nat) (bd : Nat → Nat) (F : va_W) (M : SM) (a x : Int32) (X : Nat → Nat) (hX : ∀ i, i < 5 → rowB (M.2 18) (40 * i) 40 (X i)) (hM : IM M) : Met l yX7_noReasons (Cond.code yX7_noReasons cX7_noReasons 3 (some .boolean) :: WG) rX7_noReasons (va_Pc [.ref (bd 0), .int a, .int x] (PR G B0 (wM G bd M ++ F))) (va_Qi (fun (r : Int32) (_ : Unit) => r = bI (!decide (cdNH (M.1 2) (fun j k => (X j).testBit k) a x = 0))) (fun (_ : Unit) (t_ : State) => va_P G.1 vwCl (wM G bd (mN M 0 (cdNH (M.1 2) (fun j k => (X j).testBit k) a x)) ++ F) t_.heap ∧ va_D (fun q => B0 ≤ q) (wM G bd (mN M 0 (cdNH (M.1 2) (fun j k => (X j).testBit k) a x)) ++ F)) (fun q => B0 ≤ q)) rX7_noReasons.cells rX7_noReasons.slots (fun q => B0 ≤ q) := by
  refine met_of RX7 [(0, .ref (bd 0)), (1, .int a), (2, .int x)] rfl (by decide) (Nat.le_of_ble_eq_true rfl) rfl ?_
  intro p e s m args below meth c C hr hnm
  refine yq ?_
  intro QQ hQ
  obtain ⟨j1, j2, j3, j4, j5, j6, j7, j8, jJ, jQ⟩ := id hM
  refine yy_aload_n C 0 dX7_noReasons_0 (pc' := 1) rfl rfl rfl ?_
  refine yy_iload_n C 1 dX7_noReasons_1 (pc' := 2) rfl rfl rfl ?_
  refine yc_i (yr_V C (As := [.int a]) (rest := []) lk_X7_135 cd_X7_noAsker im_X7_noAsker se_X7_noAsker (mX7_noAsker l G B0 bd F (M) a (by exact hM)) ⟨by decide, by decide⟩ ⟨by decide, by decide⟩ 0 rfl rfl rfl rfl (Nat.le_of_ble_eq_true rfl) dX7_noReasons_2) (pc' := 5) rfl (fun r1 _ hw1 => ?_)
  subst hw1
  refine yb_if_eq C dX7_noReasons_5 (pc' := 8) rfl (tgt := 10) (by decide) (fun c_5 => ?_) (fun c_5 => ?_)
  · skip
    have zn1 : inR a (5) = true := by simpa [mN, va_up] using c_5
    obtain ⟨ja, hja, rfl⟩ := inR_of (by omega) zn1
    have eja : ix (nI ja) = ja := ix_lt hja (by omega)
    refine yy_aload_n C 0 dX7_noReasons_10 (pc' := 11) rfl rfl rfl ?_
    refine yy_iload_n C 2 dX7_noReasons_11 (pc' := 12) rfl rfl rfl ?_
    refine yy_iconst C (v := (nI 0)) dX7_noReasons_12 (pc' := 13) rfl (by decide) ?_
    refine yy_aload_n C 0 dX7_noReasons_13 (pc' := 14) rfl rfl rfl ?_
    refine yy_get C (v := .int (nI (M.1 2))) fk_X7_89 0 dX7_noReasons_14 (pc' := 17) rfl rfl rfl ?_
    refine yy_iconst C (v := (nI 1)) dX7_noReasons_17 (pc' := 18) rfl (by decide) ?_
    refine yy_isub C (v := ((nI (M.1 2)) - (nI 1))) dX7_noReasons_18 (pc' := 19) rfl rfl ?_
    refine yc_i (yr_S C (As := [.int x, .int (nI 0), .int ((nI (M.1 2)) - (nI 1))]) (rest := [.ref (bd 0)]) lk_X7_85 cd_X7_isIn st_X7_isIn (mX7_isIn l G B0 (wM G bd (mN M 0 (cd1 5 (nI ja))) ++ F) x (nI 0) ((nI (M.1 2)) - (nI 1))) ⟨by decide, by decide⟩ ⟨by decide, by decide⟩ rfl rfl (Nat.le_of_ble_eq_true rfl) dX7_noReasons_19) (pc' := 22) rfl (fun r2 _ hw2 => ?_)
    subst hw2
    refine yb_if_ne C dX7_noReasons_22 (pc' := 25) rfl (tgt := 29) (by decide) (fun c_22 => ?_) (fun c_22 => ?_)
    · skip
      have zn2 : inR x (M.1 2) = true := by rw [← inB_R (by omega)]; exact c_22
      obtain ⟨jx, hjx, rfl⟩ := inR_of (by omega) zn2
      have ejx : ix (nI jx) = jx := ix_lt hjx (by omega)
      refine yy_aload_n C 0 dX7_noReasons_29 (pc' := 30) rfl rfl rfl ?_
      refine yy_get C (v := .ref (bd 19)) fk_X7_69 0 dX7_noReasons_30 (pc' := 33) rfl rfl rfl ?_
      refine yy_bipush C (v := (nI 40)) dX7_noReasons_33 (pc' := 35) rfl (by decide) ?_
      refine yy_iload_n C 1 dX7_noReasons_35 (pc' := 36) rfl rfl rfl ?_
      refine yy_imul C (v := (nI (40 * ja))) dX7_noReasons_36 (pc' := 37) rfl (pk_mul 40 ja) ?_
      refine yy_iload_n C 2 dX7_noReasons_37 (pc' := 38) rfl rfl rfl ?_
      refine yy_iadd C (v := (nI ((40 * ja) + jx))) dX7_noReasons_38 (pc' := 39) rfl (nI_add (40 * ja) jx) ?_
      refine yy_zald C 19 dX7_noReasons_39 (pc' := 40) rfl rfl (by omega) (by decide) ?_
      refine yy_eqi (hX ja hja jx (by omega)) ?_
      refine yb_if_eq C dX7_noReasons_40 (pc' := 43) rfl (tgt := 47) (by decide) (fun c_40 => ?_) (fun c_40 => ?_)
      · skip
        refine yy_iconst C (v := (nI 0)) dX7_noReasons_47 (pc' := 48) rfl (by decide) ?_
        refine yy_put C (w' := wM G bd (mN M 0 0) ++ F) fk_X7_79 fpW7 rfl 0 dX7_noReasons_48 (pc' := 51) rfl rfl rfl rfl (Nat.le_of_ble_eq_true rfl) rfl ?_
        refine yy_aload_n C 0 dX7_noReasons_51 (pc' := 52) rfl rfl rfl ?_
        refine yy_get C (v := .int (nI 0)) fk_X7_79 0 dX7_noReasons_52 (pc' := 55) rfl rfl rfl ?_
        refine yy_if_eq C dX7_noReasons_55 (pc' := 58) rfl (tgt := 62) (by decide) (fun c_55 => ?_) (fun c_55 => ?_)
        · skip
          refine yy_iconst C (v := (nI 0)) dX7_noReasons_62 (pc' := 63) rfl (by decide) ?_
          subst hQ
          exact ye_i C hr rfl () dX7_noReasons_63 (by rw [nh_0 zn1 zn2 (by rw [eja, ejx]; exact c_40)]) (by decide) (by decide) (bI_e0 (nh_0 zn1 zn2 (by rw [eja, ejx]; exact c_40)))
        · skip
          exact absurd c_55 (by decide)
      · skip
        refine yy_iconst C (v := (nI 3)) dX7_noReasons_43 (pc' := 44) rfl (by decide) ?_
        refine yy_goto C (tgt := 48) dX7_noReasons_44 (by decide) ?_
        refine yy_put C (w' := wM G bd (mN M 0 3) ++ F) fk_X7_79 fpW7 rfl 0 dX7_noReasons_48 (pc' := 51) rfl rfl rfl rfl (Nat.le_of_ble_eq_true rfl) rfl ?_
        refine yy_aload_n C 0 dX7_noReasons_51 (pc' := 52) rfl rfl rfl ?_
        refine yy_get C (v := .int (nI 3)) fk_X7_79 0 dX7_noReasons_52 (pc' := 55) rfl rfl rfl ?_
        refine yy_if_eq C dX7_noReasons_55 (pc' := 58) rfl (tgt := 62) (by decide) (fun c_55 => ?_) (fun c_55 => ?_)
        · skip
          exact absurd c_55 (by decide)
        · skip
          refine yy_iconst C (v := (nI 1)) dX7_noReasons_58 (pc' := 59) rfl (by decide) ?_
          refine yy_goto C (tgt := 63) dX7_noReasons_59 (by decide) ?_
          subst hQ
          exact ye_i C hr rfl () dX7_noReasons_63 (by rw [nh_3 zn1 zn2 (by rw [eja, ejx]; exact c_40)]) (by decide) (by decide) (bI_nz (nh_3 zn1 zn2 (by rw [eja, ejx]; exact c_40)) (by decide))
    · skip
      have zn2 : inR x (M.1 2) = false := by rw [← inB_R (by omega)]; exact c_22
      refine yy_iconst C (v := (nI 2)) dX7_noReasons_25 (pc' := 26) rfl (by decide) ?_
      refine yy_goto C (tgt := 48) dX7_noReasons_26 (by decide) ?_
      refine yy_put C (w' := wM G bd (mN M 0 2) ++ F) fk_X7_79 fpW7 rfl 0 dX7_noReasons_48 (pc' := 51) rfl rfl rfl rfl (Nat.le_of_ble_eq_true rfl) rfl ?_
      refine yy_aload_n C 0 dX7_noReasons_51 (pc' := 52) rfl rfl rfl ?_
      refine yy_get C (v := .int (nI 2)) fk_X7_79 0 dX7_noReasons_52 (pc' := 55) rfl rfl rfl ?_
      refine yy_if_eq C dX7_noReasons_55 (pc' := 58) rfl (tgt := 62) (by decide) (fun c_55 => ?_) (fun c_55 => ?_)
      · skip
        exact absurd c_55 (by decide)
      · skip
        refine yy_iconst C (v := (nI 1)) dX7_noReasons_58 (pc' := 59) rfl (by decide) ?_
        refine yy_goto C (tgt := 63) dX7_noReasons_59 (by decide) ?_
        subst hQ
        exact ye_i C hr rfl () dX7_noReasons_63 (by rw [nh_2 zn1 zn2]) (by decide) (by decide) (bI_nz (nh_2 zn1 zn2) (by decide))
  · skip
    have zn1 : inR a (5) = false := by simpa [mN, va_up] using c_5
    refine yy_iconst C (v := (nI 1)) dX7_noReasons_8 (pc' := 9) rfl (by decide) ?_
    subst hQ
    exact ye_i C hr rfl () dX7_noReasons_9 (by rw [nh_1 zn1, show cd1 5 a = 1 by simp [cd1, zn1]]) (by decide) (by decide) (bI_nz (nh_1 zn1) (by decide))

abbrev rX7_why : Room := { frames := 5, cells := 0, slots := 0, locals := 112 }
set_option maxHeartbeats 4000000 in
set_option maxRecDepth 100000 in
theorem mX7_why (l : Launch) (G : gG) (B0 : Nat) (bd : Nat → Nat) (F : va_W) (M : SM) (a x : Int32) (X : Nat → Nat) (hX : ∀ i, i < 5 → rowB (M.2 18) (40 * i) 40 (X i)) (hM : IM M) : Met l yX7_why (Cond.code yX7_why cX7_why 3 (some .char) :: WG) rX7_why (va_Pc [.ref (bd 0), .int a, .int x] (PR G B0 (wM G bd M ++ F))) (va_Qi (fun (r : Int32) (u : Nat → Int32) => cdNH (M.1 2) (fun j k => (X j).testBit k) a x = 0 → ∃ j k, (a = nI j ∧ j < 5 ∧ x = nI k ∧ k < M.1 2) ∧ r = firM M (X j) k) (fun (u : Nat → Int32) (t_ : State) => va_P G.1 vwCl (wM G bd (mN (mI M 19 u) 0 (cdNH (M.1 2) (fun j k => (X j).testBit k) a x)) ++ F) t_.heap ∧ va_D (fun q => B0 ≤ q) (wM G bd (mN (mI M 19 u) 0 (cdNH (M.1 2) (fun j k => (X j).testBit k) a x)) ++ F)) (fun q => B0 ≤ q)) rX7_why.cells rX7_why.slots (fun q => B0 ≤ q) := by
  refine met_of RX7 [(0, .ref (bd 0)), (1, .int a), (2, .int x)] rfl (by decide) (Nat.le_of_ble_eq_true rfl) rfl ?_
  intro p e s m args below meth c C hr hnm
  refine yq ?_
  intro QQ hQ
  obtain ⟨j1, j2, j3, j4, j5, j6, j7, j8, jJ, jQ⟩ := id hM
  refine yy_aload_n C 0 dX7_why_0 (pc' := 1) rfl rfl rfl ?_
  refine yy_iload_n C 1 dX7_why_1 (pc' := 2) rfl rfl rfl ?_
  refine yy_iload_n C 2 dX7_why_2 (pc' := 3) rfl rfl rfl ?_
  refine yc_i (yr_V C (As := [.int a, .int x]) (rest := []) lk_X7_145 cd_X7_noReasons im_X7_noReasons se_X7_noReasons (mX7_noReasons l G B0 bd F (M) a x X hX (by exact hM)) ⟨by decide, by decide⟩ ⟨by decide, by decide⟩ 0 rfl rfl rfl rfl (Nat.le_of_ble_eq_true rfl) dX7_why_3) (pc' := 6) rfl (fun r1 _ hw1 => ?_)
  subst hw1
  refine yb_if_eq C dX7_why_6 (pc' := 9) rfl (tgt := 14) (by decide) (fun c_6 => ?_) (fun c_6 => ?_)
  · skip
    have znh := nh_bt c_6
    obtain ⟨ja, jx, hja, hjx, rfl, rfl, hnh⟩ := cdNH_nn (by omega) znh
    have eja : ix (nI ja) = ja := ix_lt hja (by omega)
    have ejx : ix (nI jx) = jx := ix_lt hjx (by omega)
    refine yy_aload_n C 0 dX7_why_14 (pc' := 15) rfl rfl rfl ?_
    refine yy_iload_n C 1 dX7_why_15 (pc' := 16) rfl rfl rfl ?_
    refine yy_iload_n C 2 dX7_why_16 (pc' := 17) rfl rfl rfl ?_
    refine yc_i (yr_V C (As := [.int (nI ja), .int (nI jx)]) (rest := []) lk_X7_148 cd_X7_first im_X7_first se_X7_first (mX7_first l G B0 bd F (mN M 0 (cdNH (M.1 2) (fun j k => (X j).testBit k) (nI ja) (nI jx))) ja jx (X ja) hja hjx (hX ja hja) (by exact hM)) ⟨by decide, by decide⟩ ⟨by decide, by decide⟩ 0 rfl rfl rfl rfl (Nat.le_of_ble_eq_true rfl) dX7_why_17) (pc' := 20) rfl (fun r2 u1 hw2 => ?_)
    subst hw2
    subst hQ
    exact ye_i C hr (fir_nar _ _ _) u1 dX7_why_20 rfl (by decide) (by decide) (fun _ => ⟨ja, jx, ⟨rfl, hja, rfl, hjx⟩, rfl⟩)
  · skip
    refine yy_bipush C (v := (nI 45)) dX7_why_9 (pc' := 11) rfl (by decide) ?_
    refine yy_goto C (tgt := 20) dX7_why_11 (by decide) ?_
    subst hQ
    exact ye_i C hr rfl (M.2 19) dX7_why_20 rfl (by decide) (by decide) (fun h_ => absurd h_ (nh_bf c_6))

abbrev rX7_root : Room := { frames := 5, cells := 0, slots := 0, locals := 112 }
set_option maxHeartbeats 4000000 in
set_option maxRecDepth 100000 in
theorem mX7_root (l : Launch) (G : gG) (B0 : Nat) (bd : Nat → Nat) (F : va_W) (M : SM) (a x : Int32) (X : Nat → Nat) (hX : ∀ i, i < 5 → rowB (M.2 18) (40 * i) 40 (X i)) (hM : IM M) : Met l yX7_root (Cond.code yX7_root cX7_root 3 (some .char) :: WG) rX7_root (va_Pc [.ref (bd 0), .int a, .int x] (PR G B0 (wM G bd M ++ F))) (va_Qi (fun (r : Int32) (u : Nat → Int32) => rtM M X a x = 0 → ∃ j k, (a = nI j ∧ j < 5 ∧ x = nI k ∧ k < M.1 2) ∧ r = rootM M (X j) k) (fun (u : Nat → Int32) (t_ : State) => va_P G.1 vwCl (wM G bd (mN (mI M 19 u) 0 (rtM M X a x)) ++ F) t_.heap ∧ va_D (fun q => B0 ≤ q) (wM G bd (mN (mI M 19 u) 0 (rtM M X a x)) ++ F)) (fun q => B0 ≤ q)) rX7_root.cells rX7_root.slots (fun q => B0 ≤ q) := by
  refine met_of RX7 [(0, .ref (bd 0)), (1, .int a), (2, .int x)] rfl (by decide) (Nat.le_of_ble_eq_true rfl) rfl ?_
  intro p e s m args below meth c C hr hnm
  refine yq ?_
  intro QQ hQ
  obtain ⟨j1, j2, j3, j4, j5, j6, j7, j8, jJ, jQ⟩ := id hM
  refine yy_aload_n C 0 dX7_root_0 (pc' := 1) rfl rfl rfl ?_
  refine yy_iload_n C 1 dX7_root_1 (pc' := 2) rfl rfl rfl ?_
  refine yy_iload_n C 2 dX7_root_2 (pc' := 3) rfl rfl rfl ?_
  refine yc_i (yr_V C (As := [.int a, .int x]) (rest := []) lk_X7_145 cd_X7_noReasons im_X7_noReasons se_X7_noReasons (mX7_noReasons l G B0 bd F (M) a x X hX (by exact hM)) ⟨by decide, by decide⟩ ⟨by decide, by decide⟩ 0 rfl rfl rfl rfl (Nat.le_of_ble_eq_true rfl) dX7_root_3) (pc' := 6) rfl (fun r1 _ hw1 => ?_)
  subst hw1
  refine yb_if_eq C dX7_root_6 (pc' := 9) rfl (tgt := 12) (by decide) (fun c_6 => ?_) (fun c_6 => ?_)
  · skip
    have znh := nh_bt c_6
    obtain ⟨ja, jx, hja, hjx, rfl, rfl, hnh⟩ := cdNH_nn (by omega) znh
    have eja : ix (nI ja) = ja := ix_lt hja (by omega)
    have ejx : ix (nI jx) = jx := ix_lt hjx (by omega)
    refine yy_aload_n C 0 dX7_root_12 (pc' := 13) rfl rfl rfl ?_
    refine yy_iload_n C 1 dX7_root_13 (pc' := 14) rfl rfl rfl ?_
    refine yy_iload_n C 2 dX7_root_14 (pc' := 15) rfl rfl rfl ?_
    refine yc_i (yr_V C (As := [.int (nI ja), .int (nI jx)]) (rest := []) lk_X7_148 cd_X7_first im_X7_first se_X7_first (mX7_first l G B0 bd F (mN M 0 (cdNH (M.1 2) (fun j k => (X j).testBit k) (nI ja) (nI jx))) ja jx (X ja) hja hjx (hX ja hja) (by exact hM)) ⟨by decide, by decide⟩ ⟨by decide, by decide⟩ 0 rfl rfl rfl rfl (Nat.le_of_ble_eq_true rfl) dX7_root_15) (pc' := 18) rfl (fun r2 u1 hw2 => ?_)
    subst hw2
    refine yy_bipush C (v := (nI 45)) dX7_root_18 (pc' := 20) rfl (by decide) ?_
    refine yy_icmp_ne C dX7_root_20 (pc' := 23) rfl (tgt := 31) (by decide) (fun c_20 => ?_) (fun c_20 => ?_)
    · skip
      have hcx : ix (cauI M (X ja) jx) < 40 := Nat.lt_of_lt_of_le (cau_ix j2 hjx c_20) j2
      refine yy_aload_n C 0 dX7_root_31 (pc' := 32) rfl rfl rfl ?_
      refine yy_aload_n C 0 dX7_root_32 (pc' := 33) rfl rfl rfl ?_
      refine yy_iload_n C 1 dX7_root_33 (pc' := 34) rfl rfl rfl ?_
      refine yy_iload_n C 2 dX7_root_34 (pc' := 35) rfl rfl rfl ?_
      refine yc_i (yr_V C (As := [.int (nI ja), .int (nI jx)]) (rest := [.ref (bd 0)]) lk_X7_152 cd_X7_cause im_X7_cause se_X7_cause (mX7_cause l G B0 bd F (mN (mI M 19 u1) 0 (cdNH (M.1 2) (fun j k => (X j).testBit k) (nI ja) (nI jx))) ja jx (X ja) hja hjx (hX ja hja) (by exact hM)) ⟨by decide, by decide⟩ ⟨by decide, by decide⟩ 0 rfl rfl rfl rfl (Nat.le_of_ble_eq_true rfl) dX7_root_35) (pc' := 38) rfl (fun r3 u2 hw3 => ?_)
      subst hw3
      refine yy_ix ?_
      refine yc_i (yr_V C (As := [.int (nI (ix (cauI (mN (mI M 19 u1) 0 (cdNH (M.1 2) (fun j k => (X j).testBit k) (nI ja) (nI jx))) (X ja) jx)))]) (rest := []) lk_X7_118 cd_X7_bySpan im_X7_bySpan se_X7_bySpan (mX7_bySpan l G B0 bd F (mN (mI M 19 u2) 0 (cdNH (M.1 2) (fun j k => (X j).testBit k) (nI ja) (nI jx))) (ix (cauI (mN (mI M 19 u1) 0 (cdNH (M.1 2) (fun j k => (X j).testBit k) (nI ja) (nI jx))) (X ja) jx)) (by exact hcx) (by exact hM)) ⟨by decide, by decide⟩ ⟨by decide, by decide⟩ 0 rfl rfl rfl rfl (Nat.le_of_ble_eq_true rfl) dX7_root_38) (pc' := 41) rfl (fun r4 _ hw4 => ?_)
      subst hw4
      refine yb_if_eq C dX7_root_41 (pc' := 44) rfl (tgt := 49) (by decide) (fun c_41 => ?_) (fun c_41 => ?_)
      · skip
        refine yy_bipush C (v := (nI 114)) dX7_root_49 (pc' := 51) rfl (by decide) ?_
        subst hQ
        exact ye_i C hr rfl u2 dX7_root_51 (by rw [rtM, if_pos znh, if_neg (by rw [eja, ejx]; exact c_20), znh]) (by decide) (by decide) (fun _ => ⟨ja, jx, ⟨rfl, hja, rfl, hjx⟩, by rw [rootM, if_neg (by rw [show hSM M (ix (cauI M (X ja) jx)) = false from c_41]; decide)]⟩)
      · skip
        refine yy_bipush C (v := (nI 115)) dX7_root_44 (pc' := 46) rfl (by decide) ?_
        refine yy_goto C (tgt := 51) dX7_root_46 (by decide) ?_
        subst hQ
        exact ye_i C hr rfl u2 dX7_root_51 (by rw [rtM, if_pos znh, if_neg (by rw [eja, ejx]; exact c_20), znh]) (by decide) (by decide) (fun _ => ⟨ja, jx, ⟨rfl, hja, rfl, hjx⟩, by rw [rootM, if_pos (show hSM M (ix (cauI M (X ja) jx)) = true from c_41)]⟩)
    · skip
      refine yy_aload_n C 0 dX7_root_23 (pc' := 24) rfl rfl rfl ?_
      refine yy_iconst C (v := (nI 4)) dX7_root_24 (pc' := 25) rfl (by decide) ?_
      refine yy_put C (w' := wM G bd (mN (mI M 19 u1) 0 4) ++ F) fk_X7_79 fpW7 rfl 0 dX7_root_25 (pc' := 28) rfl rfl rfl rfl (Nat.le_of_ble_eq_true rfl) rfl ?_
      refine yy_bipush C (v := (nI 45)) dX7_root_28 (pc' := 30) rfl (by decide) ?_
      subst hQ
      exact ye_i C hr rfl u1 dX7_root_30 (by rw [rtM, if_pos znh, if_pos (by rw [eja, ejx]; exact c_20)]) (by decide) (by decide) (fun h_ => absurd h_ (by rw [rtM, if_pos znh, if_pos (by rw [eja, ejx]; exact c_20)]; decide))
  · skip
    refine yy_bipush C (v := (nI 45)) dX7_root_9 (pc' := 11) rfl (by decide) ?_
    subst hQ
    exact ye_i C hr rfl (M.2 19) dX7_root_11 (by rw [rtM, if_neg (nh_bf c_6)]; rfl) (by decide) (by decide) (fun h_ => absurd h_ (by rw [rtM, if_neg (nh_bf c_6)]; exact nh_bf c_6))

abbrev rX7_causes : Room := { frames := 5, cells := 0, slots := 0, locals := 112 }
set_option maxHeartbeats 4000000 in
set_option maxRecDepth 100000 in
theorem mX7_causes (l : Launch) (G : gG) (B0 : Nat) (bd : Nat → Nat) (F : va_W) (M : SM) (a x : Int32) (X : Nat → Nat) (hX : ∀ i, i < 5 → rowB (M.2 18) (40 * i) 40 (X i)) (hM : IM M) : Met l yX7_causes (Cond.code yX7_causes cX7_causes 5 (some .int) :: WG) rX7_causes (va_Pc [.ref (bd 0), .int a, .int x] (PR G B0 (wM G bd M ++ F))) (va_Qi (fun (r : Int32) (u : Nat → Int32) => cdNH (M.1 2) (fun j k => (X j).testBit k) a x = 0 → ∃ j k, (a = nI j ∧ j < 5 ∧ x = nI k ∧ k < M.1 2) ∧ r = causesM M (X j) k) (fun (u : Nat → Int32) (t_ : State) => va_P G.1 vwCl (wM G bd (mN (mI M 19 u) 0 (cdNH (M.1 2) (fun j k => (X j).testBit k) a x)) ++ F) t_.heap ∧ va_D (fun q => B0 ≤ q) (wM G bd (mN (mI M 19 u) 0 (cdNH (M.1 2) (fun j k => (X j).testBit k) a x)) ++ F)) (fun q => B0 ≤ q)) rX7_causes.cells rX7_causes.slots (fun q => B0 ≤ q) := by
  refine met_of RX7 [(0, .ref (bd 0)), (1, .int a), (2, .int x)] rfl (by decide) (Nat.le_of_ble_eq_true rfl) rfl ?_
  intro p e s m args below meth c C hr hnm
  refine yq ?_
  intro QQ hQ
  obtain ⟨j1, j2, j3, j4, j5, j6, j7, j8, jJ, jQ⟩ := id hM
  refine yy_aload_n C 0 dX7_causes_0 (pc' := 1) rfl rfl rfl ?_
  refine yy_iload_n C 1 dX7_causes_1 (pc' := 2) rfl rfl rfl ?_
  refine yy_iload_n C 2 dX7_causes_2 (pc' := 3) rfl rfl rfl ?_
  refine yc_i (yr_V C (As := [.int a, .int x]) (rest := []) lk_X7_145 cd_X7_noReasons im_X7_noReasons se_X7_noReasons (mX7_noReasons l G B0 bd F (M) a x X hX (by exact hM)) ⟨by decide, by decide⟩ ⟨by decide, by decide⟩ 0 rfl rfl rfl rfl (Nat.le_of_ble_eq_true rfl) dX7_causes_3) (pc' := 6) rfl (fun r1 _ hw1 => ?_)
  subst hw1
  refine yb_if_eq C dX7_causes_6 (pc' := 9) rfl (tgt := 11) (by decide) (fun c_6 => ?_) (fun c_6 => ?_)
  · skip
    have znh := nh_bt c_6
    obtain ⟨ja, jx, hja, hjx, rfl, rfl, hnh⟩ := cdNH_nn (by omega) znh
    have eja : ix (nI ja) = ja := ix_lt hja (by omega)
    have ejx : ix (nI jx) = jx := ix_lt hjx (by omega)
    refine yy_aload_n C 0 dX7_causes_11 (pc' := 12) rfl rfl rfl ?_
    refine yy_iload_n C 1 dX7_causes_12 (pc' := 13) rfl rfl rfl ?_
    refine yy_iload_n C 2 dX7_causes_13 (pc' := 14) rfl rfl rfl ?_
    refine yc_i (yr_V C (As := [.int (nI ja), .int (nI jx)]) (rest := []) lk_X7_148 cd_X7_first im_X7_first se_X7_first (mX7_first l G B0 bd F (mN M 0 (cdNH (M.1 2) (fun j k => (X j).testBit k) (nI ja) (nI jx))) ja jx (X ja) hja hjx (hX ja hja) (by exact hM)) ⟨by decide, by decide⟩ ⟨by decide, by decide⟩ 0 rfl rfl rfl rfl (Nat.le_of_ble_eq_true rfl) dX7_causes_14) (pc' := 17) rfl (fun r2 u1 hw2 => ?_)
    subst hw2
    refine yy_istore_n C (L' := [(3, .int (firM (mN M 0 (cdNH (M.1 2) (fun j k => (X j).testBit k) (nI ja) (nI jx))) (X ja) jx)), (0, .ref (bd 0)), (1, .int (nI ja)), (2, .int (nI jx))]) dX7_causes_17 (pc' := 18) rfl rfl (by decide) rfl ?_
    refine yy_iload_n C 0 dX7_causes_18 (pc' := 19) rfl rfl rfl ?_
    refine yy_bipush C (v := (nI 45)) dX7_causes_19 (pc' := 21) rfl (by decide) ?_
    refine yy_icmp_ne C dX7_causes_21 (pc' := 24) rfl (tgt := 26) (by decide) (fun c_21 => ?_) (fun c_21 => ?_)
    · skip
      have hcx : ix (cauI M (X ja) jx) < 40 := Nat.lt_of_lt_of_le (cau_ix j2 hjx c_21) j2
      refine yy_aload_n C 1 dX7_causes_26 (pc' := 27) rfl rfl rfl ?_
      refine yy_iload_n C 2 dX7_causes_27 (pc' := 28) rfl rfl rfl ?_
      refine yy_iload_n C 3 dX7_causes_28 (pc' := 29) rfl rfl rfl ?_
      refine yc_i (yr_V C (As := [.int (nI ja), .int (nI jx)]) (rest := []) lk_X7_152 cd_X7_cause im_X7_cause se_X7_cause (mX7_cause l G B0 bd F (mN (mI M 19 u1) 0 (cdNH (M.1 2) (fun j k => (X j).testBit k) (nI ja) (nI jx))) ja jx (X ja) hja hjx (hX ja hja) (by exact hM)) ⟨by decide, by decide⟩ ⟨by decide, by decide⟩ 0 rfl rfl rfl rfl (Nat.le_of_ble_eq_true rfl) dX7_causes_29) (pc' := 32) rfl (fun r3 u2 hw3 => ?_)
      subst hw3
      refine yy_ix ?_
      refine yy_istore C (L' := [(4, .int (nI (ix (cauI (mN (mI M 19 u1) 0 (cdNH (M.1 2) (fun j k => (X j).testBit k) (nI ja) (nI jx))) (X ja) jx)))), (3, .int (firM (mN M 0 (cdNH (M.1 2) (fun j k => (X j).testBit k) (nI ja) (nI jx))) (X ja) jx)), (0, .ref (bd 0)), (1, .int (nI ja)), (2, .int (nI jx))]) dX7_causes_32 (pc' := 34) rfl (by decide) rfl ?_
      refine yy_iload_n C 1 dX7_causes_34 (pc' := 35) rfl rfl rfl ?_
      refine yy_bipush C (v := (nI 106)) dX7_causes_35 (pc' := 37) rfl (by decide) ?_
      refine yy_icmp_ne C dX7_causes_37 (pc' := 40) rfl (tgt := 44) (by decide) (fun c_37 => ?_) (fun c_37 => ?_)
      · skip
        refine yy_iconst C (v := (nI 0)) dX7_causes_44 (pc' := 45) rfl (by decide) ?_
        refine yy_aload_n C 2 dX7_causes_45 (pc' := 46) rfl rfl rfl ?_
        refine yy_iload C 0 dX7_causes_46 (pc' := 48) rfl rfl ?_
        refine yc_i (yr_V C (As := [.int (nI (ix (cauI (mN (mI M 19 u1) 0 (cdNH (M.1 2) (fun j k => (X j).testBit k) (nI ja) (nI jx))) (X ja) jx)))]) (rest := [.int (nI 0)]) lk_X7_115 cd_X7_byRule im_X7_byRule se_X7_byRule (mX7_byRule l G B0 bd F (mN (mI M 19 u2) 0 (cdNH (M.1 2) (fun j k => (X j).testBit k) (nI ja) (nI jx))) (ix (cauI (mN (mI M 19 u1) 0 (cdNH (M.1 2) (fun j k => (X j).testBit k) (nI ja) (nI jx))) (X ja) jx)) (by exact hcx) (by exact hM)) ⟨by decide, by decide⟩ ⟨by decide, by decide⟩ 0 rfl rfl rfl rfl (Nat.le_of_ble_eq_true rfl) dX7_causes_48) (pc' := 51) rfl (fun r4 _ hw4 => ?_)
        subst hw4
        refine yb_if_eq C dX7_causes_51 (pc' := 54) rfl (tgt := 58) (by decide) (fun c_51 => ?_) (fun c_51 => ?_)
        · skip
          refine yy_iconst C (v := (nI 0)) dX7_causes_58 (pc' := 59) rfl (by decide) ?_
          refine yy_iadd C (v := (nI 0)) dX7_causes_59 (pc' := 60) rfl (nI_add 0 0) ?_
          refine yy_aload_n C 2 dX7_causes_60 (pc' := 61) rfl rfl rfl ?_
          refine yy_iload C 0 dX7_causes_61 (pc' := 63) rfl rfl ?_
          refine yc_i (yr_V C (As := [.int (nI (ix (cauI (mN (mI M 19 u1) 0 (cdNH (M.1 2) (fun j k => (X j).testBit k) (nI ja) (nI jx))) (X ja) jx)))]) (rest := [.int (nI 0)]) lk_X7_118 cd_X7_bySpan im_X7_bySpan se_X7_bySpan (mX7_bySpan l G B0 bd F (mN (mI M 19 u2) 0 (cdNH (M.1 2) (fun j k => (X j).testBit k) (nI ja) (nI jx))) (ix (cauI (mN (mI M 19 u1) 0 (cdNH (M.1 2) (fun j k => (X j).testBit k) (nI ja) (nI jx))) (X ja) jx)) (by exact hcx) (by exact hM)) ⟨by decide, by decide⟩ ⟨by decide, by decide⟩ 0 rfl rfl rfl rfl (Nat.le_of_ble_eq_true rfl) dX7_causes_63) (pc' := 66) rfl (fun r5 _ hw5 => ?_)
          subst hw5
          refine yb_if_eq C dX7_causes_66 (pc' := 69) rfl (tgt := 73) (by decide) (fun c_66 => ?_) (fun c_66 => ?_)
          · skip
            refine yy_iconst C (v := (nI 0)) dX7_causes_73 (pc' := 74) rfl (by decide) ?_
            refine yy_iadd C (v := (nI 0)) dX7_causes_74 (pc' := 75) rfl (nI_add 0 0) ?_
            subst hQ
            exact ye_i C hr (vp_nar_int _) u2 dX7_causes_75 rfl (by decide) (by decide) (fun _ => ⟨ja, jx, ⟨rfl, hja, rfl, hjx⟩, by rw [causesM, if_neg (show ¬ firM M (X ja) jx = nI 45 from c_21), if_neg (show ¬ firM M (X ja) jx = nI 106 from c_37), if_neg (show ¬ hRM M (ix (cauI M (X ja) jx)) = true by rw [show hRM M (ix (cauI M (X ja) jx)) = false from c_51]; decide), if_neg (show ¬ hSM M (ix (cauI M (X ja) jx)) = true by rw [show hSM M (ix (cauI M (X ja) jx)) = false from c_66]; decide)]⟩)
          · skip
            refine yy_iconst C (v := (nI 1)) dX7_causes_69 (pc' := 70) rfl (by decide) ?_
            refine yy_goto C (tgt := 74) dX7_causes_70 (by decide) ?_
            refine yy_iadd C (v := (nI (0 + 1))) dX7_causes_74 (pc' := 75) rfl (nI_add 0 1) ?_
            subst hQ
            exact ye_i C hr (vp_nar_int _) u2 dX7_causes_75 rfl (by decide) (by decide) (fun _ => ⟨ja, jx, ⟨rfl, hja, rfl, hjx⟩, by rw [causesM, if_neg (show ¬ firM M (X ja) jx = nI 45 from c_21), if_neg (show ¬ firM M (X ja) jx = nI 106 from c_37), if_neg (show ¬ hRM M (ix (cauI M (X ja) jx)) = true by rw [show hRM M (ix (cauI M (X ja) jx)) = false from c_51]; decide), if_pos (show hSM M (ix (cauI M (X ja) jx)) = true from c_66)]⟩)
        · skip
          refine yy_iconst C (v := (nI 1)) dX7_causes_54 (pc' := 55) rfl (by decide) ?_
          refine yy_goto C (tgt := 59) dX7_causes_55 (by decide) ?_
          refine yy_iadd C (v := (nI (0 + 1))) dX7_causes_59 (pc' := 60) rfl (nI_add 0 1) ?_
          refine yy_aload_n C 2 dX7_causes_60 (pc' := 61) rfl rfl rfl ?_
          refine yy_iload C 0 dX7_causes_61 (pc' := 63) rfl rfl ?_
          refine yc_i (yr_V C (As := [.int (nI (ix (cauI (mN (mI M 19 u1) 0 (cdNH (M.1 2) (fun j k => (X j).testBit k) (nI ja) (nI jx))) (X ja) jx)))]) (rest := [.int (nI (0 + 1))]) lk_X7_118 cd_X7_bySpan im_X7_bySpan se_X7_bySpan (mX7_bySpan l G B0 bd F (mN (mI M 19 u2) 0 (cdNH (M.1 2) (fun j k => (X j).testBit k) (nI ja) (nI jx))) (ix (cauI (mN (mI M 19 u1) 0 (cdNH (M.1 2) (fun j k => (X j).testBit k) (nI ja) (nI jx))) (X ja) jx)) (by exact hcx) (by exact hM)) ⟨by decide, by decide⟩ ⟨by decide, by decide⟩ 0 rfl rfl rfl rfl (Nat.le_of_ble_eq_true rfl) dX7_causes_63) (pc' := 66) rfl (fun r5 _ hw5 => ?_)
          subst hw5
          refine yb_if_eq C dX7_causes_66 (pc' := 69) rfl (tgt := 73) (by decide) (fun c_66 => ?_) (fun c_66 => ?_)
          · skip
            refine yy_iconst C (v := (nI 0)) dX7_causes_73 (pc' := 74) rfl (by decide) ?_
            refine yy_iadd C (v := (nI (0 + 1))) dX7_causes_74 (pc' := 75) rfl (nI_add (0 + 1) 0) ?_
            subst hQ
            exact ye_i C hr (vp_nar_int _) u2 dX7_causes_75 rfl (by decide) (by decide) (fun _ => ⟨ja, jx, ⟨rfl, hja, rfl, hjx⟩, by rw [causesM, if_neg (show ¬ firM M (X ja) jx = nI 45 from c_21), if_neg (show ¬ firM M (X ja) jx = nI 106 from c_37), if_pos (show hRM M (ix (cauI M (X ja) jx)) = true from c_51), if_neg (show ¬ hSM M (ix (cauI M (X ja) jx)) = true by rw [show hSM M (ix (cauI M (X ja) jx)) = false from c_66]; decide)]⟩)
          · skip
            refine yy_iconst C (v := (nI 1)) dX7_causes_69 (pc' := 70) rfl (by decide) ?_
            refine yy_goto C (tgt := 74) dX7_causes_70 (by decide) ?_
            refine yy_iadd C (v := (nI ((0 + 1) + 1))) dX7_causes_74 (pc' := 75) rfl (nI_add (0 + 1) 1) ?_
            subst hQ
            exact ye_i C hr (vp_nar_int _) u2 dX7_causes_75 rfl (by decide) (by decide) (fun _ => ⟨ja, jx, ⟨rfl, hja, rfl, hjx⟩, by rw [causesM, if_neg (show ¬ firM M (X ja) jx = nI 45 from c_21), if_neg (show ¬ firM M (X ja) jx = nI 106 from c_37), if_pos (show hRM M (ix (cauI M (X ja) jx)) = true from c_51), if_pos (show hSM M (ix (cauI M (X ja) jx)) = true from c_66)]⟩)
      · skip
        refine yy_iconst C (v := (nI 1)) dX7_causes_40 (pc' := 41) rfl (by decide) ?_
        refine yy_goto C (tgt := 45) dX7_causes_41 (by decide) ?_
        refine yy_aload_n C 2 dX7_causes_45 (pc' := 46) rfl rfl rfl ?_
        refine yy_iload C 0 dX7_causes_46 (pc' := 48) rfl rfl ?_
        refine yc_i (yr_V C (As := [.int (nI (ix (cauI (mN (mI M 19 u1) 0 (cdNH (M.1 2) (fun j k => (X j).testBit k) (nI ja) (nI jx))) (X ja) jx)))]) (rest := [.int (nI 1)]) lk_X7_115 cd_X7_byRule im_X7_byRule se_X7_byRule (mX7_byRule l G B0 bd F (mN (mI M 19 u2) 0 (cdNH (M.1 2) (fun j k => (X j).testBit k) (nI ja) (nI jx))) (ix (cauI (mN (mI M 19 u1) 0 (cdNH (M.1 2) (fun j k => (X j).testBit k) (nI ja) (nI jx))) (X ja) jx)) (by exact hcx) (by exact hM)) ⟨by decide, by decide⟩ ⟨by decide, by decide⟩ 0 rfl rfl rfl rfl (Nat.le_of_ble_eq_true rfl) dX7_causes_48) (pc' := 51) rfl (fun r4 _ hw4 => ?_)
        subst hw4
        refine yb_if_eq C dX7_causes_51 (pc' := 54) rfl (tgt := 58) (by decide) (fun c_51 => ?_) (fun c_51 => ?_)
        · skip
          refine yy_iconst C (v := (nI 0)) dX7_causes_58 (pc' := 59) rfl (by decide) ?_
          refine yy_iadd C (v := (nI 1)) dX7_causes_59 (pc' := 60) rfl (nI_add 1 0) ?_
          refine yy_aload_n C 2 dX7_causes_60 (pc' := 61) rfl rfl rfl ?_
          refine yy_iload C 0 dX7_causes_61 (pc' := 63) rfl rfl ?_
          refine yc_i (yr_V C (As := [.int (nI (ix (cauI (mN (mI M 19 u1) 0 (cdNH (M.1 2) (fun j k => (X j).testBit k) (nI ja) (nI jx))) (X ja) jx)))]) (rest := [.int (nI 1)]) lk_X7_118 cd_X7_bySpan im_X7_bySpan se_X7_bySpan (mX7_bySpan l G B0 bd F (mN (mI M 19 u2) 0 (cdNH (M.1 2) (fun j k => (X j).testBit k) (nI ja) (nI jx))) (ix (cauI (mN (mI M 19 u1) 0 (cdNH (M.1 2) (fun j k => (X j).testBit k) (nI ja) (nI jx))) (X ja) jx)) (by exact hcx) (by exact hM)) ⟨by decide, by decide⟩ ⟨by decide, by decide⟩ 0 rfl rfl rfl rfl (Nat.le_of_ble_eq_true rfl) dX7_causes_63) (pc' := 66) rfl (fun r5 _ hw5 => ?_)
          subst hw5
          refine yb_if_eq C dX7_causes_66 (pc' := 69) rfl (tgt := 73) (by decide) (fun c_66 => ?_) (fun c_66 => ?_)
          · skip
            refine yy_iconst C (v := (nI 0)) dX7_causes_73 (pc' := 74) rfl (by decide) ?_
            refine yy_iadd C (v := (nI 1)) dX7_causes_74 (pc' := 75) rfl (nI_add 1 0) ?_
            subst hQ
            exact ye_i C hr (vp_nar_int _) u2 dX7_causes_75 rfl (by decide) (by decide) (fun _ => ⟨ja, jx, ⟨rfl, hja, rfl, hjx⟩, by rw [causesM, if_neg (show ¬ firM M (X ja) jx = nI 45 from c_21), if_pos (show firM M (X ja) jx = nI 106 from c_37), if_neg (show ¬ hRM M (ix (cauI M (X ja) jx)) = true by rw [show hRM M (ix (cauI M (X ja) jx)) = false from c_51]; decide), if_neg (show ¬ hSM M (ix (cauI M (X ja) jx)) = true by rw [show hSM M (ix (cauI M (X ja) jx)) = false from c_66]; decide)]⟩)
          · skip
            refine yy_iconst C (v := (nI 1)) dX7_causes_69 (pc' := 70) rfl (by decide) ?_
            refine yy_goto C (tgt := 74) dX7_causes_70 (by decide) ?_
            refine yy_iadd C (v := (nI (1 + 1))) dX7_causes_74 (pc' := 75) rfl (nI_add 1 1) ?_
            subst hQ
            exact ye_i C hr (vp_nar_int _) u2 dX7_causes_75 rfl (by decide) (by decide) (fun _ => ⟨ja, jx, ⟨rfl, hja, rfl, hjx⟩, by rw [causesM, if_neg (show ¬ firM M (X ja) jx = nI 45 from c_21), if_pos (show firM M (X ja) jx = nI 106 from c_37), if_neg (show ¬ hRM M (ix (cauI M (X ja) jx)) = true by rw [show hRM M (ix (cauI M (X ja) jx)) = false from c_51]; decide), if_pos (show hSM M (ix (cauI M (X ja) jx)) = true from c_66)]⟩)
        · skip
          refine yy_iconst C (v := (nI 1)) dX7_causes_54 (pc' := 55) rfl (by decide) ?_
          refine yy_goto C (tgt := 59) dX7_causes_55 (by decide) ?_
          refine yy_iadd C (v := (nI (1 + 1))) dX7_causes_59 (pc' := 60) rfl (nI_add 1 1) ?_
          refine yy_aload_n C 2 dX7_causes_60 (pc' := 61) rfl rfl rfl ?_
          refine yy_iload C 0 dX7_causes_61 (pc' := 63) rfl rfl ?_
          refine yc_i (yr_V C (As := [.int (nI (ix (cauI (mN (mI M 19 u1) 0 (cdNH (M.1 2) (fun j k => (X j).testBit k) (nI ja) (nI jx))) (X ja) jx)))]) (rest := [.int (nI (1 + 1))]) lk_X7_118 cd_X7_bySpan im_X7_bySpan se_X7_bySpan (mX7_bySpan l G B0 bd F (mN (mI M 19 u2) 0 (cdNH (M.1 2) (fun j k => (X j).testBit k) (nI ja) (nI jx))) (ix (cauI (mN (mI M 19 u1) 0 (cdNH (M.1 2) (fun j k => (X j).testBit k) (nI ja) (nI jx))) (X ja) jx)) (by exact hcx) (by exact hM)) ⟨by decide, by decide⟩ ⟨by decide, by decide⟩ 0 rfl rfl rfl rfl (Nat.le_of_ble_eq_true rfl) dX7_causes_63) (pc' := 66) rfl (fun r5 _ hw5 => ?_)
          subst hw5
          refine yb_if_eq C dX7_causes_66 (pc' := 69) rfl (tgt := 73) (by decide) (fun c_66 => ?_) (fun c_66 => ?_)
          · skip
            refine yy_iconst C (v := (nI 0)) dX7_causes_73 (pc' := 74) rfl (by decide) ?_
            refine yy_iadd C (v := (nI (1 + 1))) dX7_causes_74 (pc' := 75) rfl (nI_add (1 + 1) 0) ?_
            subst hQ
            exact ye_i C hr (vp_nar_int _) u2 dX7_causes_75 rfl (by decide) (by decide) (fun _ => ⟨ja, jx, ⟨rfl, hja, rfl, hjx⟩, by rw [causesM, if_neg (show ¬ firM M (X ja) jx = nI 45 from c_21), if_pos (show firM M (X ja) jx = nI 106 from c_37), if_pos (show hRM M (ix (cauI M (X ja) jx)) = true from c_51), if_neg (show ¬ hSM M (ix (cauI M (X ja) jx)) = true by rw [show hSM M (ix (cauI M (X ja) jx)) = false from c_66]; decide)]⟩)
          · skip
            refine yy_iconst C (v := (nI 1)) dX7_causes_69 (pc' := 70) rfl (by decide) ?_
            refine yy_goto C (tgt := 74) dX7_causes_70 (by decide) ?_
            refine yy_iadd C (v := (nI ((1 + 1) + 1))) dX7_causes_74 (pc' := 75) rfl (nI_add (1 + 1) 1) ?_
            subst hQ
            exact ye_i C hr (vp_nar_int _) u2 dX7_causes_75 rfl (by decide) (by decide) (fun _ => ⟨ja, jx, ⟨rfl, hja, rfl, hjx⟩, by rw [causesM, if_neg (show ¬ firM M (X ja) jx = nI 45 from c_21), if_pos (show firM M (X ja) jx = nI 106 from c_37), if_pos (show hRM M (ix (cauI M (X ja) jx)) = true from c_51), if_pos (show hSM M (ix (cauI M (X ja) jx)) = true from c_66)]⟩)
    · skip
      refine yy_iconst C (v := (nI 0)) dX7_causes_24 (pc' := 25) rfl (by decide) ?_
      subst hQ
      exact ye_i C hr (vp_nar_int _) u1 dX7_causes_25 rfl (by decide) (by decide) (fun _ => ⟨ja, jx, ⟨rfl, hja, rfl, hjx⟩, by rw [causesM, if_pos (show firM M (X ja) jx = nI 45 from c_21)]⟩)
  · skip
    refine yy_iconst C (v := (nI 0)) dX7_causes_9 (pc' := 10) rfl (by decide) ?_
    subst hQ
    exact ye_i C hr (vp_nar_int _) (M.2 19) dX7_causes_10 rfl (by decide) (by decide) (fun h_ => absurd h_ (nh_bf c_6))
