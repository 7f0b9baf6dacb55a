def jnM (M : SM) (a b t : Nat) : SM := mN (mI (mI (mI M 9 (upd (M.2 9) (M.1 5) (nI a))) 10 (upd (M.2 10) (M.1 5) (nI b))) 11 (upd (M.2 11) (M.1 5) (nI t))) 5 (M.1 5 + 1)
theorem IM_jn {M : SM} (hM : IM M) {a b t : Nat} (hj : M.1 5 < 10) (ha : a < M.1 2) (hb : b < M.1 2) (ht : t < M.1 2) : IM (jnM M a b t) := by
  obtain ⟨j1, j2, j3, j4, j5, j6, j7, j8, jJ, jQ⟩ := hM
  refine ⟨j1, j2, j3, j4, ?_, j6, j7, j8, ?_, jQ⟩
  · show M.1 5 + 1 ≤ 10
    omega
  · intro j hj2
    have hj3 : j < M.1 5 + 1 := hj2
    show ix (upd (M.2 9) (M.1 5) (nI a) j) < M.1 2 ∧ ix (upd (M.2 10) (M.1 5) (nI b) j) < M.1 2 ∧ ix (upd (M.2 11) (M.1 5) (nI t) j) < M.1 2
    by_cases h : j = M.1 5
    · simp only [upd, if_pos h]
      rw [ix_nI (by omega), ix_nI (by omega), ix_nI (by omega)]
      exact ⟨ha, hb, ht⟩
    · simp only [upd, if_neg h]
      exact jJ j (by omega)
theorem row_out {f g : Nat → Int32} {i z x : Nat} (hz : ¬ z = i) (h : rowB g (40 * z) 40 x) (ho : ∀ j, (∀ k, k < 40 → j ≠ 40 * i + k) → f j = g j) : rowB f (40 * z) 40 x := by
  intro k hk
  rw [ho (40 * z + k) (fun q hq => by omega)]
  exact h k hk
theorem wtg_t {n : Nat} {q qa qd : Nat → Int32} {a d : Int32} {i : Nat} (hi : i < n) (h1 : q i = nI 119) (h2 : qa i = a) (h3 : qd i = d) : wtg n q qa qd a d = true := anyB_t hi (by simp [h1, h2, h3])
theorem nI0 {n : Nat} (hn : n < 2 ^ 31) (h : nI n = 0) : n = 0 := (nI_eq (by omega) (by decide)).mp (h.trans nI_0.symm)
abbrev rX7_holds : Room := { frames := 2, cells := 0, slots := 0, locals := 43 }
set_option maxHeartbeats 4000000 in
set_option maxRecDepth 100000 in
theorem mX7_holds (l : Launch) (G : gG) (B0 : Nat) (bd : Nat → Nat) (F : va_W) (M : SM) (a x : Int32) (X : Nat → Nat) (hX : ∀ i, i < 5 → rowB (M.2 18) (40 * i) 40 (X i)) (hM : IM M) : Met l yX7_holds (Cond.code yX7_holds cX7_holds 3 (some .boolean) :: WG) rX7_holds (va_Pc [.ref (bd 0), .int a, .int x] (PR G B0 (wM G bd M ++ F))) (va_Qi (fun (r : Int32) (u : SM) => ∃ q : Nat, q = cdHolds (M.1 2) a x ∧ ((q = 0 ∧ ∃ j k, (a = nI j ∧ j < 5 ∧ x = nI k ∧ k < M.1 2) ∧ u = mN M 0 q ∧ r = bI ((X j).testBit k)) ∨ (¬ q = 0 ∧ u = mN M 0 q ∧ r = nI 0))) (fun (u : SM) (t_ : State) => va_P G.1 vwCl (wM G bd u ++ F) t_.heap ∧ va_D (fun q => B0 ≤ q) (wM G bd u ++ F)) (fun q => B0 ≤ q)) rX7_holds.cells rX7_holds.slots (fun q => B0 ≤ q) := by
  refine met_of RX7 [(0, .ref (bd 0)), (1, .int a), (2, .int x)] rfl (by decide) (Nat.le_of_ble_eq_true rfl) rfl ?_
  intro p e s m args below meth c C hr hnm
  refine yq ?_
  intro QQ hQ
  obtain ⟨j1, j2, j3, j4, j5, j6, j7, j8, jJ, jQ⟩ := id hM
  refine yy_aload_n C 0 dX7_holds_0 (pc' := 1) rfl rfl rfl ?_
  refine yy_iload_n C 1 dX7_holds_1 (pc' := 2) rfl rfl rfl ?_
  refine yc_i (yr_V C (As := [.int a]) (rest := []) lk_X7_135 cd_X7_noAsker im_X7_noAsker se_X7_noAsker (mX7_noAsker l G B0 bd F (M) a (by exact hM)) ⟨by decide, by decide⟩ ⟨by decide, by decide⟩ 0 rfl rfl rfl rfl (Nat.le_of_ble_eq_true rfl) dX7_holds_2) (pc' := 5) rfl (fun r1 _ hw1 => ?_)
  subst hw1
  refine yb_if_eq C dX7_holds_5 (pc' := 8) rfl (tgt := 10) (by decide) (fun c_5 => ?_) (fun c_5 => ?_)
  · skip
    have zn1 : inR a (5) = true := by simpa [mN, va_up] using c_5
    obtain ⟨ja, hja, rfl⟩ := inR_of (by omega) zn1
    have eja : ix (nI ja) = ja := ix_lt hja (by omega)
    refine yy_aload_n C 0 dX7_holds_10 (pc' := 11) rfl rfl rfl ?_
    refine yy_iload_n C 2 dX7_holds_11 (pc' := 12) rfl rfl rfl ?_
    refine yy_iconst C (v := (nI 0)) dX7_holds_12 (pc' := 13) rfl (by decide) ?_
    refine yy_aload_n C 0 dX7_holds_13 (pc' := 14) rfl rfl rfl ?_
    refine yy_get C (v := .int (nI (M.1 2))) fk_X7_89 0 dX7_holds_14 (pc' := 17) rfl rfl rfl ?_
    refine yy_iconst C (v := (nI 1)) dX7_holds_17 (pc' := 18) rfl (by decide) ?_
    refine yy_isub C (v := ((nI (M.1 2)) - (nI 1))) dX7_holds_18 (pc' := 19) rfl rfl ?_
    refine yc_i (yr_S C (As := [.int x, .int (nI 0), .int ((nI (M.1 2)) - (nI 1))]) (rest := [.ref (bd 0)]) lk_X7_85 cd_X7_isIn st_X7_isIn (mX7_isIn l G B0 (wM G bd (mN M 0 (cd1 5 (nI ja))) ++ F) x (nI 0) ((nI (M.1 2)) - (nI 1))) ⟨by decide, by decide⟩ ⟨by decide, by decide⟩ rfl rfl (Nat.le_of_ble_eq_true rfl) dX7_holds_19) (pc' := 22) rfl (fun r2 _ hw2 => ?_)
    subst hw2
    refine yb_if_eq C dX7_holds_22 (pc' := 25) rfl (tgt := 29) (by decide) (fun c_22 => ?_) (fun c_22 => ?_)
    · skip
      have zn2 : inR x (M.1 2) = false := by rw [← inB_R (by omega)]; exact c_22
      refine yy_iconst C (v := (nI 2)) dX7_holds_29 (pc' := 30) rfl (by decide) ?_
      refine yy_put C (w' := wM G bd (mN M 0 2) ++ F) fk_X7_79 fpW7 rfl 0 dX7_holds_30 (pc' := 33) rfl rfl rfl rfl (Nat.le_of_ble_eq_true rfl) rfl ?_
      refine yy_aload_n C 0 dX7_holds_33 (pc' := 34) rfl rfl rfl ?_
      refine yy_get C (v := .int (nI 2)) fk_X7_79 0 dX7_holds_34 (pc' := 37) rfl rfl rfl ?_
      refine yy_if_ne C dX7_holds_37 (pc' := 40) rfl (tgt := 58) (by decide) (fun c_37 => ?_) (fun c_37 => ?_)
      · skip
        refine yy_iconst C (v := (nI 0)) dX7_holds_58 (pc' := 59) rfl (by decide) ?_
        subst hQ
        exact ye_i C hr rfl (mN M 0 2) dX7_holds_59 rfl (by decide) (by decide) ⟨2, by simp [cd1, cdHolds, zn1, eja, zn2], Or.inr ⟨(by decide), rfl, rfl⟩⟩
      · skip
        exact absurd c_37 (by decide)
    · skip
      have zn2 : inR x (M.1 2) = true := by rw [← inB_R (by omega)]; exact c_22
      obtain ⟨jx, hjx, rfl⟩ := inR_of (by omega) zn2
      have ejx : ix (nI jx) = jx := ix_lt hjx (by omega)
      refine yy_iconst C (v := (nI 0)) dX7_holds_25 (pc' := 26) rfl (by decide) ?_
      refine yy_goto C (tgt := 30) dX7_holds_26 (by decide) ?_
      refine yy_put C (w' := wM G bd (mN M 0 0) ++ F) fk_X7_79 fpW7 rfl 0 dX7_holds_30 (pc' := 33) rfl rfl rfl rfl (Nat.le_of_ble_eq_true rfl) rfl ?_
      refine yy_aload_n C 0 dX7_holds_33 (pc' := 34) rfl rfl rfl ?_
      refine yy_get C (v := .int (nI 0)) fk_X7_79 0 dX7_holds_34 (pc' := 37) rfl rfl rfl ?_
      refine yy_if_ne C dX7_holds_37 (pc' := 40) rfl (tgt := 58) (by decide) (fun c_37 => ?_) (fun c_37 => ?_)
      · skip
        exact absurd c_37 (by decide)
      · skip
        refine yy_aload_n C 0 dX7_holds_40 (pc' := 41) rfl rfl rfl ?_
        refine yy_get C (v := .ref (bd 19)) fk_X7_69 0 dX7_holds_41 (pc' := 44) rfl rfl rfl ?_
        refine yy_bipush C (v := (nI 40)) dX7_holds_44 (pc' := 46) rfl (by decide) ?_
        refine yy_iload_n C 1 dX7_holds_46 (pc' := 47) rfl rfl rfl ?_
        refine yy_imul C (v := (nI (40 * ja))) dX7_holds_47 (pc' := 48) rfl (pk_mul 40 ja) ?_
        refine yy_iload_n C 2 dX7_holds_48 (pc' := 49) rfl rfl rfl ?_
        refine yy_iadd C (v := (nI ((40 * ja) + jx))) dX7_holds_49 (pc' := 50) rfl (nI_add (40 * ja) jx) ?_
        refine yy_zald C 19 dX7_holds_50 (pc' := 51) rfl rfl (by omega) (by decide) ?_
        refine yy_eqi (hX ja hja jx (by omega)) ?_
        refine yb_if_eq C dX7_holds_51 (pc' := 54) rfl (tgt := 58) (by decide) (fun c_51 => ?_) (fun c_51 => ?_)
        · skip
          refine yy_iconst C (v := (nI 0)) dX7_holds_58 (pc' := 59) rfl (by decide) ?_
          subst hQ
          exact ye_i C hr rfl (mN M 0 0) dX7_holds_59 rfl (by decide) (by decide) ⟨0, by simp [cdHolds, zn1, eja, zn2, ejx], Or.inl ⟨rfl, ja, jx, ⟨rfl, hja, rfl, hjx⟩, rfl, bI_f c_51⟩⟩
        · skip
          refine yy_iconst C (v := (nI 1)) dX7_holds_54 (pc' := 55) rfl (by decide) ?_
          refine yy_goto C (tgt := 59) dX7_holds_55 (by decide) ?_
          subst hQ
          exact ye_i C hr rfl (mN M 0 0) dX7_holds_59 rfl (by decide) (by decide) ⟨0, by simp [cdHolds, zn1, eja, zn2, ejx], Or.inl ⟨rfl, ja, jx, ⟨rfl, hja, rfl, hjx⟩, rfl, bI_t c_51⟩⟩
  · skip
    have zn1 : inR a (5) = false := by simpa [mN, va_up] using c_5
    refine yy_iconst C (v := (nI 0)) dX7_holds_8 (pc' := 9) rfl (by decide) ?_
    subst hQ
    exact ye_i C hr rfl (mN M 0 (cd1 5 a)) dX7_holds_9 rfl (by decide) (by decide) ⟨(cd1 5 a), by simp [cd1, cdHolds, zn1], Or.inr ⟨(by simp [cd1, zn1]), rfl, rfl⟩⟩

abbrev rX7_holdsByLog : Room := { frames := 3, cells := 0, slots := 0, locals := 65 }
set_option maxHeartbeats 4000000 in
set_option maxRecDepth 100000 in
theorem mX7_holdsByLog (l : Launch) (G : gG) (B0 : Nat) (bd : Nat → Nat) (F : va_W) (M : SM) (a x : Int32) (X : Nat → Nat) (hX : ∀ i, i < 5 → rowB (M.2 18) (40 * i) 40 (X i)) (hM : IM M) : Met l yX7_holdsByLog (Cond.code yX7_holdsByLog cX7_holdsByLog 3 (some .boolean) :: WG) rX7_holdsByLog (va_Pc [.ref (bd 0), .int a, .int x] (PR G B0 (wM G bd M ++ F))) (va_Qi (fun (r : Int32) (u : SM) => ∃ q : Nat, q = cdHolds (M.1 2) a x ∧ ((q = 0 ∧ ∃ j k, (a = nI j ∧ j < 5 ∧ x = nI k ∧ k < M.1 2) ∧ u = mN M 0 q ∧ r = bI ((X j).testBit k)) ∨ (¬ q = 0 ∧ u = mN M 0 q ∧ r = nI 0))) (fun (u : SM) (t_ : State) => va_P G.1 vwCl (wM G bd u ++ F) t_.heap ∧ va_D (fun q => B0 ≤ q) (wM G bd u ++ F)) (fun q => B0 ≤ q)) rX7_holdsByLog.cells rX7_holdsByLog.slots (fun q => B0 ≤ q) := by
  refine met_of RX7 [(0, .ref (bd 0)), (1, .int a), (2, .int x)] rfl (by decide) (Nat.le_of_ble_eq_true rfl) rfl ?_
  intro p e s m args below meth c C hr hnm
  refine yq ?_
  intro QQ hQ
  obtain ⟨j1, j2, j3, j4, j5, j6, j7, j8, jJ, jQ⟩ := id hM
  refine yy_aload_n C 0 dX7_holdsByLog_0 (pc' := 1) rfl rfl rfl ?_
  refine yy_iload_n C 1 dX7_holdsByLog_1 (pc' := 2) rfl rfl rfl ?_
  refine yy_iload_n C 2 dX7_holdsByLog_2 (pc' := 3) rfl rfl rfl ?_
  refine yc_i (yr_V C (As := [.int a, .int x]) (rest := []) lk_X7_138 cd_X7_holds im_X7_holds se_X7_holds (mX7_holds l G B0 bd F (M) a x X hX (by exact hM)) ⟨by decide, by decide⟩ ⟨by decide, by decide⟩ 0 rfl rfl rfl rfl (Nat.le_of_ble_eq_true rfl) dX7_holdsByLog_3) (pc' := 6) rfl (fun r1 u1 hw1 => ?_)
  subst hQ
  exact ye_i C hr (by obtain ⟨q_, -, ⟨-, j_, k_, -, -, hz_⟩ | ⟨-, -, hz_⟩⟩ := hw1 <;> (rw [hz_]; first | exact nar_b _ | rfl)) u1 dX7_holdsByLog_6 rfl (by decide) (by decide) hw1

abbrev rX7_held : Room := { frames := 2, cells := 0, slots := 0, locals := 43 }
set_option maxHeartbeats 4000000 in
set_option maxRecDepth 100000 in
theorem mX7_held (l : Launch) (G : gG) (B0 : Nat) (bd : Nat → Nat) (F : va_W) (M : SM) (X : Nat → Nat) (hX : ∀ i, i < 5 → rowB (M.2 18) (40 * i) 40 (X i)) (a : Int32) (hM : IM M) : Met l yX7_held (Cond.code yX7_held cX7_held 4 (some .int) :: WG) rX7_held (va_Pc [.ref (bd 0), .int a] (PR G B0 (wM G bd M ++ F))) (va_Qi (fun (r : Int32) (u : SM) => ∃ q : Nat, q = cd1 (5) a ∧ ((q = 0 ∧ ∃ j, a = nI j ∧ j < 5 ∧ u = mN M 0 q ∧ r = nI (fb_ct (fun k => (X j).testBit k) (M.1 2))) ∨ (¬ q = 0 ∧ u = mN M 0 q))) (fun (u : SM) (t_ : State) => va_P G.1 vwCl (wM G bd u ++ F) t_.heap ∧ va_D (fun q => B0 ≤ q) (wM G bd u ++ F)) (fun q => B0 ≤ q)) rX7_held.cells rX7_held.slots (fun q => B0 ≤ q) := by
  refine met_of RX7 [(0, .ref (bd 0)), (1, .int a)] rfl (by decide) (Nat.le_of_ble_eq_true rfl) rfl ?_
  intro p e s m args below meth c C hr hnm
  refine yq ?_
  intro QQ hQ
  obtain ⟨j1, j2, j3, j4, j5, j6, j7, j8, jJ, jQ⟩ := id hM
  refine yy_aload_n C 0 dX7_held_0 (pc' := 1) rfl rfl rfl ?_
  refine yy_iload_n C 1 dX7_held_1 (pc' := 2) rfl rfl rfl ?_
  refine yc_i (yr_V C (As := [.int a]) (rest := []) lk_X7_135 cd_X7_noAsker im_X7_noAsker se_X7_noAsker (mX7_noAsker l G B0 bd F (M) a (by exact hM)) ⟨by decide, by decide⟩ ⟨by decide, by decide⟩ 0 rfl rfl rfl rfl (Nat.le_of_ble_eq_true rfl) dX7_held_2) (pc' := 5) rfl (fun r1 _ hw1 => ?_)
  subst hw1
  refine yb_if_eq C dX7_held_5 (pc' := 8) rfl (tgt := 10) (by decide) (fun c_5 => ?_) (fun c_5 => ?_)
  · skip
    have zn1 : inR a (5) = true := by simpa [mN, va_up] using c_5
    obtain ⟨ja, hja, rfl⟩ := inR_of (by omega) zn1
    have eja : ix (nI ja) = ja := ix_lt hja (by omega)
    refine yy_iconst C (v := (nI 0)) dX7_held_10 (pc' := 11) rfl (by decide) ?_
    refine yy_istore_n C (L' := [(2, .int (nI 0)), (0, .ref (bd 0)), (1, .int (nI ja))]) dX7_held_11 (pc' := 12) rfl rfl (by decide) rfl ?_
    refine yy_iconst C (v := (nI 0)) dX7_held_12 (pc' := 13) rfl (by decide) ?_
    refine yy_istore_n C (L' := [(3, .int (nI 0)), (2, .int (nI 0)), (0, .ref (bd 0)), (1, .int (nI ja))]) dX7_held_13 (pc' := 14) rfl rfl (by decide) rfl ?_
    have lp_14 : ∀ (f_ : Nat) (i : Nat), (hi : i ≤ M.1 2) → M.1 2 - i < f_ → YY p l e rX7_held s m args below meth c G B0 4 QQ 14 [(2, .int (nI (fb_ct (fun k => (X ja).testBit k) i))), (3, .int (nI i)), (0, .ref (bd 0)), (1, .int (nI ja))] [] (wM G bd (mN M 0 (cd1 5 (nI ja))) ++ F) 0 0 := by
      intro f_
      induction f_ with
      | zero => intro i hi hf_; exact absurd hf_ (Nat.not_lt_zero _)
      | succ f_ ih =>
        intro i hi hf_
        refine yy_iload_n C 1 dX7_held_14 (pc' := 15) rfl rfl rfl ?_
        refine yy_aload_n C 2 dX7_held_15 (pc' := 16) rfl rfl rfl ?_
        refine yy_get C (v := .int (nI (M.1 2))) fk_X7_89 0 dX7_held_16 (pc' := 19) rfl rfl rfl ?_
        refine yn_icmp_ge C (by omega) (by omega) dX7_held_19 (pc' := 22) rfl (tgt := 50) (by decide) (fun c_19 => ?_) (fun c_19 => ?_)
        · skip
          refine yy_iload_n C 0 dX7_held_50 (pc' := 51) rfl rfl rfl ?_
          subst hQ
          exact ye_i C hr (vp_nar_int _) (mN M 0 (cd1 5 (nI ja))) dX7_held_51 rfl (by decide) (by decide) ⟨(cd1 5 (nI ja)), by simp [cd1, cd1, zn1, eja], Or.inl ⟨(by simp [cd1, zn1, eja]), ja, rfl, hja, rfl, by rw [show i = M.1 2 by omega]⟩⟩
        · skip
          refine yy_iload_n C 0 dX7_held_22 (pc' := 23) rfl rfl rfl ?_
          refine yy_aload_n C 2 dX7_held_23 (pc' := 24) rfl rfl rfl ?_
          refine yy_get C (v := .ref (bd 19)) fk_X7_69 0 dX7_held_24 (pc' := 27) rfl rfl rfl ?_
          refine yy_bipush C (v := (nI 40)) dX7_held_27 (pc' := 29) rfl (by decide) ?_
          refine yy_iload_n C 3 dX7_held_29 (pc' := 30) rfl rfl rfl ?_
          refine yy_imul C (v := (nI (40 * ja))) dX7_held_30 (pc' := 31) rfl (pk_mul 40 ja) ?_
          refine yy_iload_n C 1 dX7_held_31 (pc' := 32) rfl rfl rfl ?_
          refine yy_iadd C (v := (nI ((40 * ja) + i))) dX7_held_32 (pc' := 33) rfl (nI_add (40 * ja) i) ?_
          refine yy_zald C 19 dX7_held_33 (pc' := 34) rfl rfl (by omega) (by decide) ?_
          refine yy_eqi (hX ja hja i (by omega)) ?_
          refine yb_if_eq C dX7_held_34 (pc' := 37) rfl (tgt := 41) (by decide) (fun c_34 => ?_) (fun c_34 => ?_)
          · skip
            refine yy_iconst C (v := (nI 0)) dX7_held_41 (pc' := 42) rfl (by decide) ?_
            refine yy_iadd C (v := (nI (fb_ct (fun k => (X ja).testBit k) i))) dX7_held_42 (pc' := 43) rfl (nI_add (fb_ct (fun k => (X ja).testBit k) i) 0) ?_
            refine yy_istore_n C (L' := [(2, .int (nI (fb_ct (fun k => (X ja).testBit k) i))), (3, .int (nI i)), (0, .ref (bd 0)), (1, .int (nI ja))]) dX7_held_43 (pc' := 44) rfl rfl (by decide) rfl ?_
            refine yy_iinc C (v := (nI (i + 1))) (L' := [(3, .int (nI (i + 1))), (2, .int (nI (fb_ct (fun k => (X ja).testBit k) i))), (0, .ref (bd 0)), (1, .int (nI ja))]) 1 dX7_held_44 (pc' := 47) rfl rfl (nI_add i 1) (by decide) rfl ?_
            refine yy_goto C (tgt := 14) dX7_held_47 (by decide) ?_
            rw [← ct_f (p := (fun k => (X ja).testBit k)) (i := i) (by simpa [mN, mI, va_up] using c_34)]
            refine yy_loc [1, 0, 2, 3] rfl ?_
            exact ih (i + 1) (by omega) (by omega)
          · skip
            refine yy_iconst C (v := (nI 1)) dX7_held_37 (pc' := 38) rfl (by decide) ?_
            refine yy_goto C (tgt := 42) dX7_held_38 (by decide) ?_
            refine yy_iadd C (v := (nI ((fb_ct (fun k => (X ja).testBit k) i) + 1))) dX7_held_42 (pc' := 43) rfl (nI_add (fb_ct (fun k => (X ja).testBit k) i) 1) ?_
            refine yy_istore_n C (L' := [(2, .int (nI ((fb_ct (fun k => (X ja).testBit k) i) + 1))), (3, .int (nI i)), (0, .ref (bd 0)), (1, .int (nI ja))]) dX7_held_43 (pc' := 44) rfl rfl (by decide) rfl ?_
            refine yy_iinc C (v := (nI (i + 1))) (L' := [(3, .int (nI (i + 1))), (2, .int (nI ((fb_ct (fun k => (X ja).testBit k) i) + 1))), (0, .ref (bd 0)), (1, .int (nI ja))]) 1 dX7_held_44 (pc' := 47) rfl rfl (nI_add i 1) (by decide) rfl ?_
            refine yy_goto C (tgt := 14) dX7_held_47 (by decide) ?_
            rw [← ct_t (p := (fun k => (X ja).testBit k)) (i := i) (by simpa [mN, mI, va_up] using c_34)]
            refine yy_loc [1, 0, 2, 3] rfl ?_
            exact ih (i + 1) (by omega) (by omega)
    refine yy_loc (L' := [(2, .int (nI 0)), (3, .int (nI 0)), (0, .ref (bd 0)), (1, .int (nI ja))]) [1, 0, 2, 3] rfl ?_
    exact lp_14 (M.1 2 - 0 + 1) 0 (Nat.zero_le _) (Nat.lt_succ_self _)
  · skip
    have zn1 : inR a (5) = false := by simpa [mN, va_up] using c_5
    refine yy_iconst C (v := (nI 0)) dX7_held_8 (pc' := 9) rfl (by decide) ?_
    subst hQ
    exact ye_i C hr (vp_nar_int _) (mN M 0 (cd1 5 a)) dX7_held_9 rfl (by decide) (by decide) ⟨(cd1 5 a), by simp [cd1, cd1, zn1], Or.inr ⟨(by simp [cd1, zn1]), rfl⟩⟩

abbrev rX7_holders : Room := { frames := 2, cells := 0, slots := 0, locals := 43 }
set_option maxHeartbeats 4000000 in
set_option maxRecDepth 100000 in
theorem mX7_holders (l : Launch) (G : gG) (B0 : Nat) (bd : Nat → Nat) (F : va_W) (M : SM) (X : Nat → Nat) (hX : ∀ i, i < 5 → rowB (M.2 18) (40 * i) 40 (X i)) (x : Int32) (hM : IM M) : Met l yX7_holders (Cond.code yX7_holders cX7_holders 4 (some .int) :: WG) rX7_holders (va_Pc [.ref (bd 0), .int x] (PR G B0 (wM G bd M ++ F))) (va_Qi (fun (r : Int32) (u : SM) => ∃ q : Nat, q = cd1 (M.1 2) x ∧ ((q = 0 ∧ ∃ j, x = nI j ∧ j < M.1 2 ∧ u = mN M 0 q ∧ r = nI (fb_ct (fun z => (X z).testBit j) 5)) ∨ (¬ q = 0 ∧ u = mN M 0 q))) (fun (u : SM) (t_ : State) => va_P G.1 vwCl (wM G bd u ++ F) t_.heap ∧ va_D (fun q => B0 ≤ q) (wM G bd u ++ F)) (fun q => B0 ≤ q)) rX7_holders.cells rX7_holders.slots (fun q => B0 ≤ q) := by
  refine met_of RX7 [(0, .ref (bd 0)), (1, .int x)] rfl (by decide) (Nat.le_of_ble_eq_true rfl) rfl ?_
  intro p e s m args below meth c C hr hnm
  refine yq ?_
  intro QQ hQ
  obtain ⟨j1, j2, j3, j4, j5, j6, j7, j8, jJ, jQ⟩ := id hM
  refine yy_aload_n C 0 dX7_holders_0 (pc' := 1) rfl rfl rfl ?_
  refine yy_iload_n C 1 dX7_holders_1 (pc' := 2) rfl rfl rfl ?_
  refine yc_i (yr_V C (As := [.int x]) (rest := []) lk_X7_100 cd_X7_noLine im_X7_noLine se_X7_noLine (mX7_noLine l G B0 bd F (M) x (by exact hM)) ⟨by decide, by decide⟩ ⟨by decide, by decide⟩ 0 rfl rfl rfl rfl (Nat.le_of_ble_eq_true rfl) dX7_holders_2) (pc' := 5) rfl (fun r1 _ hw1 => ?_)
  subst hw1
  refine yb_if_eq C dX7_holders_5 (pc' := 8) rfl (tgt := 10) (by decide) (fun c_5 => ?_) (fun c_5 => ?_)
  · skip
    have zn1 : inR x (M.1 2) = true := by simpa [mN, va_up] using c_5
    obtain ⟨jx, hjx, rfl⟩ := inR_of (by omega) zn1
    have ejx : ix (nI jx) = jx := ix_lt hjx (by omega)
    refine yy_iconst C (v := (nI 0)) dX7_holders_10 (pc' := 11) rfl (by decide) ?_
    refine yy_istore_n C (L' := [(2, .int (nI 0)), (0, .ref (bd 0)), (1, .int (nI jx))]) dX7_holders_11 (pc' := 12) rfl rfl (by decide) rfl ?_
    refine yy_iconst C (v := (nI 0)) dX7_holders_12 (pc' := 13) rfl (by decide) ?_
    refine yy_istore_n C (L' := [(3, .int (nI 0)), (2, .int (nI 0)), (0, .ref (bd 0)), (1, .int (nI jx))]) dX7_holders_13 (pc' := 14) rfl rfl (by decide) rfl ?_
    have lp_14 : ∀ (f_ : Nat) (i : Nat), (hi : i ≤ 5) → 5 - i < f_ → YY p l e rX7_holders s m args below meth c G B0 4 QQ 14 [(2, .int (nI (fb_ct (fun z => (X z).testBit jx) i))), (3, .int (nI i)), (0, .ref (bd 0)), (1, .int (nI jx))] [] (wM G bd (mN M 0 (cd1 (M.1 2) (nI jx))) ++ F) 0 0 := by
      intro f_
      induction f_ with
      | zero => intro i hi hf_; exact absurd hf_ (Nat.not_lt_zero _)
      | succ f_ ih =>
        intro i hi hf_
        refine yy_iload_n C 1 dX7_holders_14 (pc' := 15) rfl rfl rfl ?_
        refine yy_iconst C (v := (nI 5)) dX7_holders_15 (pc' := 16) rfl (by decide) ?_
        refine yn_icmp_ge C (by omega) (by decide) dX7_holders_16 (pc' := 19) rfl (tgt := 47) (by decide) (fun c_16 => ?_) (fun c_16 => ?_)
        · skip
          refine yy_iload_n C 0 dX7_holders_47 (pc' := 48) rfl rfl rfl ?_
          subst hQ
          exact ye_i C hr (vp_nar_int _) (mN M 0 (cd1 (M.1 2) (nI jx))) dX7_holders_48 rfl (by decide) (by decide) ⟨(cd1 (M.1 2) (nI jx)), by simp [cd1, cd1, zn1, ejx], Or.inl ⟨(by simp [cd1, zn1, ejx]), jx, rfl, hjx, rfl, by rw [show i = 5 by omega]⟩⟩
        · skip
          refine yy_iload_n C 0 dX7_holders_19 (pc' := 20) rfl rfl rfl ?_
          refine yy_aload_n C 2 dX7_holders_20 (pc' := 21) rfl rfl rfl ?_
          refine yy_get C (v := .ref (bd 19)) fk_X7_69 0 dX7_holders_21 (pc' := 24) rfl rfl rfl ?_
          refine yy_bipush C (v := (nI 40)) dX7_holders_24 (pc' := 26) rfl (by decide) ?_
          refine yy_iload_n C 1 dX7_holders_26 (pc' := 27) rfl rfl rfl ?_
          refine yy_imul C (v := (nI (40 * i))) dX7_holders_27 (pc' := 28) rfl (pk_mul 40 i) ?_
          refine yy_iload_n C 3 dX7_holders_28 (pc' := 29) rfl rfl rfl ?_
          refine yy_iadd C (v := (nI ((40 * i) + jx))) dX7_holders_29 (pc' := 30) rfl (nI_add (40 * i) jx) ?_
          refine yy_zald C 19 dX7_holders_30 (pc' := 31) rfl rfl (by omega) (by decide) ?_
          refine yy_eqi (hX i (by omega) jx (by omega)) ?_
          refine yb_if_eq C dX7_holders_31 (pc' := 34) rfl (tgt := 38) (by decide) (fun c_31 => ?_) (fun c_31 => ?_)
          · skip
            refine yy_iconst C (v := (nI 0)) dX7_holders_38 (pc' := 39) rfl (by decide) ?_
            refine yy_iadd C (v := (nI (fb_ct (fun z => (X z).testBit jx) i))) dX7_holders_39 (pc' := 40) rfl (nI_add (fb_ct (fun z => (X z).testBit jx) i) 0) ?_
            refine yy_istore_n C (L' := [(2, .int (nI (fb_ct (fun z => (X z).testBit jx) i))), (3, .int (nI i)), (0, .ref (bd 0)), (1, .int (nI jx))]) dX7_holders_40 (pc' := 41) rfl rfl (by decide) rfl ?_
            refine yy_iinc C (v := (nI (i + 1))) (L' := [(3, .int (nI (i + 1))), (2, .int (nI (fb_ct (fun z => (X z).testBit jx) i))), (0, .ref (bd 0)), (1, .int (nI jx))]) 1 dX7_holders_41 (pc' := 44) rfl rfl (nI_add i 1) (by decide) rfl ?_
            refine yy_goto C (tgt := 14) dX7_holders_44 (by decide) ?_
            rw [← ct_f (p := (fun z => (X z).testBit jx)) (i := i) (by simpa [mN, mI, va_up] using c_31)]
            refine yy_loc [1, 0, 2, 3] rfl ?_
            exact ih (i + 1) (by omega) (by omega)
          · skip
            refine yy_iconst C (v := (nI 1)) dX7_holders_34 (pc' := 35) rfl (by decide) ?_
            refine yy_goto C (tgt := 39) dX7_holders_35 (by decide) ?_
            refine yy_iadd C (v := (nI ((fb_ct (fun z => (X z).testBit jx) i) + 1))) dX7_holders_39 (pc' := 40) rfl (nI_add (fb_ct (fun z => (X z).testBit jx) i) 1) ?_
            refine yy_istore_n C (L' := [(2, .int (nI ((fb_ct (fun z => (X z).testBit jx) i) + 1))), (3, .int (nI i)), (0, .ref (bd 0)), (1, .int (nI jx))]) dX7_holders_40 (pc' := 41) rfl rfl (by decide) rfl ?_
            refine yy_iinc C (v := (nI (i + 1))) (L' := [(3, .int (nI (i + 1))), (2, .int (nI ((fb_ct (fun z => (X z).testBit jx) i) + 1))), (0, .ref (bd 0)), (1, .int (nI jx))]) 1 dX7_holders_41 (pc' := 44) rfl rfl (nI_add i 1) (by decide) rfl ?_
            refine yy_goto C (tgt := 14) dX7_holders_44 (by decide) ?_
            rw [← ct_t (p := (fun z => (X z).testBit jx)) (i := i) (by simpa [mN, mI, va_up] using c_31)]
            refine yy_loc [1, 0, 2, 3] rfl ?_
            exact ih (i + 1) (by omega) (by omega)
    refine yy_loc (L' := [(2, .int (nI 0)), (3, .int (nI 0)), (0, .ref (bd 0)), (1, .int (nI jx))]) [1, 0, 2, 3] rfl ?_
    exact lp_14 (5 - 0 + 1) 0 (Nat.zero_le _) (Nat.lt_succ_self _)
  · skip
    have zn1 : inR x (M.1 2) = false := by simpa [mN, va_up] using c_5
    refine yy_iconst C (v := (nI 0)) dX7_holders_8 (pc' := 9) rfl (by decide) ?_
    subst hQ
    exact ye_i C hr (vp_nar_int _) (mN M 0 (cd1 (M.1 2) x)) dX7_holders_9 rfl (by decide) (by decide) ⟨(cd1 (M.1 2) x), by simp [cd1, cd1, zn1], Or.inr ⟨(by simp [cd1, zn1]), rfl⟩⟩

abbrev rX7_request : Room := { frames := 2, cells := 0, slots := 0, locals := 43 }
set_option maxHeartbeats 4000000 in
set_option maxRecDepth 100000 in
theorem mX7_request (l : Launch) (G : gG) (B0 : Nat) (bd : Nat → Nat) (F : va_W) (M : SM) (a d : Int32) (hM : IM M) : Met l yX7_request (Cond.code yX7_request cX7_request 4 (some .int) :: WG) rX7_request (va_Pc [.ref (bd 0), .int a, .int d] (PR G B0 (wM G bd M ++ F))) (va_Qi (fun (r : Int32) (u : SM) => ∃ q : Nat, q = cdReq (M.1 1) (M.1 6) (M.2 15) (wtg (M.1 6) (M.2 20) (M.2 12) (M.2 13) a d) a d ∧ ((q = 0 ∧ u = mN (mN (mI (mI (mI (mI M 12 (upd (M.2 12) (M.1 6) a)) 13 (upd (M.2 13) (M.1 6) d)) 14 (upd (M.2 14) (M.1 6) (nI (M.1 8)))) 20 (upd (M.2 20) (M.1 6) (nI 119))) 0 q) 6 (M.1 6 + 1) ∧ r = nI (M.1 6)) ∨ (¬ q = 0 ∧ u = mN M 0 q))) (fun (u : SM) (t_ : State) => va_P G.1 vwCl (wM G bd u ++ F) t_.heap ∧ va_D (fun q => B0 ≤ q) (wM G bd u ++ F)) (fun q => B0 ≤ q)) rX7_request.cells rX7_request.slots (fun q => B0 ≤ q) := by
  refine met_of RX7 [(0, .ref (bd 0)), (1, .int a), (2, .int d)] rfl (by decide) (Nat.le_of_ble_eq_true rfl) rfl ?_
  intro p e s m args below meth c C hr hnm
  refine yq ?_
  intro QQ hQ
  obtain ⟨j1, j2, j3, j4, j5, j6, j7, j8, jJ, jQ⟩ := id hM
  refine yy_aload_n C 0 dX7_request_0 (pc' := 1) rfl rfl rfl ?_
  refine yy_iload_n C 1 dX7_request_1 (pc' := 2) rfl rfl rfl ?_
  refine yc_i (yr_V C (As := [.int a]) (rest := []) lk_X7_135 cd_X7_noAsker im_X7_noAsker se_X7_noAsker (mX7_noAsker l G B0 bd F (M) a (by exact hM)) ⟨by decide, by decide⟩ ⟨by decide, by decide⟩ 0 rfl rfl rfl rfl (Nat.le_of_ble_eq_true rfl) dX7_request_2) (pc' := 5) rfl (fun r1 _ hw1 => ?_)
  subst hw1
  refine yb_if_eq C dX7_request_5 (pc' := 8) rfl (tgt := 10) (by decide) (fun c_5 => ?_) (fun c_5 => ?_)
  · skip
    have zn1 : inR a (5) = true := by simpa [mN, va_up] using c_5
    obtain ⟨ja, hja, rfl⟩ := inR_of (by omega) zn1
    have eja : ix (nI ja) = ja := ix_lt hja (by omega)
    refine yy_iload_n C 2 dX7_request_10 (pc' := 11) rfl rfl rfl ?_
    refine yy_iconst C (v := (nI 0)) dX7_request_11 (pc' := 12) rfl (by decide) ?_
    refine yy_aload_n C 0 dX7_request_12 (pc' := 13) rfl rfl rfl ?_
    refine yy_get C (v := .int (nI (M.1 1))) fk_X7_82 0 dX7_request_13 (pc' := 16) rfl rfl rfl ?_
    refine yy_iconst C (v := (nI 1)) dX7_request_16 (pc' := 17) rfl (by decide) ?_
    refine yy_isub C (v := ((nI (M.1 1)) - (nI 1))) dX7_request_17 (pc' := 18) rfl rfl ?_
    refine yc_i (yr_S C (As := [.int d, .int (nI 0), .int ((nI (M.1 1)) - (nI 1))]) (rest := []) lk_X7_85 cd_X7_isIn st_X7_isIn (mX7_isIn l G B0 (wM G bd (mN M 0 (cd1 5 (nI ja))) ++ F) d (nI 0) ((nI (M.1 1)) - (nI 1))) ⟨by decide, by decide⟩ ⟨by decide, by decide⟩ rfl rfl (Nat.le_of_ble_eq_true rfl) dX7_request_18) (pc' := 21) rfl (fun r2 _ hw2 => ?_)
    subst hw2
    refine yb_if_ne C dX7_request_21 (pc' := 24) rfl (tgt := 30) (by decide) (fun c_21 => ?_) (fun c_21 => ?_)
    · skip
      have zn2 : inR d (M.1 1) = true := by rw [← inB_R (by omega)]; exact c_21
      refine yy_aload_n C 0 dX7_request_30 (pc' := 31) rfl rfl rfl ?_
      refine yy_get C (v := .ref (bd 16)) fk_X7_59 0 dX7_request_31 (pc' := 34) rfl rfl rfl ?_
      refine yy_iload_n C 1 dX7_request_34 (pc' := 35) rfl rfl rfl ?_
      refine yy_iald C 16 dX7_request_35 (pc' := 36) rfl rfl (by omega) (by decide) ?_
      refine yy_bipush C (v := (nI 100)) dX7_request_36 (pc' := 38) rfl (by decide) ?_
      refine yy_icmp_le C dX7_request_38 (pc' := 41) rfl (tgt := 47) (by decide) (fun c_38 => ?_) (fun c_38 => ?_)
      · skip
        refine yy_aload_n C 0 dX7_request_47 (pc' := 48) rfl rfl rfl ?_
        refine yy_get C (v := .int (nI (M.1 6))) fk_X7_155 0 dX7_request_48 (pc' := 51) rfl rfl rfl ?_
        refine yy_bipush C (v := (nI 20)) dX7_request_51 (pc' := 53) rfl (by decide) ?_
        refine yn_icmp_ne C (by omega) (by decide) dX7_request_53 (pc' := 56) rfl (tgt := 62) (by decide) (fun c_53 => ?_) (fun c_53 => ?_)
        · skip
          refine yy_iconst C (v := (nI 0)) dX7_request_62 (pc' := 63) rfl (by decide) ?_
          refine yy_istore_n C (L' := [(3, .int (nI 0)), (0, .ref (bd 0)), (1, .int (nI ja)), (2, .int d)]) dX7_request_63 (pc' := 64) rfl rfl (by decide) rfl ?_
          have lp_64 : ∀ (f_ : Nat) (i : Nat), (hi : i ≤ M.1 6) → (ha : anyB (fun k => decide (M.2 20 k = nI 119) && decide (M.2 12 k = nI ja) && decide (M.2 13 k = d)) i = false) → M.1 6 - i < f_ → YY p l e rX7_request s m args below meth c G B0 4 QQ 64 [(3, .int (nI i)), (0, .ref (bd 0)), (1, .int (nI ja)), (2, .int d)] [] (wM G bd (mN M 0 (cd1 5 (nI ja))) ++ F) 0 0 := by
            intro f_
            induction f_ with
            | zero => intro i hi ha hf_; exact absurd hf_ (Nat.not_lt_zero _)
            | succ f_ ih =>
              intro i hi ha hf_
              refine yy_iload_n C 0 dX7_request_64 (pc' := 65) rfl rfl rfl ?_
              refine yy_aload_n C 1 dX7_request_65 (pc' := 66) rfl rfl rfl ?_
              refine yy_get C (v := .int (nI (M.1 6))) fk_X7_155 0 dX7_request_66 (pc' := 69) rfl rfl rfl ?_
              refine yn_icmp_ge C (by omega) (by omega) dX7_request_69 (pc' := 72) rfl (tgt := 115) (by decide) (fun c_69 => ?_) (fun c_69 => ?_)
              · skip
                refine yy_aload_n C 1 dX7_request_115 (pc' := 116) rfl rfl rfl ?_
                refine yy_get C (v := .ref (bd 13)) fk_X7_50 0 dX7_request_116 (pc' := 119) rfl rfl rfl ?_
                refine yy_aload_n C 1 dX7_request_119 (pc' := 120) rfl rfl rfl ?_
                refine yy_get C (v := .int (nI (M.1 6))) fk_X7_155 0 dX7_request_120 (pc' := 123) rfl rfl rfl ?_
                refine yy_iload_n C 2 dX7_request_123 (pc' := 124) rfl rfl rfl ?_
                refine yy_iast C (w' := wM G bd (mN (mI M 12 (upd (M.2 12) (M.1 6) (nI ja))) 0 (cd1 5 (nI ja))) ++ F) 13 dX7_request_124 (pc' := 125) rfl rfl (by omega) (by decide) rfl ?_
                refine yy_aload_n C 1 dX7_request_125 (pc' := 126) rfl rfl rfl ?_
                refine yy_get C (v := .ref (bd 14)) fk_X7_53 0 dX7_request_126 (pc' := 129) rfl rfl rfl ?_
                refine yy_aload_n C 1 dX7_request_129 (pc' := 130) rfl rfl rfl ?_
                refine yy_get C (v := .int (nI (M.1 6))) fk_X7_155 0 dX7_request_130 (pc' := 133) rfl rfl rfl ?_
                refine yy_iload_n C 3 dX7_request_133 (pc' := 134) rfl rfl rfl ?_
                refine yy_iast C (w' := wM G bd (mN (mI (mI M 12 (upd (M.2 12) (M.1 6) (nI ja))) 13 (upd (M.2 13) (M.1 6) d)) 0 (cd1 5 (nI ja))) ++ F) 14 dX7_request_134 (pc' := 135) rfl rfl (by omega) (by decide) rfl ?_
                refine yy_aload_n C 1 dX7_request_135 (pc' := 136) rfl rfl rfl ?_
                refine yy_get C (v := .ref (bd 15)) fk_X7_56 0 dX7_request_136 (pc' := 139) rfl rfl rfl ?_
                refine yy_aload_n C 1 dX7_request_139 (pc' := 140) rfl rfl rfl ?_
                refine yy_get C (v := .int (nI (M.1 6))) fk_X7_155 0 dX7_request_140 (pc' := 143) rfl rfl rfl ?_
                refine yy_aload_n C 1 dX7_request_143 (pc' := 144) rfl rfl rfl ?_
                refine yy_get C (v := .int (nI (M.1 8))) fk_X7_106 0 dX7_request_144 (pc' := 147) rfl rfl rfl ?_
                refine yy_iast C (w' := wM G bd (mN (mI (mI (mI M 12 (upd (M.2 12) (M.1 6) (nI ja))) 13 (upd (M.2 13) (M.1 6) d)) 14 (upd (M.2 14) (M.1 6) (nI (M.1 8)))) 0 (cd1 5 (nI ja))) ++ F) 15 dX7_request_147 (pc' := 148) rfl rfl (by omega) (by decide) rfl ?_
                refine yy_aload_n C 1 dX7_request_148 (pc' := 149) rfl rfl rfl ?_
                refine yy_get C (v := .ref (bd 21)) fk_X7_75 0 dX7_request_149 (pc' := 152) rfl rfl rfl ?_
                refine yy_aload_n C 1 dX7_request_152 (pc' := 153) rfl rfl rfl ?_
                refine yy_get C (v := .int (nI (M.1 6))) fk_X7_155 0 dX7_request_153 (pc' := 156) rfl rfl rfl ?_
                refine yy_bipush C (v := (nI 119)) dX7_request_156 (pc' := 158) rfl (by decide) ?_
                refine yy_cast C (w' := wM G bd (mN (mI (mI (mI (mI M 12 (upd (M.2 12) (M.1 6) (nI ja))) 13 (upd (M.2 13) (M.1 6) d)) 14 (upd (M.2 14) (M.1 6) (nI (M.1 8)))) 20 (upd (M.2 20) (M.1 6) (nI 119))) 0 (cd1 5 (nI ja))) ++ F) 21 dX7_request_158 (pc' := 159) rfl rfl (by omega) (by decide) rfl rfl ?_
                refine yy_aload_n C 1 dX7_request_159 (pc' := 160) rfl rfl rfl ?_
                refine yy_dup C dX7_request_160 (pc' := 161) rfl rfl ?_
                refine yy_get C (v := .int (nI (M.1 6))) fk_X7_155 0 dX7_request_161 (pc' := 164) rfl rfl rfl ?_
                refine yy_dup_x1 C dX7_request_164 (pc' := 165) rfl rfl rfl ?_
                refine yy_iconst C (v := (nI 1)) dX7_request_165 (pc' := 166) rfl (by decide) ?_
                refine yy_iadd C (v := (nI ((M.1 6) + 1))) dX7_request_166 (pc' := 167) rfl (nI_add (M.1 6) 1) ?_
                refine yy_put C (w' := wM G bd (mN (mN (mI (mI (mI (mI M 12 (upd (M.2 12) (M.1 6) (nI ja))) 13 (upd (M.2 13) (M.1 6) d)) 14 (upd (M.2 14) (M.1 6) (nI (M.1 8)))) 20 (upd (M.2 20) (M.1 6) (nI 119))) 0 (cd1 5 (nI ja))) 6 ((M.1 6) + 1)) ++ F) fk_X7_155 fpW7 rfl 0 dX7_request_167 (pc' := 170) rfl rfl rfl rfl (Nat.le_of_ble_eq_true rfl) rfl ?_
                subst hQ
                exact ye_i C hr (vp_nar_int _) (mN (mN (mI (mI (mI (mI M 12 (upd (M.2 12) (M.1 6) (nI ja))) 13 (upd (M.2 13) (M.1 6) d)) 14 (upd (M.2 14) (M.1 6) (nI (M.1 8)))) 20 (upd (M.2 20) (M.1 6) (nI 119))) 0 (cd1 5 (nI ja))) 6 ((M.1 6) + 1)) dX7_request_170 rfl (by decide) (by decide) ⟨(cd1 5 (nI ja)), (show (cd1 5 (nI ja)) = 0 by simp [cd1, zn1, eja, zn2]).trans (req_0 hja zn2 c_38 (by omega) (by rw [wtg, ← show i = M.1 6 by omega]; exact ha)).symm, Or.inl ⟨by simp [cd1, zn1, eja, zn2], rfl, rfl⟩⟩
              · skip
                refine yy_aload_n C 1 dX7_request_72 (pc' := 73) rfl rfl rfl ?_
                refine yy_get C (v := .ref (bd 13)) fk_X7_50 0 dX7_request_73 (pc' := 76) rfl rfl rfl ?_
                refine yy_iload_n C 0 dX7_request_76 (pc' := 77) rfl rfl rfl ?_
                refine yy_iald C 13 dX7_request_77 (pc' := 78) rfl rfl (by omega) (by decide) ?_
                refine yy_iload_n C 2 dX7_request_78 (pc' := 79) rfl rfl rfl ?_
                refine yy_icmp_ne C dX7_request_79 (pc' := 82) rfl (tgt := 109) (by decide) (fun c_79 => ?_) (fun c_79 => ?_)
                · skip
                  refine yy_iinc C (v := (nI (i + 1))) (L' := [(3, .int (nI (i + 1))), (0, .ref (bd 0)), (1, .int (nI ja)), (2, .int d)]) 0 dX7_request_109 (pc' := 112) rfl rfl (nI_add i 1) (by decide) rfl ?_
                  refine yy_goto C (tgt := 64) dX7_request_112 (by decide) ?_
                  refine yy_loc [0, 1, 2, 3] rfl ?_
                  exact ih (i + 1) (by omega) (anyB_s ha (by simp [show ¬ M.2 12 i = nI ja from c_79])) (by omega)
                · skip
                  refine yy_aload_n C 1 dX7_request_82 (pc' := 83) rfl rfl rfl ?_
                  refine yy_get C (v := .ref (bd 14)) fk_X7_53 0 dX7_request_83 (pc' := 86) rfl rfl rfl ?_
                  refine yy_iload_n C 0 dX7_request_86 (pc' := 87) rfl rfl rfl ?_
                  refine yy_iald C 14 dX7_request_87 (pc' := 88) rfl rfl (by omega) (by decide) ?_
                  refine yy_iload_n C 3 dX7_request_88 (pc' := 89) rfl rfl rfl ?_
                  refine yy_icmp_ne C dX7_request_89 (pc' := 92) rfl (tgt := 109) (by decide) (fun c_89 => ?_) (fun c_89 => ?_)
                  · skip
                    refine yy_iinc C (v := (nI (i + 1))) (L' := [(3, .int (nI (i + 1))), (0, .ref (bd 0)), (1, .int (nI ja)), (2, .int d)]) 0 dX7_request_109 (pc' := 112) rfl rfl (nI_add i 1) (by decide) rfl ?_
                    refine yy_goto C (tgt := 64) dX7_request_112 (by decide) ?_
                    refine yy_loc [0, 1, 2, 3] rfl ?_
                    exact ih (i + 1) (by omega) (anyB_s ha (by simp [show ¬ M.2 13 i = d from c_89])) (by omega)
                  · skip
                    refine yy_aload_n C 1 dX7_request_92 (pc' := 93) rfl rfl rfl ?_
                    refine yy_get C (v := .ref (bd 21)) fk_X7_75 0 dX7_request_93 (pc' := 96) rfl rfl rfl ?_
                    refine yy_iload_n C 0 dX7_request_96 (pc' := 97) rfl rfl rfl ?_
                    refine yy_cald C 21 dX7_request_97 (pc' := 98) rfl rfl (by omega) (by decide) ?_
                    refine yy_bipush C (v := (nI 119)) dX7_request_98 (pc' := 100) rfl (by decide) ?_
                    refine yy_icmp_ne C dX7_request_100 (pc' := 103) rfl (tgt := 109) (by decide) (fun c_100 => ?_) (fun c_100 => ?_)
                    · skip
                      refine yy_iinc C (v := (nI (i + 1))) (L' := [(3, .int (nI (i + 1))), (0, .ref (bd 0)), (1, .int (nI ja)), (2, .int d)]) 0 dX7_request_109 (pc' := 112) rfl rfl (nI_add i 1) (by decide) rfl ?_
                      refine yy_goto C (tgt := 64) dX7_request_112 (by decide) ?_
                      refine yy_loc [0, 1, 2, 3] rfl ?_
                      exact ih (i + 1) (by omega) (anyB_s ha (by simp [show ¬ M.2 20 i = nI 119 from c_100])) (by omega)
                    · skip
                      refine yy_aload_n C 1 dX7_request_103 (pc' := 104) rfl rfl rfl ?_
                      refine yy_iconst C (v := (nI 4)) dX7_request_104 (pc' := 105) rfl (by decide) ?_
                      refine yc_i (yr_V C (As := [.int (nI 4)]) (rest := []) lk_X7_92 cd_X7_refuse im_X7_refuse se_X7_refuse (mX7_refuse l G B0 bd F (mN M 0 (cd1 5 (nI ja))) 4) ⟨by decide, by decide⟩ ⟨by decide, by decide⟩ 0 rfl rfl rfl rfl (Nat.le_of_ble_eq_true rfl) dX7_request_105) (pc' := 108) rfl (fun r3 _ hw3 => ?_)
                      subst hw3
                      subst hQ
                      exact ye_i C hr (vp_nar_int _) (mN M 0 4) dX7_request_108 rfl (by decide) (by decide) ⟨4, (req_4 hja zn2 c_38 (Or.inr (wtg_t (i := i) (by omega) c_100 c_79 c_89))).symm, Or.inr ⟨by decide, rfl⟩⟩
          refine yy_loc (L' := [(3, .int (nI 0)), (0, .ref (bd 0)), (1, .int (nI ja)), (2, .int d)]) [0, 1, 2, 3] rfl ?_
          exact lp_64 (M.1 6 - 0 + 1) 0 (Nat.zero_le _) rfl (Nat.lt_succ_self _)
        · skip
          refine yy_aload_n C 0 dX7_request_56 (pc' := 57) rfl rfl rfl ?_
          refine yy_iconst C (v := (nI 4)) dX7_request_57 (pc' := 58) rfl (by decide) ?_
          refine yc_i (yr_V C (As := [.int (nI 4)]) (rest := []) lk_X7_92 cd_X7_refuse im_X7_refuse se_X7_refuse (mX7_refuse l G B0 bd F (mN M 0 (cd1 5 (nI ja))) 4) ⟨by decide, by decide⟩ ⟨by decide, by decide⟩ 0 rfl rfl rfl rfl (Nat.le_of_ble_eq_true rfl) dX7_request_58) (pc' := 61) rfl (fun r3 _ hw3 => ?_)
          subst hw3
          subst hQ
          exact ye_i C hr (vp_nar_int _) (mN M 0 4) dX7_request_61 rfl (by decide) (by decide) ⟨4, (req_4 hja zn2 c_38 (Or.inl c_53)).symm, Or.inr ⟨by decide, rfl⟩⟩
      · skip
        refine yy_aload_n C 0 dX7_request_41 (pc' := 42) rfl rfl rfl ?_
        refine yy_iconst C (v := (nI 3)) dX7_request_42 (pc' := 43) rfl (by decide) ?_
        refine yc_i (yr_V C (As := [.int (nI 3)]) (rest := []) lk_X7_92 cd_X7_refuse im_X7_refuse se_X7_refuse (mX7_refuse l G B0 bd F (mN M 0 (cd1 5 (nI ja))) 3) ⟨by decide, by decide⟩ ⟨by decide, by decide⟩ 0 rfl rfl rfl rfl (Nat.le_of_ble_eq_true rfl) dX7_request_43) (pc' := 46) rfl (fun r3 _ hw3 => ?_)
        subst hw3
        subst hQ
        exact ye_i C hr (vp_nar_int _) (mN M 0 3) dX7_request_46 rfl (by decide) (by decide) ⟨3, (req_3 hja zn2 (Int32.not_le.mp c_38)).symm, Or.inr ⟨by decide, rfl⟩⟩
    · skip
      have zn2 : inR d (M.1 1) = false := by rw [← inB_R (by omega)]; exact c_21
      refine yy_aload_n C 0 dX7_request_24 (pc' := 25) rfl rfl rfl ?_
      refine yy_iconst C (v := (nI 2)) dX7_request_25 (pc' := 26) rfl (by decide) ?_
      refine yc_i (yr_V C (As := [.int (nI 2)]) (rest := []) lk_X7_92 cd_X7_refuse im_X7_refuse se_X7_refuse (mX7_refuse l G B0 bd F (mN M 0 (cd1 5 (nI ja))) 2) ⟨by decide, by decide⟩ ⟨by decide, by decide⟩ 0 rfl rfl rfl rfl (Nat.le_of_ble_eq_true rfl) dX7_request_26) (pc' := 29) rfl (fun r3 _ hw3 => ?_)
      subst hw3
      subst hQ
      exact ye_i C hr (vp_nar_int _) (mN M 0 2) dX7_request_29 rfl (by decide) (by decide) ⟨2, by simp [cd1, cdReq, zn1, eja, zn2], Or.inr ⟨(by decide), rfl⟩⟩
  · skip
    have zn1 : inR a (5) = false := by simpa [mN, va_up] using c_5
    refine yy_iconst C (v := (nI 0)) dX7_request_8 (pc' := 9) rfl (by decide) ?_
    subst hQ
    exact ye_i C hr (vp_nar_int _) (mN M 0 (cd1 5 a)) dX7_request_9 rfl (by decide) (by decide) ⟨(cd1 5 a), by simp [cd1, cdReq, zn1], Or.inr ⟨(by simp [cd1, zn1]), rfl⟩⟩

abbrev rX7_withdraw : Room := { frames := 2, cells := 0, slots := 0, locals := 43 }
set_option maxHeartbeats 4000000 in
set_option maxRecDepth 100000 in
theorem mX7_withdraw (l : Launch) (G : gG) (B0 : Nat) (bd : Nat → Nat) (F : va_W) (M : SM) (k : Int32) (hM : IM M) : Met l yX7_withdraw (Cond.code yX7_withdraw cX7_withdraw 4 (some .int) :: WG) rX7_withdraw (va_Pc [.ref (bd 0), .int k] (PR G B0 (wM G bd M ++ F))) (va_Qi (fun (r : Int32) (u : SM) => ∃ q : Nat, q = cdAns (M.1 6) (M.2 20) k ∧ ((q = 0 ∧ ∃ j, k = nI j ∧ j < M.1 6 ∧ u = mN (mI M 20 (upd (M.2 20) j (nI 120))) 0 q ∧ r = nI (fb_ct (fun z => decide (upd (M.2 20) j (nI 120) z = nI 119)) (M.1 6))) ∨ (¬ q = 0 ∧ u = mN M 0 q))) (fun (u : SM) (t_ : State) => va_P G.1 vwCl (wM G bd u ++ F) t_.heap ∧ va_D (fun q => B0 ≤ q) (wM G bd u ++ F)) (fun q => B0 ≤ q)) rX7_withdraw.cells rX7_withdraw.slots (fun q => B0 ≤ q) := by
  refine met_of RX7 [(0, .ref (bd 0)), (1, .int k)] rfl (by decide) (Nat.le_of_ble_eq_true rfl) rfl ?_
  intro p e s m args below meth c C hr hnm
  refine yq ?_
  intro QQ hQ
  obtain ⟨j1, j2, j3, j4, j5, j6, j7, j8, jJ, jQ⟩ := id hM
  refine yy_aload_n C 0 dX7_withdraw_0 (pc' := 1) rfl rfl rfl ?_
  refine yy_iload_n C 1 dX7_withdraw_1 (pc' := 2) rfl rfl rfl ?_
  refine yc_i (yr_V C (As := [.int k]) (rest := []) lk_X7_158 cd_X7_noRequest im_X7_noRequest se_X7_noRequest (mX7_noRequest l G B0 bd F (M) k (by exact hM)) ⟨by decide, by decide⟩ ⟨by decide, by decide⟩ 0 rfl rfl rfl rfl (Nat.le_of_ble_eq_true rfl) dX7_withdraw_2) (pc' := 5) rfl (fun r1 _ hw1 => ?_)
  subst hw1
  refine yb_if_eq C dX7_withdraw_5 (pc' := 8) rfl (tgt := 10) (by decide) (fun c_5 => ?_) (fun c_5 => ?_)
  · skip
    have zn1 : inR k (M.1 6) = true := by simpa [mN, va_up] using c_5
    obtain ⟨jk, hjk, rfl⟩ := inR_of (by omega) zn1
    have ejk : ix (nI jk) = jk := ix_lt hjk (by omega)
    refine yy_aload_n C 0 dX7_withdraw_10 (pc' := 11) rfl rfl rfl ?_
    refine yy_get C (v := .ref (bd 21)) fk_X7_75 0 dX7_withdraw_11 (pc' := 14) rfl rfl rfl ?_
    refine yy_iload_n C 1 dX7_withdraw_14 (pc' := 15) rfl rfl rfl ?_
    refine yy_cald C 21 dX7_withdraw_15 (pc' := 16) rfl rfl (by omega) (by decide) ?_
    refine yy_bipush C (v := (nI 119)) dX7_withdraw_16 (pc' := 18) rfl (by decide) ?_
    refine yy_icmp_eq C dX7_withdraw_18 (pc' := 21) rfl (tgt := 27) (by decide) (fun c_18 => ?_) (fun c_18 => ?_)
    · skip
      refine yy_aload_n C 0 dX7_withdraw_27 (pc' := 28) rfl rfl rfl ?_
      refine yy_get C (v := .ref (bd 21)) fk_X7_75 0 dX7_withdraw_28 (pc' := 31) rfl rfl rfl ?_
      refine yy_iload_n C 1 dX7_withdraw_31 (pc' := 32) rfl rfl rfl ?_
      refine yy_bipush C (v := (nI 120)) dX7_withdraw_32 (pc' := 34) rfl (by decide) ?_
      refine yy_cast C (w' := wM G bd (mN (mI M 20 (upd (M.2 20) jk (nI 120))) 0 (cd1 (M.1 6) (nI jk))) ++ F) 21 dX7_withdraw_34 (pc' := 35) rfl rfl (by omega) (by decide) rfl rfl ?_
      refine yy_iconst C (v := (nI 0)) dX7_withdraw_35 (pc' := 36) rfl (by decide) ?_
      refine yy_istore_n C (L' := [(2, .int (nI 0)), (0, .ref (bd 0)), (1, .int (nI jk))]) dX7_withdraw_36 (pc' := 37) rfl rfl (by decide) rfl ?_
      refine yy_iconst C (v := (nI 0)) dX7_withdraw_37 (pc' := 38) rfl (by decide) ?_
      refine yy_istore_n C (L' := [(3, .int (nI 0)), (2, .int (nI 0)), (0, .ref (bd 0)), (1, .int (nI jk))]) dX7_withdraw_38 (pc' := 39) rfl rfl (by decide) rfl ?_
      have lp_39 : ∀ (f_ : Nat) (i : Nat), (hi : i ≤ M.1 6) → M.1 6 - i < f_ → YY p l e rX7_withdraw s m args below meth c G B0 4 QQ 39 [(2, .int (nI (fb_ct (fun z => decide (upd (M.2 20) jk (nI 120) z = nI 119)) i))), (3, .int (nI i)), (0, .ref (bd 0)), (1, .int (nI jk))] [] (wM G bd (mN (mI M 20 (upd (M.2 20) jk (nI 120))) 0 (cd1 (M.1 6) (nI jk))) ++ F) 0 0 := by
        intro f_
        induction f_ with
        | zero => intro i hi hf_; exact absurd hf_ (Nat.not_lt_zero _)
        | succ f_ ih =>
          intro i hi hf_
          refine yy_iload_n C 1 dX7_withdraw_39 (pc' := 40) rfl rfl rfl ?_
          refine yy_aload_n C 2 dX7_withdraw_40 (pc' := 41) rfl rfl rfl ?_
          refine yy_get C (v := .int (nI (M.1 6))) fk_X7_155 0 dX7_withdraw_41 (pc' := 44) rfl rfl rfl ?_
          refine yn_icmp_ge C (by omega) (by omega) dX7_withdraw_44 (pc' := 47) rfl (tgt := 72) (by decide) (fun c_44 => ?_) (fun c_44 => ?_)
          · skip
            refine yy_iload_n C 0 dX7_withdraw_72 (pc' := 73) rfl rfl rfl ?_
            subst hQ
            exact ye_i C hr (vp_nar_int _) (mN (mI M 20 (upd (M.2 20) jk (nI 120))) 0 (cd1 (M.1 6) (nI jk))) dX7_withdraw_73 rfl (by decide) (by decide) ⟨(cd1 (M.1 6) (nI jk)), (show (cd1 (M.1 6) (nI jk)) = 0 by simp [cd1, zn1, ejk]).trans (ans_0 j6 hjk c_18).symm, Or.inl ⟨by simp [cd1, zn1, ejk], jk, rfl, hjk, rfl, by rw [show i = M.1 6 by omega]⟩⟩
          · skip
            refine yy_iload_n C 0 dX7_withdraw_47 (pc' := 48) rfl rfl rfl ?_
            refine yy_aload_n C 2 dX7_withdraw_48 (pc' := 49) rfl rfl rfl ?_
            refine yy_get C (v := .ref (bd 21)) fk_X7_75 0 dX7_withdraw_49 (pc' := 52) rfl rfl rfl ?_
            refine yy_iload_n C 1 dX7_withdraw_52 (pc' := 53) rfl rfl rfl ?_
            refine yy_cald C 21 dX7_withdraw_53 (pc' := 54) rfl rfl (by omega) (by decide) ?_
            refine yy_bipush C (v := (nI 119)) dX7_withdraw_54 (pc' := 56) rfl (by decide) ?_
            refine yy_icmp_ne C dX7_withdraw_56 (pc' := 59) rfl (tgt := 63) (by decide) (fun c_56 => ?_) (fun c_56 => ?_)
            · skip
              refine yy_iconst C (v := (nI 0)) dX7_withdraw_63 (pc' := 64) rfl (by decide) ?_
              refine yy_iadd C (v := (nI (fb_ct (fun z => decide (upd (M.2 20) jk (nI 120) z = nI 119)) i))) dX7_withdraw_64 (pc' := 65) rfl (nI_add (fb_ct (fun z => decide (upd (M.2 20) jk (nI 120) z = nI 119)) i) 0) ?_
              refine yy_istore_n C (L' := [(2, .int (nI (fb_ct (fun z => decide (upd (M.2 20) jk (nI 120) z = nI 119)) i))), (3, .int (nI i)), (0, .ref (bd 0)), (1, .int (nI jk))]) dX7_withdraw_65 (pc' := 66) rfl rfl (by decide) rfl ?_
              refine yy_iinc C (v := (nI (i + 1))) (L' := [(3, .int (nI (i + 1))), (2, .int (nI (fb_ct (fun z => decide (upd (M.2 20) jk (nI 120) z = nI 119)) i))), (0, .ref (bd 0)), (1, .int (nI jk))]) 1 dX7_withdraw_66 (pc' := 69) rfl rfl (nI_add i 1) (by decide) rfl ?_
              refine yy_goto C (tgt := 39) dX7_withdraw_69 (by decide) ?_
              rw [← ct_f (p := (fun z => decide (upd (M.2 20) jk (nI 120) z = nI 119))) (i := i) (by simpa [mN, mI, va_up] using c_56)]
              refine yy_loc [1, 0, 2, 3] rfl ?_
              exact ih (i + 1) (by omega) (by omega)
            · skip
              refine yy_iconst C (v := (nI 1)) dX7_withdraw_59 (pc' := 60) rfl (by decide) ?_
              refine yy_goto C (tgt := 64) dX7_withdraw_60 (by decide) ?_
              refine yy_iadd C (v := (nI ((fb_ct (fun z => decide (upd (M.2 20) jk (nI 120) z = nI 119)) i) + 1))) dX7_withdraw_64 (pc' := 65) rfl (nI_add (fb_ct (fun z => decide (upd (M.2 20) jk (nI 120) z = nI 119)) i) 1) ?_
              refine yy_istore_n C (L' := [(2, .int (nI ((fb_ct (fun z => decide (upd (M.2 20) jk (nI 120) z = nI 119)) i) + 1))), (3, .int (nI i)), (0, .ref (bd 0)), (1, .int (nI jk))]) dX7_withdraw_65 (pc' := 66) rfl rfl (by decide) rfl ?_
              refine yy_iinc C (v := (nI (i + 1))) (L' := [(3, .int (nI (i + 1))), (2, .int (nI ((fb_ct (fun z => decide (upd (M.2 20) jk (nI 120) z = nI 119)) i) + 1))), (0, .ref (bd 0)), (1, .int (nI jk))]) 1 dX7_withdraw_66 (pc' := 69) rfl rfl (nI_add i 1) (by decide) rfl ?_
              refine yy_goto C (tgt := 39) dX7_withdraw_69 (by decide) ?_
              rw [← ct_t (p := (fun z => decide (upd (M.2 20) jk (nI 120) z = nI 119))) (i := i) (by simpa [mN, mI, va_up] using c_56)]
              refine yy_loc [1, 0, 2, 3] rfl ?_
              exact ih (i + 1) (by omega) (by omega)
      refine yy_loc (L' := [(2, .int (nI 0)), (3, .int (nI 0)), (0, .ref (bd 0)), (1, .int (nI jk))]) [1, 0, 2, 3] rfl ?_
      exact lp_39 (M.1 6 - 0 + 1) 0 (Nat.zero_le _) (Nat.lt_succ_self _)
    · skip
      refine yy_aload_n C 0 dX7_withdraw_21 (pc' := 22) rfl rfl rfl ?_
      refine yy_iconst C (v := (nI 2)) dX7_withdraw_22 (pc' := 23) rfl (by decide) ?_
      refine yc_i (yr_V C (As := [.int (nI 2)]) (rest := []) lk_X7_92 cd_X7_refuse im_X7_refuse se_X7_refuse (mX7_refuse l G B0 bd F (mN M 0 (cd1 (M.1 6) (nI jk))) 2) ⟨by decide, by decide⟩ ⟨by decide, by decide⟩ 0 rfl rfl rfl rfl (Nat.le_of_ble_eq_true rfl) dX7_withdraw_23) (pc' := 26) rfl (fun r2 _ hw2 => ?_)
      subst hw2
      subst hQ
      exact ye_i C hr (vp_nar_int _) (mN M 0 2) dX7_withdraw_26 rfl (by decide) (by decide) ⟨2, (ans_2 j6 hjk c_18).symm, Or.inr ⟨by decide, rfl⟩⟩
  · skip
    have zn1 : inR k (M.1 6) = false := by simpa [mN, va_up] using c_5
    refine yy_iconst C (v := (nI 0)) dX7_withdraw_8 (pc' := 9) rfl (by decide) ?_
    subst hQ
    exact ye_i C hr (vp_nar_int _) (mN M 0 (cd1 (M.1 6) k)) dX7_withdraw_9 rfl (by decide) (by decide) ⟨(cd1 (M.1 6) k), by simp [cd1, cdAns, zn1], Or.inr ⟨(by simp [cd1, zn1]), rfl⟩⟩

abbrev rX7_answeredShare : Room := { frames := 0, cells := 0, slots := 0, locals := 0 }
set_option maxHeartbeats 4000000 in
set_option maxRecDepth 100000 in
theorem mX7_answeredShare (l : Launch) (G : gG) (B0 : Nat) (bd : Nat → Nat) (F : va_W) (M : SM) (hM : IM M) : Met l yX7_answeredShare (Cond.code yX7_answeredShare cX7_answeredShare 3 (some .float) :: WG) rX7_answeredShare (va_Pc [.ref (bd 0)] (PR G B0 (wM G bd M ++ F))) (va_Qf (fun (r : UInt32) (u : SM) => ∃ q : Nat, q = cdShare (M.1 6) ∧ ((q = 0 ∧ u = mN M 0 q ∧ r = shareF (fb_ct (fun z => decide (M.2 20 z = nI 97)) (M.1 6)) (M.1 6)) ∨ (¬ q = 0 ∧ u = mN M 0 q))) (fun (u : SM) (t_ : State) => va_P G.1 vwCl (wM G bd u ++ F) t_.heap ∧ va_D (fun q => B0 ≤ q) (wM G bd u ++ F)) (fun q => B0 ≤ q)) rX7_answeredShare.cells rX7_answeredShare.slots (fun q => B0 ≤ q) := by
  refine met_of RX7 [(0, .ref (bd 0))] rfl (by decide) (Nat.le_of_ble_eq_true rfl) rfl ?_
  intro p e s m args below meth c C hr hnm
  refine yq ?_
  intro QQ hQ
  obtain ⟨j1, j2, j3, j4, j5, j6, j7, j8, jJ, jQ⟩ := id hM
  refine yy_iconst C (v := (nI 0)) dX7_answeredShare_0 (pc' := 1) rfl (by decide) ?_
  refine yy_istore_n C (L' := [(1, .int (nI 0)), (0, .ref (bd 0))]) dX7_answeredShare_1 (pc' := 2) rfl rfl (by decide) rfl ?_
  refine yy_iconst C (v := (nI 0)) dX7_answeredShare_2 (pc' := 3) rfl (by decide) ?_
  refine yy_istore_n C (L' := [(2, .int (nI 0)), (1, .int (nI 0)), (0, .ref (bd 0))]) dX7_answeredShare_3 (pc' := 4) rfl rfl (by decide) rfl ?_
  have lp_4 : ∀ (f_ : Nat) (i : Nat), (hi : i ≤ M.1 6) → M.1 6 - i < f_ → YY p l e rX7_answeredShare s m args below meth c G B0 3 QQ 4 [(1, .int (nI (fb_ct (fun z => decide (M.2 20 z = nI 97)) i))), (2, .int (nI i)), (0, .ref (bd 0))] [] (wM G bd M ++ F) 0 0 := by
    intro f_
    induction f_ with
    | zero => intro i hi hf_; exact absurd hf_ (Nat.not_lt_zero _)
    | succ f_ ih =>
      intro i hi hf_
      refine yy_iload_n C 1 dX7_answeredShare_4 (pc' := 5) rfl rfl rfl ?_
      refine yy_aload_n C 2 dX7_answeredShare_5 (pc' := 6) rfl rfl rfl ?_
      refine yy_get C (v := .int (nI (M.1 6))) fk_X7_155 0 dX7_answeredShare_6 (pc' := 9) rfl rfl rfl ?_
      refine yn_icmp_ge C (by omega) (by omega) dX7_answeredShare_9 (pc' := 12) rfl (tgt := 37) (by decide) (fun c_9 => ?_) (fun c_9 => ?_)
      · skip
        obtain rfl : i = M.1 6 := by omega
        refine yy_aload_n C 2 dX7_answeredShare_37 (pc' := 38) rfl rfl rfl ?_
        refine yy_aload_n C 2 dX7_answeredShare_38 (pc' := 39) rfl rfl rfl ?_
        refine yy_get C (v := .int (nI (M.1 6))) fk_X7_155 0 dX7_answeredShare_39 (pc' := 42) rfl rfl rfl ?_
        refine yy_if_ne C dX7_answeredShare_42 (pc' := 45) rfl (tgt := 49) (by decide) (fun c_42 => ?_) (fun c_42 => ?_)
        · skip
          refine yy_iconst C (v := (nI 0)) dX7_answeredShare_49 (pc' := 50) rfl (by decide) ?_
          refine yy_put C (w' := wM G bd (mN M 0 0) ++ F) fk_X7_79 fpW7 rfl 0 dX7_answeredShare_50 (pc' := 53) rfl rfl rfl rfl (Nat.le_of_ble_eq_true rfl) rfl ?_
          refine yy_aload_n C 2 dX7_answeredShare_53 (pc' := 54) rfl rfl rfl ?_
          refine yy_get C (v := .int (nI (M.1 6))) fk_X7_155 0 dX7_answeredShare_54 (pc' := 57) rfl rfl rfl ?_
          refine yy_if_ne C dX7_answeredShare_57 (pc' := 60) rfl (tgt := 64) (by decide) (fun c_57 => ?_) (fun c_57 => ?_)
          · skip
            have hq0 : 0 < M.1 6 := by
              rcases Nat.eq_zero_or_pos (M.1 6) with hz | hz
              · rw [hz] at c_57; exact absurd rfl c_57
              · exact hz
            refine yy_iload_n C 0 dX7_answeredShare_64 (pc' := 65) rfl rfl rfl ?_
            refine yy_i2f C dX7_answeredShare_65 (pc' := 66) rfl ?_
            refine yy_aload_n C 2 dX7_answeredShare_66 (pc' := 67) rfl rfl rfl ?_
            refine yy_get C (v := .int (nI (M.1 6))) fk_X7_155 0 dX7_answeredShare_67 (pc' := 70) rfl rfl rfl ?_
            refine yy_i2f C dX7_answeredShare_70 (pc' := 71) rfl ?_
            refine yy_fdiv C dX7_answeredShare_71 (pc' := 72) rfl (share_ok _ (Nat.lt_of_le_of_lt (fb_ct_le _ _) (by omega)) _ (by omega) hq0) ?_
            subst hQ
            exact ye_f C hr (mN M 0 0) dX7_answeredShare_72 rfl (by decide) (by decide) ⟨0, by rw [cdShare, if_neg (by omega)], Or.inl ⟨rfl, rfl, rfl⟩⟩
          · skip
            exact absurd c_57 c_42
        · skip
          refine yy_iconst C (v := (nI 1)) dX7_answeredShare_45 (pc' := 46) rfl (by decide) ?_
          refine yy_goto C (tgt := 50) dX7_answeredShare_46 (by decide) ?_
          refine yy_put C (w' := wM G bd (mN M 0 1) ++ F) fk_X7_79 fpW7 rfl 0 dX7_answeredShare_50 (pc' := 53) rfl rfl rfl rfl (Nat.le_of_ble_eq_true rfl) rfl ?_
          refine yy_aload_n C 2 dX7_answeredShare_53 (pc' := 54) rfl rfl rfl ?_
          refine yy_get C (v := .int (nI (M.1 6))) fk_X7_155 0 dX7_answeredShare_54 (pc' := 57) rfl rfl rfl ?_
          refine yy_if_ne C dX7_answeredShare_57 (pc' := 60) rfl (tgt := 64) (by decide) (fun c_57 => ?_) (fun c_57 => ?_)
          · skip
            exact absurd c_42 c_57
          · skip
            refine yy_fconst0 C dX7_answeredShare_60 (pc' := 61) rfl ?_
            refine yy_goto C (tgt := 72) dX7_answeredShare_61 (by decide) ?_
            subst hQ
            exact ye_f C hr (mN M 0 1) dX7_answeredShare_72 rfl (by decide) (by decide) ⟨1, by rw [cdShare, if_pos (nI0 (by omega) c_57)], Or.inr ⟨by decide, rfl⟩⟩
      · skip
        refine yy_iload_n C 0 dX7_answeredShare_12 (pc' := 13) rfl rfl rfl ?_
        refine yy_aload_n C 2 dX7_answeredShare_13 (pc' := 14) rfl rfl rfl ?_
        refine yy_get C (v := .ref (bd 21)) fk_X7_75 0 dX7_answeredShare_14 (pc' := 17) rfl rfl rfl ?_
        refine yy_iload_n C 1 dX7_answeredShare_17 (pc' := 18) rfl rfl rfl ?_
        refine yy_cald C 21 dX7_answeredShare_18 (pc' := 19) rfl rfl (by omega) (by decide) ?_
        refine yy_bipush C (v := (nI 97)) dX7_answeredShare_19 (pc' := 21) rfl (by decide) ?_
        refine yy_icmp_ne C dX7_answeredShare_21 (pc' := 24) rfl (tgt := 28) (by decide) (fun c_21 => ?_) (fun c_21 => ?_)
        · skip
          refine yy_iconst C (v := (nI 0)) dX7_answeredShare_28 (pc' := 29) rfl (by decide) ?_
          refine yy_iadd C (v := (nI (fb_ct (fun z => decide (M.2 20 z = nI 97)) i))) dX7_answeredShare_29 (pc' := 30) rfl (nI_add (fb_ct (fun z => decide (M.2 20 z = nI 97)) i) 0) ?_
          refine yy_istore_n C (L' := [(1, .int (nI (fb_ct (fun z => decide (M.2 20 z = nI 97)) i))), (2, .int (nI i)), (0, .ref (bd 0))]) dX7_answeredShare_30 (pc' := 31) rfl rfl (by decide) rfl ?_
          refine yy_iinc C (v := (nI (i + 1))) (L' := [(2, .int (nI (i + 1))), (1, .int (nI (fb_ct (fun z => decide (M.2 20 z = nI 97)) i))), (0, .ref (bd 0))]) 1 dX7_answeredShare_31 (pc' := 34) rfl rfl (nI_add i 1) (by decide) rfl ?_
          refine yy_goto C (tgt := 4) dX7_answeredShare_34 (by decide) ?_
          rw [← ct_f (p := (fun z => decide (M.2 20 z = nI 97))) (i := i) (by simpa [mN, mI, va_up] using c_21)]
          refine yy_loc [1, 0, 2] rfl ?_
          exact ih (i + 1) (by omega) (by omega)
        · skip
          refine yy_iconst C (v := (nI 1)) dX7_answeredShare_24 (pc' := 25) rfl (by decide) ?_
          refine yy_goto C (tgt := 29) dX7_answeredShare_25 (by decide) ?_
          refine yy_iadd C (v := (nI ((fb_ct (fun z => decide (M.2 20 z = nI 97)) i) + 1))) dX7_answeredShare_29 (pc' := 30) rfl (nI_add (fb_ct (fun z => decide (M.2 20 z = nI 97)) i) 1) ?_
          refine yy_istore_n C (L' := [(1, .int (nI ((fb_ct (fun z => decide (M.2 20 z = nI 97)) i) + 1))), (2, .int (nI i)), (0, .ref (bd 0))]) dX7_answeredShare_30 (pc' := 31) rfl rfl (by decide) rfl ?_
          refine yy_iinc C (v := (nI (i + 1))) (L' := [(2, .int (nI (i + 1))), (1, .int (nI ((fb_ct (fun z => decide (M.2 20 z = nI 97)) i) + 1))), (0, .ref (bd 0))]) 1 dX7_answeredShare_31 (pc' := 34) rfl rfl (nI_add i 1) (by decide) rfl ?_
          refine yy_goto C (tgt := 4) dX7_answeredShare_34 (by decide) ?_
          rw [← ct_t (p := (fun z => decide (M.2 20 z = nI 97))) (i := i) (by simpa [mN, mI, va_up] using c_21)]
          refine yy_loc [1, 0, 2] rfl ?_
          exact ih (i + 1) (by omega) (by omega)
  refine yy_loc (L' := [(1, .int (nI 0)), (2, .int (nI 0)), (0, .ref (bd 0))]) [1, 0, 2] rfl ?_
  exact lp_4 (M.1 6 - 0 + 1) 0 (Nat.zero_le _) (Nat.lt_succ_self _)

abbrev rX7_addJoin : Room := { frames := 2, cells := 0, slots := 0, locals := 43 }
set_option maxHeartbeats 4000000 in
set_option maxRecDepth 100000 in
theorem mX7_addJoin (l : Launch) (G : gG) (B0 : Nat) (bd : Nat → Nat) (F : va_W) (M : SM) (a b t : Int32) (X : Nat → Nat) (hX : ∀ i, i < 5 → rowB (M.2 18) (40 * i) 40 (X i)) (hM : IM M) : Met l yX7_addJoin (Cond.code yX7_addJoin cX7_addJoin 5 (some .int) :: WG) rX7_addJoin (va_Pc [.ref (bd 0), .int a, .int b, .int t] (PR G B0 (wM G bd M ++ F))) (va_Qi (fun (r : Int32) (u : SM) => ∃ q : Nat, q = cdAddJoin (M.1 2) (M.1 5) a b t ∧ ((q = 0 ∧ ∃ (j1_ j2_ j3_ : Nat) (h : Nat → Int32), (a = nI j1_ ∧ b = nI j2_ ∧ t = nI j3_) ∧ (j1_ < M.1 2 ∧ j2_ < M.1 2 ∧ j3_ < M.1 2) ∧ (∀ z, z < 5 → rowB h (40 * z) 40 (cloM (jnM M j1_ j2_ j3_) (X z))) ∧ u = mN (mN (mI (mI (mI (mI M 9 (upd (M.2 9) (M.1 5) (nI j1_))) 10 (upd (M.2 10) (M.1 5) (nI j2_))) 11 (upd (M.2 11) (M.1 5) (nI j3_))) 18 h) 0 q) 5 (M.1 5 + 1) ∧ r = nI (M.1 5)) ∨ (¬ q = 0 ∧ u = mN M 0 q))) (fun (u : SM) (t_ : State) => va_P G.1 vwCl (wM G bd u ++ F) t_.heap ∧ va_D (fun q => B0 ≤ q) (wM G bd u ++ F)) (fun q => B0 ≤ q)) rX7_addJoin.cells rX7_addJoin.slots (fun q => B0 ≤ q) := by
  refine met_of RX7 [(0, .ref (bd 0)), (1, .int a), (2, .int b), (3, .int t)] rfl (by decide) (Nat.le_of_ble_eq_true rfl) rfl ?_
  intro p e s m args below meth c C hr hnm
  refine yq ?_
  intro QQ hQ
  obtain ⟨j1, j2, j3, j4, j5, j6, j7, j8, jJ, jQ⟩ := id hM
  refine yy_aload_n C 0 dX7_addJoin_0 (pc' := 1) rfl rfl rfl ?_
  refine yy_iload_n C 1 dX7_addJoin_1 (pc' := 2) rfl rfl rfl ?_
  refine yc_i (yr_V C (As := [.int a]) (rest := []) lk_X7_100 cd_X7_noLine im_X7_noLine se_X7_noLine (mX7_noLine l G B0 bd F (M) a (by exact hM)) ⟨by decide, by decide⟩ ⟨by decide, by decide⟩ 0 rfl rfl rfl rfl (Nat.le_of_ble_eq_true rfl) dX7_addJoin_2) (pc' := 5) rfl (fun r1 _ hw1 => ?_)
  subst hw1
  refine yb_if_ne C dX7_addJoin_5 (pc' := 8) rfl (tgt := 24) (by decide) (fun c_5 => ?_) (fun c_5 => ?_)
  · skip
    have zn1 : inR a (M.1 2) = false := by simpa [mN, va_up] using c_5
    refine yy_iconst C (v := (nI 0)) dX7_addJoin_24 (pc' := 25) rfl (by decide) ?_
    subst hQ
    exact ye_i C hr (vp_nar_int _) (mN M 0 (cd1 (M.1 2) a)) dX7_addJoin_25 rfl (by decide) (by decide) ⟨(cd1 (M.1 2) a), by simp [cd1, cdAddJoin, zn1], Or.inr ⟨(by simp [cd1, zn1]), rfl⟩⟩
  · skip
    have zn1 : inR a (M.1 2) = true := by simpa [mN, va_up] using c_5
    obtain ⟨ja, hja, rfl⟩ := inR_of (by omega) zn1
    have eja : ix (nI ja) = ja := ix_lt hja (by omega)
    refine yy_aload_n C 0 dX7_addJoin_8 (pc' := 9) rfl rfl rfl ?_
    refine yy_iload_n C 2 dX7_addJoin_9 (pc' := 10) rfl rfl rfl ?_
    refine yc_i (yr_V C (As := [.int b]) (rest := []) lk_X7_100 cd_X7_noLine im_X7_noLine se_X7_noLine (mX7_noLine l G B0 bd F (mN M 0 (cd1 (M.1 2) (nI ja))) b (by exact hM)) ⟨by decide, by decide⟩ ⟨by decide, by decide⟩ 0 rfl rfl rfl rfl (Nat.le_of_ble_eq_true rfl) dX7_addJoin_10) (pc' := 13) rfl (fun r2 _ hw2 => ?_)
    subst hw2
    refine yb_if_ne C dX7_addJoin_13 (pc' := 16) rfl (tgt := 24) (by decide) (fun c_13 => ?_) (fun c_13 => ?_)
    · skip
      have zn2 : inR b (M.1 2) = false := by simpa [mN, va_up] using c_13
      refine yy_iconst C (v := (nI 0)) dX7_addJoin_24 (pc' := 25) rfl (by decide) ?_
      subst hQ
      exact ye_i C hr (vp_nar_int _) (mN M 0 (cd1 (M.1 2) b)) dX7_addJoin_25 rfl (by decide) (by decide) ⟨(cd1 (M.1 2) b), by simp [cd1, cdAddJoin, zn1, eja, zn2], Or.inr ⟨(by simp [cd1, zn1, eja, zn2]), rfl⟩⟩
    · skip
      have zn2 : inR b (M.1 2) = true := by simpa [mN, va_up] using c_13
      obtain ⟨jb, hjb, rfl⟩ := inR_of (by omega) zn2
      have ejb : ix (nI jb) = jb := ix_lt hjb (by omega)
      refine yy_aload_n C 0 dX7_addJoin_16 (pc' := 17) rfl rfl rfl ?_
      refine yy_iload_n C 3 dX7_addJoin_17 (pc' := 18) rfl rfl rfl ?_
      refine yc_i (yr_V C (As := [.int t]) (rest := []) lk_X7_100 cd_X7_noLine im_X7_noLine se_X7_noLine (mX7_noLine l G B0 bd F (mN M 0 (cd1 (M.1 2) (nI jb))) t (by exact hM)) ⟨by decide, by decide⟩ ⟨by decide, by decide⟩ 0 rfl rfl rfl rfl (Nat.le_of_ble_eq_true rfl) dX7_addJoin_18) (pc' := 21) rfl (fun r3 _ hw3 => ?_)
      subst hw3
      refine yb_if_eq C dX7_addJoin_21 (pc' := 24) rfl (tgt := 26) (by decide) (fun c_21 => ?_) (fun c_21 => ?_)
      · skip
        have zn3 : inR t (M.1 2) = true := by simpa [mN, va_up] using c_21
        obtain ⟨jt, hjt, rfl⟩ := inR_of (by omega) zn3
        have ejt : ix (nI jt) = jt := ix_lt hjt (by omega)
        refine yy_iload_n C 1 dX7_addJoin_26 (pc' := 27) rfl rfl rfl ?_
        refine yy_iload_n C 2 dX7_addJoin_27 (pc' := 28) rfl rfl rfl ?_
        refine yn_icmp_eq C (by omega) (by omega) dX7_addJoin_28 (pc' := 31) rfl (tgt := 41) (by decide) (fun c_28 => ?_) (fun c_28 => ?_)
        · skip
          refine yy_aload_n C 0 dX7_addJoin_41 (pc' := 42) rfl rfl rfl ?_
          refine yy_iconst C (v := (nI 2)) dX7_addJoin_42 (pc' := 43) rfl (by decide) ?_
          refine yc_i (yr_V C (As := [.int (nI 2)]) (rest := []) lk_X7_92 cd_X7_refuse im_X7_refuse se_X7_refuse (mX7_refuse l G B0 bd F (mN M 0 (cd1 (M.1 2) (nI jt))) 2) ⟨by decide, by decide⟩ ⟨by decide, by decide⟩ 0 rfl rfl rfl rfl (Nat.le_of_ble_eq_true rfl) dX7_addJoin_43) (pc' := 46) rfl (fun r4 _ hw4 => ?_)
          subst hw4
          subst hQ
          exact ye_i C hr (vp_nar_int _) (mN M 0 2) dX7_addJoin_46 rfl (by decide) (by decide) ⟨2, by rw [cdAddJoin, if_neg (by simp [zn1, zn2, zn3]), if_pos (by simp [c_28])], Or.inr ⟨by decide, rfl⟩⟩
        · skip
          refine yy_iload_n C 1 dX7_addJoin_31 (pc' := 32) rfl rfl rfl ?_
          refine yy_iload_n C 3 dX7_addJoin_32 (pc' := 33) rfl rfl rfl ?_
          refine yn_icmp_eq C (by omega) (by omega) dX7_addJoin_33 (pc' := 36) rfl (tgt := 41) (by decide) (fun c_33 => ?_) (fun c_33 => ?_)
          · skip
            refine yy_aload_n C 0 dX7_addJoin_41 (pc' := 42) rfl rfl rfl ?_
            refine yy_iconst C (v := (nI 2)) dX7_addJoin_42 (pc' := 43) rfl (by decide) ?_
            refine yc_i (yr_V C (As := [.int (nI 2)]) (rest := []) lk_X7_92 cd_X7_refuse im_X7_refuse se_X7_refuse (mX7_refuse l G B0 bd F (mN M 0 (cd1 (M.1 2) (nI jt))) 2) ⟨by decide, by decide⟩ ⟨by decide, by decide⟩ 0 rfl rfl rfl rfl (Nat.le_of_ble_eq_true rfl) dX7_addJoin_43) (pc' := 46) rfl (fun r4 _ hw4 => ?_)
            subst hw4
            subst hQ
            exact ye_i C hr (vp_nar_int _) (mN M 0 2) dX7_addJoin_46 rfl (by decide) (by decide) ⟨2, by rw [cdAddJoin, if_neg (by simp [zn1, zn2, zn3]), if_pos (by simp [c_33])], Or.inr ⟨by decide, rfl⟩⟩
          · skip
            refine yy_iload_n C 2 dX7_addJoin_36 (pc' := 37) rfl rfl rfl ?_
            refine yy_iload_n C 3 dX7_addJoin_37 (pc' := 38) rfl rfl rfl ?_
            refine yn_icmp_ne C (by omega) (by omega) dX7_addJoin_38 (pc' := 41) rfl (tgt := 47) (by decide) (fun c_38 => ?_) (fun c_38 => ?_)
            · skip
              refine yy_aload_n C 0 dX7_addJoin_47 (pc' := 48) rfl rfl rfl ?_
              refine yy_get C (v := .int (nI (M.1 5))) fk_X7_128 0 dX7_addJoin_48 (pc' := 51) rfl rfl rfl ?_
              refine yy_bipush C (v := (nI 10)) dX7_addJoin_51 (pc' := 53) rfl (by decide) ?_
              refine yn_icmp_ne C (by omega) (by decide) dX7_addJoin_53 (pc' := 56) rfl (tgt := 62) (by decide) (fun c_53 => ?_) (fun c_53 => ?_)
              · skip
                have hM2 : IM (jnM M ja jb jt) := IM_jn hM (by omega) hja hjb hjt
                refine yy_aload_n C 0 dX7_addJoin_62 (pc' := 63) rfl rfl rfl ?_
                refine yy_get C (v := .ref (bd 10)) fk_X7_41 0 dX7_addJoin_63 (pc' := 66) rfl rfl rfl ?_
                refine yy_aload_n C 0 dX7_addJoin_66 (pc' := 67) rfl rfl rfl ?_
                refine yy_get C (v := .int (nI (M.1 5))) fk_X7_128 0 dX7_addJoin_67 (pc' := 70) rfl rfl rfl ?_
                refine yy_iload_n C 1 dX7_addJoin_70 (pc' := 71) rfl rfl rfl ?_
                refine yy_iast C (w' := wM G bd (mN (mI M 9 (upd (M.2 9) (M.1 5) (nI ja))) 0 (cd1 (M.1 2) (nI jt))) ++ F) 10 dX7_addJoin_71 (pc' := 72) rfl rfl (by omega) (by decide) rfl ?_
                refine yy_aload_n C 0 dX7_addJoin_72 (pc' := 73) rfl rfl rfl ?_
                refine yy_get C (v := .ref (bd 11)) fk_X7_44 0 dX7_addJoin_73 (pc' := 76) rfl rfl rfl ?_
                refine yy_aload_n C 0 dX7_addJoin_76 (pc' := 77) rfl rfl rfl ?_
                refine yy_get C (v := .int (nI (M.1 5))) fk_X7_128 0 dX7_addJoin_77 (pc' := 80) rfl rfl rfl ?_
                refine yy_iload_n C 2 dX7_addJoin_80 (pc' := 81) rfl rfl rfl ?_
                refine yy_iast C (w' := wM G bd (mN (mI (mI M 9 (upd (M.2 9) (M.1 5) (nI ja))) 10 (upd (M.2 10) (M.1 5) (nI jb))) 0 (cd1 (M.1 2) (nI jt))) ++ F) 11 dX7_addJoin_81 (pc' := 82) rfl rfl (by omega) (by decide) rfl ?_
                refine yy_aload_n C 0 dX7_addJoin_82 (pc' := 83) rfl rfl rfl ?_
                refine yy_get C (v := .ref (bd 12)) fk_X7_47 0 dX7_addJoin_83 (pc' := 86) rfl rfl rfl ?_
                refine yy_aload_n C 0 dX7_addJoin_86 (pc' := 87) rfl rfl rfl ?_
                refine yy_get C (v := .int (nI (M.1 5))) fk_X7_128 0 dX7_addJoin_87 (pc' := 90) rfl rfl rfl ?_
                refine yy_iload_n C 3 dX7_addJoin_90 (pc' := 91) rfl rfl rfl ?_
                refine yy_iast C (w' := wM G bd (mN (mI (mI (mI M 9 (upd (M.2 9) (M.1 5) (nI ja))) 10 (upd (M.2 10) (M.1 5) (nI jb))) 11 (upd (M.2 11) (M.1 5) (nI jt))) 0 (cd1 (M.1 2) (nI jt))) ++ F) 12 dX7_addJoin_91 (pc' := 92) rfl rfl (by omega) (by decide) rfl ?_
                refine yy_aload_n C 0 dX7_addJoin_92 (pc' := 93) rfl rfl rfl ?_
                refine yy_dup C dX7_addJoin_93 (pc' := 94) rfl rfl ?_
                refine yy_get C (v := .int (nI (M.1 5))) fk_X7_128 0 dX7_addJoin_94 (pc' := 97) rfl rfl rfl ?_
                refine yy_iconst C (v := (nI 1)) dX7_addJoin_97 (pc' := 98) rfl (by decide) ?_
                refine yy_iadd C (v := (nI ((M.1 5) + 1))) dX7_addJoin_98 (pc' := 99) rfl (nI_add (M.1 5) 1) ?_
                refine yy_put C (w' := wM G bd (mN (mN (mI (mI (mI M 9 (upd (M.2 9) (M.1 5) (nI ja))) 10 (upd (M.2 10) (M.1 5) (nI jb))) 11 (upd (M.2 11) (M.1 5) (nI jt))) 0 (cd1 (M.1 2) (nI jt))) 5 ((M.1 5) + 1)) ++ F) fk_X7_128 fpW7 rfl 0 dX7_addJoin_99 (pc' := 102) rfl rfl rfl rfl (Nat.le_of_ble_eq_true rfl) rfl ?_
                refine yy_iconst C (v := (nI 0)) dX7_addJoin_102 (pc' := 103) rfl (by decide) ?_
                refine yy_istore C (L' := [(4, .int (nI 0)), (0, .ref (bd 0)), (1, .int (nI ja)), (2, .int (nI jb)), (3, .int (nI jt))]) dX7_addJoin_103 (pc' := 105) rfl (by decide) rfl ?_
                have lp_105 : ∀ (f_ : Nat) (i : Nat) (h : Nat → Int32), (hi : i ≤ 5) → (hA : ∀ z, z < i → rowB h (40 * z) 40 (cloM (jnM M ja jb jt) (X z))) → (hB : ∀ z, i ≤ z → z < 5 → rowB h (40 * z) 40 (X z)) → 5 - i < f_ → YY p l e rX7_addJoin s m args below meth c G B0 5 QQ 105 [(4, .int (nI i)), (0, .ref (bd 0)), (1, .int (nI ja)), (2, .int (nI jb)), (3, .int (nI jt))] [] (wM G bd (mN (mN (mI (mI (mI (mI M 9 (upd (M.2 9) (M.1 5) (nI ja))) 10 (upd (M.2 10) (M.1 5) (nI jb))) 11 (upd (M.2 11) (M.1 5) (nI jt))) 18 h) 0 (cd1 (M.1 2) (nI jt))) 5 ((M.1 5) + 1)) ++ F) 0 0 := by
                  intro f_
                  induction f_ with
                  | zero => intro i h hi hA hB hf_; exact absurd hf_ (Nat.not_lt_zero _)
                  | succ f_ ih =>
                    intro i h hi hA hB hf_
                    refine yy_iload C 0 dX7_addJoin_105 (pc' := 107) rfl rfl ?_
                    refine yy_iconst C (v := (nI 5)) dX7_addJoin_107 (pc' := 108) rfl (by decide) ?_
                    refine yn_icmp_ge C (by omega) (by decide) dX7_addJoin_108 (pc' := 111) rfl (tgt := 123) (by decide) (fun c_108 => ?_) (fun c_108 => ?_)
                    · skip
                      refine yy_aload_n C 1 dX7_addJoin_123 (pc' := 124) rfl rfl rfl ?_
                      refine yy_get C (v := .int (nI ((M.1 5) + 1))) fk_X7_128 0 dX7_addJoin_124 (pc' := 127) rfl rfl rfl ?_
                      refine yy_iconst C (v := (nI 1)) dX7_addJoin_127 (pc' := 128) rfl (by decide) ?_
                      refine yy_isub C (v := (nI (M.1 5))) dX7_addJoin_128 (pc' := 129) rfl (pk_sub (show 1 ≤ M.1 5 + 1 by omega)) ?_
                      subst hQ
                      exact ye_i C hr (vp_nar_int _) (mN (mN (mI (mI (mI (mI M 9 (upd (M.2 9) (M.1 5) (nI ja))) 10 (upd (M.2 10) (M.1 5) (nI jb))) 11 (upd (M.2 11) (M.1 5) (nI jt))) 18 h) 0 (cd1 (M.1 2) (nI jt))) 5 ((M.1 5) + 1)) dX7_addJoin_129 rfl (by decide) (by decide) ⟨(cd1 (M.1 2) (nI jt)), by rw [cdAddJoin, if_neg (by simp [zn1, zn2, zn3]), if_neg (by simp [join_ne c_28 c_33 c_38 hja hjb hjt (by omega)]), if_neg c_53]; simp [cd1, zn3], Or.inl ⟨by simp [cd1, zn3], ja, jb, jt, h, ⟨rfl, rfl, rfl⟩, ⟨hja, hjb, hjt⟩, (fun z hz => hA z (by omega)), rfl, rfl⟩⟩
                    · skip
                      refine yy_aload_n C 1 dX7_addJoin_111 (pc' := 112) rfl rfl rfl ?_
                      refine yy_iload C 0 dX7_addJoin_112 (pc' := 114) rfl rfl ?_
                      refine yc_v (yr_V C (As := [.int (nI i)]) (rest := []) lk_X7_131 cd_X7_grows im_X7_grows se_X7_grows (mX7_grows l G B0 bd F (mN (mN (mI (mI (mI (mI M 9 (upd (M.2 9) (M.1 5) (nI ja))) 10 (upd (M.2 10) (M.1 5) (nI jb))) 11 (upd (M.2 11) (M.1 5) (nI jt))) 18 h) 0 (cd1 (M.1 2) (nI jt))) 5 ((M.1 5) + 1)) i (X i) (by omega) (hB i (Nat.le_refl _) (by omega)) (show IM _ from hM2)) ⟨by decide, by decide⟩ ⟨by decide, by decide⟩ 0 rfl rfl rfl rfl (Nat.le_of_ble_eq_true rfl) dX7_addJoin_114) (pc' := 117) rfl (fun u1 hw4 => ?_)
                      obtain ⟨hg1a, hg1b⟩ := hw4
                      refine yy_iinc C (v := (nI (i + 1))) (L' := [(4, .int (nI (i + 1))), (0, .ref (bd 0)), (1, .int (nI ja)), (2, .int (nI jb)), (3, .int (nI jt))]) 0 dX7_addJoin_117 (pc' := 120) rfl rfl (nI_add i 1) (by decide) rfl ?_
                      refine yy_goto C (tgt := 105) dX7_addJoin_120 (by decide) ?_
                      refine yy_loc [0, 1, 2, 3, 4] rfl ?_
                      exact ih (i + 1) u1 (by omega) (lt_s (fun z hz => row_out (by omega) (hA z hz) hg1b) hg1a) (fun z hz1 hz2 => row_out (by omega) (hB z (by omega) hz2) hg1b) (by omega)
                refine yy_loc (L' := [(4, .int (nI 0)), (0, .ref (bd 0)), (1, .int (nI ja)), (2, .int (nI jb)), (3, .int (nI jt))]) [0, 1, 2, 3, 4] rfl ?_
                exact lp_105 (5 - 0 + 1) 0 (M.2 18) (Nat.zero_le _) (fun z hz => absurd hz (Nat.not_lt_zero z)) (fun z _ hz => hX z hz) (Nat.lt_succ_self _)
              · skip
                refine yy_aload_n C 0 dX7_addJoin_56 (pc' := 57) rfl rfl rfl ?_
                refine yy_iconst C (v := (nI 3)) dX7_addJoin_57 (pc' := 58) rfl (by decide) ?_
                refine yc_i (yr_V C (As := [.int (nI 3)]) (rest := []) lk_X7_92 cd_X7_refuse im_X7_refuse se_X7_refuse (mX7_refuse l G B0 bd F (mN M 0 (cd1 (M.1 2) (nI jt))) 3) ⟨by decide, by decide⟩ ⟨by decide, by decide⟩ 0 rfl rfl rfl rfl (Nat.le_of_ble_eq_true rfl) dX7_addJoin_58) (pc' := 61) rfl (fun r4 _ hw4 => ?_)
                subst hw4
                subst hQ
                exact ye_i C hr (vp_nar_int _) (mN M 0 3) dX7_addJoin_61 rfl (by decide) (by decide) ⟨3, by rw [cdAddJoin, if_neg (by simp [zn1, zn2, zn3]), if_neg (by simp [join_ne c_28 c_33 c_38 hja hjb hjt (by omega)]), if_pos c_53], Or.inr ⟨by decide, rfl⟩⟩
            · skip
              refine yy_aload_n C 0 dX7_addJoin_41 (pc' := 42) rfl rfl rfl ?_
              refine yy_iconst C (v := (nI 2)) dX7_addJoin_42 (pc' := 43) rfl (by decide) ?_
              refine yc_i (yr_V C (As := [.int (nI 2)]) (rest := []) lk_X7_92 cd_X7_refuse im_X7_refuse se_X7_refuse (mX7_refuse l G B0 bd F (mN M 0 (cd1 (M.1 2) (nI jt))) 2) ⟨by decide, by decide⟩ ⟨by decide, by decide⟩ 0 rfl rfl rfl rfl (Nat.le_of_ble_eq_true rfl) dX7_addJoin_43) (pc' := 46) rfl (fun r4 _ hw4 => ?_)
              subst hw4
              subst hQ
              exact ye_i C hr (vp_nar_int _) (mN M 0 2) dX7_addJoin_46 rfl (by decide) (by decide) ⟨2, by rw [cdAddJoin, if_neg (by simp [zn1, zn2, zn3]), if_pos (by simp [c_38])], Or.inr ⟨by decide, rfl⟩⟩
      · skip
        have zn3 : inR t (M.1 2) = false := by simpa [mN, va_up] using c_21
        refine yy_iconst C (v := (nI 0)) dX7_addJoin_24 (pc' := 25) rfl (by decide) ?_
        subst hQ
        exact ye_i C hr (vp_nar_int _) (mN M 0 (cd1 (M.1 2) t)) dX7_addJoin_25 rfl (by decide) (by decide) ⟨(cd1 (M.1 2) t), by simp [cd1, cdAddJoin, zn1, eja, zn2, ejb, zn3], Or.inr ⟨(by simp [cd1, zn1, eja, zn2, ejb, zn3]), rfl⟩⟩
