def IM (M : SM) : Prop := M.1 1 ≤ 8 ∧ M.1 2 ≤ 40 ∧ M.1 3 ≤ 8 ∧ M.1 4 ≤ 12 ∧ M.1 5 ≤ 10 ∧ M.1 6 ≤ 20 ∧ M.1 7 ≤ 99 ∧ M.1 8 ≤ 9999 ∧ (∀ j, j < M.1 5 → ix (M.2 9 j) < M.1 2 ∧ ix (M.2 10 j) < M.1 2 ∧ ix (M.2 11 j) < M.1 2) ∧ ∀ k, k < M.1 6 → ix (M.2 12 k) < 5
def idxN (f : Nat → Int32) (k : Nat) : Nat := fb_ct (fun z => decide (f z = f k)) k
def hRM (M : SM) (k : Nat) : Bool := hidR (M.1 3) (M.2 2) (M.2 3) (M.2 4) (M.1 8) (M.2 1 k)
def hSM (M : SM) (k : Nat) : Bool := hidSL (M.1 4) (M.2 5) (M.2 6) (M.2 7) (M.2 8) (M.2 17) (M.1 8) (M.2 0 k) (nI (idxN (M.2 0) k))
def hidM (M : SM) (k : Nat) : Bool := hRM M k || hSM M k
theorem inB_R {x : Int32} {n : Nat} (hn : n < 2 ^ 30) : inB x (nI 0) (nI n - nI 1) = inR x n := by
  have h0 : nI 0 = 0 := nI_0
  rw [h0]
  unfold inB inR
  by_cases hx : x < 0
  · simp [hx]
  · obtain ⟨j, hj, rfl⟩ := nI_of hx
    simp only [hx, decide_false, Bool.not_false, Bool.true_and]
    rcases Nat.eq_zero_or_pos n with hz | hz
    · subst hz
      have h1 : nI 0 - nI 1 = -1 := by decide
      rw [h1]
      have h4 : ((-1 : Int32)).toInt = -1 := by decide
      have h2 : (-1 : Int32) < nI j := by
        rw [Int32.lt_iff_toInt_lt, nI_toInt hj, h4]
        omega
      have h3 : ¬ nI j < nI 0 := by rw [h0]; exact hx
      simp [h2, h3]
    · rw [pk_sub (by omega : 1 ≤ n)]
      have e1 : (nI (n - 1) < nI j) = (n - 1 < j) := propext (nI_ltI (by omega) hj)
      have e2 : (nI j < nI n) = (j < n) := propext (nI_ltI hj (by omega))
      simp only [e1, e2]
      by_cases hjn : j < n
      · simp [hjn]; omega
      · simp [hjn]; omega
theorem inB_A {x : Int32} : inB x (nI 0) (nI 4) = inR x 5 := by
  have h := inB_R (x := x) (n := 5) (by decide)
  rw [← h]; rfl
theorem fin_at {p : Nat → Bool} {i n : Nat} (h : i = n) (ha : anyB p i = false) : anyB p n = false := h ▸ ha
theorem bI_n (b : Bool) : bI (!b) = if b = true then 0 else 1 := by cases b <;> rfl
abbrev rX7_isIn : Room := { frames := 0, cells := 0, slots := 0, locals := 0 }
set_option maxHeartbeats 4000000 in
set_option maxRecDepth 100000 in
theorem mX7_isIn (l : Launch) (G : gG) (B0 : Nat) (w : va_W) (x lo hi : Int32) : Met l yX7_isIn (Cond.code yX7_isIn cX7_isIn 3 (some .boolean) :: WG) rX7_isIn (va_Pc [.int x, .int lo, .int hi] (PR G B0 (w))) (va_Qi (fun (r : Int32) (_ : Unit) => r = bI (inB x lo hi)) (fun (_ : Unit) (t_ : State) => va_P G.1 vwCl (w) t_.heap ∧ va_D (fun q => B0 ≤ q) (w)) (fun q => B0 ≤ q)) rX7_isIn.cells rX7_isIn.slots (fun q => B0 ≤ q) := by
  refine met_of RX7 [(0, .int x), (1, .int lo), (2, .int hi)] rfl (by decide) (Nat.le_of_ble_eq_true rfl) rfl ?_
  intro p e s m args below meth c C hr hnm
  refine yq ?_
  intro QQ hQ
  refine yy_iload_n C 0 dX7_isIn_0 (pc' := 1) rfl rfl rfl ?_
  refine yy_iload_n C 1 dX7_isIn_1 (pc' := 2) rfl rfl rfl ?_
  refine yy_icmp_lt C dX7_isIn_2 (pc' := 5) rfl (tgt := 14) (by decide) (fun c_2 => ?_) (fun c_2 => ?_)
  · skip
    refine yy_iconst C (v := (nI 0)) dX7_isIn_14 (pc' := 15) rfl (by decide) ?_
    subst hQ
    exact ye_i C hr rfl () dX7_isIn_15 rfl (by decide) (by decide) (bI_f (by simp [inB, c_2]))
  · skip
    refine yy_iload_n C 0 dX7_isIn_5 (pc' := 6) rfl rfl rfl ?_
    refine yy_iload_n C 2 dX7_isIn_6 (pc' := 7) rfl rfl rfl ?_
    refine yy_icmp_gt C dX7_isIn_7 (pc' := 10) rfl (tgt := 14) (by decide) (fun c_7 => ?_) (fun c_7 => ?_)
    · skip
      refine yy_iconst C (v := (nI 0)) dX7_isIn_14 (pc' := 15) rfl (by decide) ?_
      subst hQ
      exact ye_i C hr rfl () dX7_isIn_15 rfl (by decide) (by decide) (bI_f (by simp [inB, c_2, c_7]))
    · skip
      refine yy_iconst C (v := (nI 1)) dX7_isIn_10 (pc' := 11) rfl (by decide) ?_
      refine yy_goto C (tgt := 15) dX7_isIn_11 (by decide) ?_
      subst hQ
      exact ye_i C hr rfl () dX7_isIn_15 rfl (by decide) (by decide) (bI_t (by simp [inB, c_2, c_7]))

abbrev rX7_thrown : Room := { frames := 0, cells := 0, slots := 0, locals := 0 }
set_option maxHeartbeats 4000000 in
set_option maxRecDepth 100000 in
theorem mX7_thrown (l : Launch) (G : gG) (B0 : Nat) (bd : Nat → Nat) (F : va_W) (M : SM) : Met l yX7_thrown (Cond.code yX7_thrown cX7_thrown 1 (some .int) :: WG) rX7_thrown (va_Pc [.ref (bd 0)] (PR G B0 (wM G bd M ++ F))) (va_Qi (fun (r : Int32) (_ : Unit) => r = nI (M.1 0)) (fun (_ : Unit) (t_ : State) => va_P G.1 vwCl (wM G bd M ++ F) t_.heap ∧ va_D (fun q => B0 ≤ q) (wM G bd M ++ F)) (fun q => B0 ≤ q)) rX7_thrown.cells rX7_thrown.slots (fun q => B0 ≤ q) := by
  refine met_of RX7 [(0, .ref (bd 0))] rfl (by decide) (Nat.le_of_ble_eq_true rfl) rfl ?_
  intro p e s m args below meth c C hr hnm
  refine yq ?_
  intro QQ hQ
  refine yy_aload_n C 0 dX7_thrown_0 (pc' := 1) rfl rfl rfl ?_
  refine yy_get C (v := .int (nI (M.1 0))) fk_X7_79 0 dX7_thrown_1 (pc' := 4) rfl rfl rfl ?_
  subst hQ
  exact ye_i C hr (vp_nar_int _) () dX7_thrown_4 rfl (by decide) (by decide) rfl

abbrev rX7_refuse : Room := { frames := 0, cells := 0, slots := 0, locals := 0 }
set_option maxHeartbeats 4000000 in
set_option maxRecDepth 100000 in
theorem mX7_refuse (l : Launch) (G : gG) (B0 : Nat) (bd : Nat → Nat) (F : va_W) (M : SM) (q : Nat) : Met l yX7_refuse (Cond.code yX7_refuse cX7_refuse 2 (some .int) :: WG) rX7_refuse (va_Pc [.ref (bd 0), .int (nI q)] (PR G B0 (wM G bd M ++ F))) (va_Qi (fun (r : Int32) (_ : Unit) => r = nI 0) (fun (_ : Unit) (t_ : State) => va_P G.1 vwCl (wM G bd (mN M 0 q) ++ F) t_.heap ∧ va_D (fun q => B0 ≤ q) (wM G bd (mN M 0 q) ++ F)) (fun q => B0 ≤ q)) rX7_refuse.cells rX7_refuse.slots (fun q => B0 ≤ q) := by
  refine met_of RX7 [(0, .ref (bd 0)), (1, .int (nI q))] rfl (by decide) (Nat.le_of_ble_eq_true rfl) rfl ?_
  intro p e s m args below meth c C hr hnm
  refine yq ?_
  intro QQ hQ
  refine yy_aload_n C 0 dX7_refuse_0 (pc' := 1) rfl rfl rfl ?_
  refine yy_iload_n C 1 dX7_refuse_1 (pc' := 2) rfl rfl rfl ?_
  refine yy_put C (w' := wM G bd (mN M 0 q) ++ F) fk_X7_79 fpW7 rfl 0 dX7_refuse_2 (pc' := 5) rfl rfl rfl rfl (Nat.le_of_ble_eq_true rfl) rfl ?_
  refine yy_iconst C (v := (nI 0)) dX7_refuse_5 (pc' := 6) rfl (by decide) ?_
  subst hQ
  exact ye_i C hr (vp_nar_int _) () dX7_refuse_6 rfl (by decide) (by decide) rfl

abbrev rX7_noDocument : Room := { frames := 1, cells := 0, slots := 0, locals := 22 }
set_option maxHeartbeats 4000000 in
set_option maxRecDepth 100000 in
theorem mX7_noDocument (l : Launch) (G : gG) (B0 : Nat) (bd : Nat → Nat) (F : va_W) (M : SM) (x : Int32) (hM : IM M) : Met l yX7_noDocument (Cond.code yX7_noDocument cX7_noDocument 2 (some .boolean) :: WG) rX7_noDocument (va_Pc [.ref (bd 0), .int x] (PR G B0 (wM G bd M ++ F))) (va_Qi (fun (r : Int32) (_ : Unit) => r = bI (!inR x (M.1 1))) (fun (_ : Unit) (t_ : State) => va_P G.1 vwCl (wM G bd (mN M 0 (cd1 (M.1 1) x)) ++ F) t_.heap ∧ va_D (fun q => B0 ≤ q) (wM G bd (mN M 0 (cd1 (M.1 1) x)) ++ F)) (fun q => B0 ≤ q)) rX7_noDocument.cells rX7_noDocument.slots (fun q => B0 ≤ q) := by
  refine met_of RX7 [(0, .ref (bd 0)), (1, .int x)] rfl (by decide) (Nat.le_of_ble_eq_true rfl) rfl ?_
  intro p e s m args below meth c C hr hnm
  refine yq ?_
  intro QQ hQ
  obtain ⟨j1, j2, j3, j4, j5, j6, j7, j8, jJ, jQ⟩ := id hM
  refine yy_aload_n C 0 dX7_noDocument_0 (pc' := 1) rfl rfl rfl ?_
  refine yy_iload_n C 1 dX7_noDocument_1 (pc' := 2) rfl rfl rfl ?_
  refine yy_iconst C (v := (nI 0)) dX7_noDocument_2 (pc' := 3) rfl (by decide) ?_
  refine yy_aload_n C 0 dX7_noDocument_3 (pc' := 4) rfl rfl rfl ?_
  refine yy_get C (v := .int (nI (M.1 1))) fk_X7_82 0 dX7_noDocument_4 (pc' := 7) rfl rfl rfl ?_
  refine yy_iconst C (v := (nI 1)) dX7_noDocument_7 (pc' := 8) rfl (by decide) ?_
  refine yy_isub C (v := ((nI (M.1 1)) - (nI 1))) dX7_noDocument_8 (pc' := 9) rfl rfl ?_
  refine yc_i (yr_S C (As := [.int x, .int (nI 0), .int ((nI (M.1 1)) - (nI 1))]) (rest := [.ref (bd 0)]) lk_X7_85 cd_X7_isIn st_X7_isIn (mX7_isIn l G B0 (wM G bd M ++ F) x (nI 0) ((nI (M.1 1)) - (nI 1))) ⟨by decide, by decide⟩ ⟨by decide, by decide⟩ rfl rfl (Nat.le_of_ble_eq_true rfl) dX7_noDocument_9) (pc' := 12) rfl (fun r1 _ hw1 => ?_)
  subst hw1
  refine yy_eqi (show (bI (inB x (nI 0) ((nI (M.1 1)) - (nI 1)))) = bI (inR x (M.1 1)) by rw [inB_R (by omega)]) ?_
  refine yb_if_eq C dX7_noDocument_12 (pc' := 15) rfl (tgt := 19) (by decide) (fun c_12 => ?_) (fun c_12 => ?_)
  · skip
    refine yy_iconst C (v := (nI 1)) dX7_noDocument_19 (pc' := 20) rfl (by decide) ?_
    refine yy_put C (w' := wM G bd (mN M 0 1) ++ F) fk_X7_79 fpW7 rfl 0 dX7_noDocument_20 (pc' := 23) rfl rfl rfl rfl (Nat.le_of_ble_eq_true rfl) rfl ?_
    refine yy_aload_n C 0 dX7_noDocument_23 (pc' := 24) rfl rfl rfl ?_
    refine yy_get C (v := .int (nI 1)) fk_X7_79 0 dX7_noDocument_24 (pc' := 27) rfl rfl rfl ?_
    refine yy_if_eq C dX7_noDocument_27 (pc' := 30) rfl (tgt := 34) (by decide) (fun c_27 => ?_) (fun c_27 => ?_)
    · skip
      exact absurd c_27 (by decide)
    · skip
      refine yy_iconst C (v := (nI 1)) dX7_noDocument_30 (pc' := 31) rfl (by decide) ?_
      refine yy_goto C (tgt := 35) dX7_noDocument_31 (by decide) ?_
      subst hQ
      exact ye_i C hr rfl () dX7_noDocument_35 (by rw [show cd1 (M.1 1) x = 1 by simp [cd1, c_12]]) (by decide) (by decide) (bI_t (by simp [c_12]))
  · skip
    refine yy_iconst C (v := (nI 0)) dX7_noDocument_15 (pc' := 16) rfl (by decide) ?_
    refine yy_goto C (tgt := 20) dX7_noDocument_16 (by decide) ?_
    refine yy_put C (w' := wM G bd (mN M 0 0) ++ F) fk_X7_79 fpW7 rfl 0 dX7_noDocument_20 (pc' := 23) rfl rfl rfl rfl (Nat.le_of_ble_eq_true rfl) rfl ?_
    refine yy_aload_n C 0 dX7_noDocument_23 (pc' := 24) rfl rfl rfl ?_
    refine yy_get C (v := .int (nI 0)) fk_X7_79 0 dX7_noDocument_24 (pc' := 27) rfl rfl rfl ?_
    refine yy_if_eq C dX7_noDocument_27 (pc' := 30) rfl (tgt := 34) (by decide) (fun c_27 => ?_) (fun c_27 => ?_)
    · skip
      refine yy_iconst C (v := (nI 0)) dX7_noDocument_34 (pc' := 35) rfl (by decide) ?_
      subst hQ
      exact ye_i C hr rfl () dX7_noDocument_35 (by rw [show cd1 (M.1 1) x = 0 by simp [cd1, c_12]]) (by decide) (by decide) (bI_f (by simp [c_12]))
    · skip
      exact absurd c_27 (by decide)

abbrev rX7_noLine : Room := { frames := 1, cells := 0, slots := 0, locals := 22 }
set_option maxHeartbeats 4000000 in
set_option maxRecDepth 100000 in
theorem mX7_noLine (l : Launch) (G : gG) (B0 : Nat) (bd : Nat → Nat) (F : va_W) (M : SM) (x : Int32) (hM : IM M) : Met l yX7_noLine (Cond.code yX7_noLine cX7_noLine 2 (some .boolean) :: WG) rX7_noLine (va_Pc [.ref (bd 0), .int x] (PR G B0 (wM G bd M ++ F))) (va_Qi (fun (r : Int32) (_ : Unit) => r = bI (!inR x (M.1 2))) (fun (_ : Unit) (t_ : State) => va_P G.1 vwCl (wM G bd (mN M 0 (cd1 (M.1 2) x)) ++ F) t_.heap ∧ va_D (fun q => B0 ≤ q) (wM G bd (mN M 0 (cd1 (M.1 2) x)) ++ F)) (fun q => B0 ≤ q)) rX7_noLine.cells rX7_noLine.slots (fun q => B0 ≤ q) := by
  refine met_of RX7 [(0, .ref (bd 0)), (1, .int x)] rfl (by decide) (Nat.le_of_ble_eq_true rfl) rfl ?_
  intro p e s m args below meth c C hr hnm
  refine yq ?_
  intro QQ hQ
  obtain ⟨j1, j2, j3, j4, j5, j6, j7, j8, jJ, jQ⟩ := id hM
  refine yy_aload_n C 0 dX7_noLine_0 (pc' := 1) rfl rfl rfl ?_
  refine yy_iload_n C 1 dX7_noLine_1 (pc' := 2) rfl rfl rfl ?_
  refine yy_iconst C (v := (nI 0)) dX7_noLine_2 (pc' := 3) rfl (by decide) ?_
  refine yy_aload_n C 0 dX7_noLine_3 (pc' := 4) rfl rfl rfl ?_
  refine yy_get C (v := .int (nI (M.1 2))) fk_X7_89 0 dX7_noLine_4 (pc' := 7) rfl rfl rfl ?_
  refine yy_iconst C (v := (nI 1)) dX7_noLine_7 (pc' := 8) rfl (by decide) ?_
  refine yy_isub C (v := ((nI (M.1 2)) - (nI 1))) dX7_noLine_8 (pc' := 9) rfl rfl ?_
  refine yc_i (yr_S C (As := [.int x, .int (nI 0), .int ((nI (M.1 2)) - (nI 1))]) (rest := [.ref (bd 0)]) lk_X7_85 cd_X7_isIn st_X7_isIn (mX7_isIn l G B0 (wM G bd M ++ F) x (nI 0) ((nI (M.1 2)) - (nI 1))) ⟨by decide, by decide⟩ ⟨by decide, by decide⟩ rfl rfl (Nat.le_of_ble_eq_true rfl) dX7_noLine_9) (pc' := 12) rfl (fun r1 _ hw1 => ?_)
  subst hw1
  refine yy_eqi (show (bI (inB x (nI 0) ((nI (M.1 2)) - (nI 1)))) = bI (inR x (M.1 2)) by rw [inB_R (by omega)]) ?_
  refine yb_if_eq C dX7_noLine_12 (pc' := 15) rfl (tgt := 19) (by decide) (fun c_12 => ?_) (fun c_12 => ?_)
  · skip
    refine yy_iconst C (v := (nI 1)) dX7_noLine_19 (pc' := 20) rfl (by decide) ?_
    refine yy_put C (w' := wM G bd (mN M 0 1) ++ F) fk_X7_79 fpW7 rfl 0 dX7_noLine_20 (pc' := 23) rfl rfl rfl rfl (Nat.le_of_ble_eq_true rfl) rfl ?_
    refine yy_aload_n C 0 dX7_noLine_23 (pc' := 24) rfl rfl rfl ?_
    refine yy_get C (v := .int (nI 1)) fk_X7_79 0 dX7_noLine_24 (pc' := 27) rfl rfl rfl ?_
    refine yy_if_eq C dX7_noLine_27 (pc' := 30) rfl (tgt := 34) (by decide) (fun c_27 => ?_) (fun c_27 => ?_)
    · skip
      exact absurd c_27 (by decide)
    · skip
      refine yy_iconst C (v := (nI 1)) dX7_noLine_30 (pc' := 31) rfl (by decide) ?_
      refine yy_goto C (tgt := 35) dX7_noLine_31 (by decide) ?_
      subst hQ
      exact ye_i C hr rfl () dX7_noLine_35 (by rw [show cd1 (M.1 2) x = 1 by simp [cd1, c_12]]) (by decide) (by decide) (bI_t (by simp [c_12]))
  · skip
    refine yy_iconst C (v := (nI 0)) dX7_noLine_15 (pc' := 16) rfl (by decide) ?_
    refine yy_goto C (tgt := 20) dX7_noLine_16 (by decide) ?_
    refine yy_put C (w' := wM G bd (mN M 0 0) ++ F) fk_X7_79 fpW7 rfl 0 dX7_noLine_20 (pc' := 23) rfl rfl rfl rfl (Nat.le_of_ble_eq_true rfl) rfl ?_
    refine yy_aload_n C 0 dX7_noLine_23 (pc' := 24) rfl rfl rfl ?_
    refine yy_get C (v := .int (nI 0)) fk_X7_79 0 dX7_noLine_24 (pc' := 27) rfl rfl rfl ?_
    refine yy_if_eq C dX7_noLine_27 (pc' := 30) rfl (tgt := 34) (by decide) (fun c_27 => ?_) (fun c_27 => ?_)
    · skip
      refine yy_iconst C (v := (nI 0)) dX7_noLine_34 (pc' := 35) rfl (by decide) ?_
      subst hQ
      exact ye_i C hr rfl () dX7_noLine_35 (by rw [show cd1 (M.1 2) x = 0 by simp [cd1, c_12]]) (by decide) (by decide) (bI_f (by simp [c_12]))
    · skip
      exact absurd c_27 (by decide)

abbrev rX7_noRequest : Room := { frames := 1, cells := 0, slots := 0, locals := 22 }
set_option maxHeartbeats 4000000 in
set_option maxRecDepth 100000 in
theorem mX7_noRequest (l : Launch) (G : gG) (B0 : Nat) (bd : Nat → Nat) (F : va_W) (M : SM) (x : Int32) (hM : IM M) : Met l yX7_noRequest (Cond.code yX7_noRequest cX7_noRequest 2 (some .boolean) :: WG) rX7_noRequest (va_Pc [.ref (bd 0), .int x] (PR G B0 (wM G bd M ++ F))) (va_Qi (fun (r : Int32) (_ : Unit) => r = bI (!inR x (M.1 6))) (fun (_ : Unit) (t_ : State) => va_P G.1 vwCl (wM G bd (mN M 0 (cd1 (M.1 6) x)) ++ F) t_.heap ∧ va_D (fun q => B0 ≤ q) (wM G bd (mN M 0 (cd1 (M.1 6) x)) ++ F)) (fun q => B0 ≤ q)) rX7_noRequest.cells rX7_noRequest.slots (fun q => B0 ≤ q) := by
  refine met_of RX7 [(0, .ref (bd 0)), (1, .int x)] rfl (by decide) (Nat.le_of_ble_eq_true rfl) rfl ?_
  intro p e s m args below meth c C hr hnm
  refine yq ?_
  intro QQ hQ
  obtain ⟨j1, j2, j3, j4, j5, j6, j7, j8, jJ, jQ⟩ := id hM
  refine yy_aload_n C 0 dX7_noRequest_0 (pc' := 1) rfl rfl rfl ?_
  refine yy_iload_n C 1 dX7_noRequest_1 (pc' := 2) rfl rfl rfl ?_
  refine yy_iconst C (v := (nI 0)) dX7_noRequest_2 (pc' := 3) rfl (by decide) ?_
  refine yy_aload_n C 0 dX7_noRequest_3 (pc' := 4) rfl rfl rfl ?_
  refine yy_get C (v := .int (nI (M.1 6))) fk_X7_155 0 dX7_noRequest_4 (pc' := 7) rfl rfl rfl ?_
  refine yy_iconst C (v := (nI 1)) dX7_noRequest_7 (pc' := 8) rfl (by decide) ?_
  refine yy_isub C (v := ((nI (M.1 6)) - (nI 1))) dX7_noRequest_8 (pc' := 9) rfl rfl ?_
  refine yc_i (yr_S C (As := [.int x, .int (nI 0), .int ((nI (M.1 6)) - (nI 1))]) (rest := [.ref (bd 0)]) lk_X7_85 cd_X7_isIn st_X7_isIn (mX7_isIn l G B0 (wM G bd M ++ F) x (nI 0) ((nI (M.1 6)) - (nI 1))) ⟨by decide, by decide⟩ ⟨by decide, by decide⟩ rfl rfl (Nat.le_of_ble_eq_true rfl) dX7_noRequest_9) (pc' := 12) rfl (fun r1 _ hw1 => ?_)
  subst hw1
  refine yy_eqi (show (bI (inB x (nI 0) ((nI (M.1 6)) - (nI 1)))) = bI (inR x (M.1 6)) by rw [inB_R (by omega)]) ?_
  refine yb_if_eq C dX7_noRequest_12 (pc' := 15) rfl (tgt := 19) (by decide) (fun c_12 => ?_) (fun c_12 => ?_)
  · skip
    refine yy_iconst C (v := (nI 1)) dX7_noRequest_19 (pc' := 20) rfl (by decide) ?_
    refine yy_put C (w' := wM G bd (mN M 0 1) ++ F) fk_X7_79 fpW7 rfl 0 dX7_noRequest_20 (pc' := 23) rfl rfl rfl rfl (Nat.le_of_ble_eq_true rfl) rfl ?_
    refine yy_aload_n C 0 dX7_noRequest_23 (pc' := 24) rfl rfl rfl ?_
    refine yy_get C (v := .int (nI 1)) fk_X7_79 0 dX7_noRequest_24 (pc' := 27) rfl rfl rfl ?_
    refine yy_if_eq C dX7_noRequest_27 (pc' := 30) rfl (tgt := 34) (by decide) (fun c_27 => ?_) (fun c_27 => ?_)
    · skip
      exact absurd c_27 (by decide)
    · skip
      refine yy_iconst C (v := (nI 1)) dX7_noRequest_30 (pc' := 31) rfl (by decide) ?_
      refine yy_goto C (tgt := 35) dX7_noRequest_31 (by decide) ?_
      subst hQ
      exact ye_i C hr rfl () dX7_noRequest_35 (by rw [show cd1 (M.1 6) x = 1 by simp [cd1, c_12]]) (by decide) (by decide) (bI_t (by simp [c_12]))
  · skip
    refine yy_iconst C (v := (nI 0)) dX7_noRequest_15 (pc' := 16) rfl (by decide) ?_
    refine yy_goto C (tgt := 20) dX7_noRequest_16 (by decide) ?_
    refine yy_put C (w' := wM G bd (mN M 0 0) ++ F) fk_X7_79 fpW7 rfl 0 dX7_noRequest_20 (pc' := 23) rfl rfl rfl rfl (Nat.le_of_ble_eq_true rfl) rfl ?_
    refine yy_aload_n C 0 dX7_noRequest_23 (pc' := 24) rfl rfl rfl ?_
    refine yy_get C (v := .int (nI 0)) fk_X7_79 0 dX7_noRequest_24 (pc' := 27) rfl rfl rfl ?_
    refine yy_if_eq C dX7_noRequest_27 (pc' := 30) rfl (tgt := 34) (by decide) (fun c_27 => ?_) (fun c_27 => ?_)
    · skip
      refine yy_iconst C (v := (nI 0)) dX7_noRequest_34 (pc' := 35) rfl (by decide) ?_
      subst hQ
      exact ye_i C hr rfl () dX7_noRequest_35 (by rw [show cd1 (M.1 6) x = 0 by simp [cd1, c_12]]) (by decide) (by decide) (bI_f (by simp [c_12]))
    · skip
      exact absurd c_27 (by decide)

abbrev rX7_noAsker : Room := { frames := 1, cells := 0, slots := 0, locals := 22 }
set_option maxHeartbeats 4000000 in
set_option maxRecDepth 100000 in
theorem mX7_noAsker (l : Launch) (G : gG) (B0 : Nat) (bd : Nat → Nat) (F : va_W) (M : SM) (x : Int32) (hM : IM M) : Met l yX7_noAsker (Cond.code yX7_noAsker cX7_noAsker 2 (some .boolean) :: WG) rX7_noAsker (va_Pc [.ref (bd 0), .int x] (PR G B0 (wM G bd M ++ F))) (va_Qi (fun (r : Int32) (_ : Unit) => r = bI (!inR x (5))) (fun (_ : Unit) (t_ : State) => va_P G.1 vwCl (wM G bd (mN M 0 (cd1 (5) x)) ++ F) t_.heap ∧ va_D (fun q => B0 ≤ q) (wM G bd (mN M 0 (cd1 (5) x)) ++ F)) (fun q => B0 ≤ q)) rX7_noAsker.cells rX7_noAsker.slots (fun q => B0 ≤ q) := by
  refine met_of RX7 [(0, .ref (bd 0)), (1, .int x)] rfl (by decide) (Nat.le_of_ble_eq_true rfl) rfl ?_
  intro p e s m args below meth c C hr hnm
  refine yq ?_
  intro QQ hQ
  obtain ⟨j1, j2, j3, j4, j5, j6, j7, j8, jJ, jQ⟩ := id hM
  refine yy_aload_n C 0 dX7_noAsker_0 (pc' := 1) rfl rfl rfl ?_
  refine yy_iload_n C 1 dX7_noAsker_1 (pc' := 2) rfl rfl rfl ?_
  refine yy_iconst C (v := (nI 0)) dX7_noAsker_2 (pc' := 3) rfl (by decide) ?_
  refine yy_iconst C (v := (nI 4)) dX7_noAsker_3 (pc' := 4) rfl (by decide) ?_
  refine yc_i (yr_S C (As := [.int x, .int (nI 0), .int (nI 4)]) (rest := [.ref (bd 0)]) lk_X7_85 cd_X7_isIn st_X7_isIn (mX7_isIn l G B0 (wM G bd M ++ F) x (nI 0) (nI 4)) ⟨by decide, by decide⟩ ⟨by decide, by decide⟩ rfl rfl (Nat.le_of_ble_eq_true rfl) dX7_noAsker_4) (pc' := 7) rfl (fun r1 _ hw1 => ?_)
  subst hw1
  refine yy_eqi (show (bI (inB x (nI 0) (nI 4))) = bI (inR x (5)) by rw [inB_A]) ?_
  refine yb_if_eq C dX7_noAsker_7 (pc' := 10) rfl (tgt := 14) (by decide) (fun c_7 => ?_) (fun c_7 => ?_)
  · skip
    refine yy_iconst C (v := (nI 1)) dX7_noAsker_14 (pc' := 15) rfl (by decide) ?_
    refine yy_put C (w' := wM G bd (mN M 0 1) ++ F) fk_X7_79 fpW7 rfl 0 dX7_noAsker_15 (pc' := 18) rfl rfl rfl rfl (Nat.le_of_ble_eq_true rfl) rfl ?_
    refine yy_aload_n C 0 dX7_noAsker_18 (pc' := 19) rfl rfl rfl ?_
    refine yy_get C (v := .int (nI 1)) fk_X7_79 0 dX7_noAsker_19 (pc' := 22) rfl rfl rfl ?_
    refine yy_if_eq C dX7_noAsker_22 (pc' := 25) rfl (tgt := 29) (by decide) (fun c_22 => ?_) (fun c_22 => ?_)
    · skip
      exact absurd c_22 (by decide)
    · skip
      refine yy_iconst C (v := (nI 1)) dX7_noAsker_25 (pc' := 26) rfl (by decide) ?_
      refine yy_goto C (tgt := 30) dX7_noAsker_26 (by decide) ?_
      subst hQ
      exact ye_i C hr rfl () dX7_noAsker_30 (by rw [show cd1 (5) x = 1 by simp [cd1, c_7]]) (by decide) (by decide) (bI_t (by simp [c_7]))
  · skip
    refine yy_iconst C (v := (nI 0)) dX7_noAsker_10 (pc' := 11) rfl (by decide) ?_
    refine yy_goto C (tgt := 15) dX7_noAsker_11 (by decide) ?_
    refine yy_put C (w' := wM G bd (mN M 0 0) ++ F) fk_X7_79 fpW7 rfl 0 dX7_noAsker_15 (pc' := 18) rfl rfl rfl rfl (Nat.le_of_ble_eq_true rfl) rfl ?_
    refine yy_aload_n C 0 dX7_noAsker_18 (pc' := 19) rfl rfl rfl ?_
    refine yy_get C (v := .int (nI 0)) fk_X7_79 0 dX7_noAsker_19 (pc' := 22) rfl rfl rfl ?_
    refine yy_if_eq C dX7_noAsker_22 (pc' := 25) rfl (tgt := 29) (by decide) (fun c_22 => ?_) (fun c_22 => ?_)
    · skip
      refine yy_iconst C (v := (nI 0)) dX7_noAsker_29 (pc' := 30) rfl (by decide) ?_
      subst hQ
      exact ye_i C hr rfl () dX7_noAsker_30 (by rw [show cd1 (5) x = 0 by simp [cd1, c_7]]) (by decide) (by decide) (bI_f (by simp [c_7]))
    · skip
      exact absurd c_22 (by decide)

abbrev rX7_index : Room := { frames := 0, cells := 0, slots := 0, locals := 0 }
set_option maxHeartbeats 4000000 in
set_option maxRecDepth 100000 in
theorem mX7_index (l : Launch) (G : gG) (B0 : Nat) (bd : Nat → Nat) (F : va_W) (M : SM) (k : Nat) (hk : k < 40) (hM : IM M) : Met l yX7_index (Cond.code yX7_index cX7_index 4 (some .int) :: WG) rX7_index (va_Pc [.ref (bd 0), .int (nI k)] (PR G B0 (wM G bd M ++ F))) (va_Qi (fun (r : Int32) (_ : Unit) => r = nI (idxN (M.2 0) k)) (fun (_ : Unit) (t_ : State) => va_P G.1 vwCl (wM G bd M ++ F) t_.heap ∧ va_D (fun q => B0 ≤ q) (wM G bd M ++ F)) (fun q => B0 ≤ q)) rX7_index.cells rX7_index.slots (fun q => B0 ≤ q) := by
  refine met_of RX7 [(0, .ref (bd 0)), (1, .int (nI k))] rfl (by decide) (Nat.le_of_ble_eq_true rfl) rfl ?_
  intro p e s m args below meth c C hr hnm
  refine yq ?_
  intro QQ hQ
  obtain ⟨j1, j2, j3, j4, j5, j6, j7, j8, jJ, jQ⟩ := id hM
  refine yy_iconst C (v := (nI 0)) dX7_index_0 (pc' := 1) rfl (by decide) ?_
  refine yy_istore_n C (L' := [(2, .int (nI 0)), (0, .ref (bd 0)), (1, .int (nI k))]) dX7_index_1 (pc' := 2) rfl rfl (by decide) rfl ?_
  refine yy_iconst C (v := (nI 0)) dX7_index_2 (pc' := 3) rfl (by decide) ?_
  refine yy_istore_n C (L' := [(3, .int (nI 0)), (2, .int (nI 0)), (0, .ref (bd 0)), (1, .int (nI k))]) dX7_index_3 (pc' := 4) rfl rfl (by decide) rfl ?_
  have lp_4 : ∀ (f_ : Nat) (i : Nat), (hi : i ≤ k) → k - i < f_ → YY p l e rX7_index s m args below meth c G B0 4 QQ 4 [(2, .int (nI (fb_ct (fun z => decide (M.2 0 z = M.2 0 k)) i))), (3, .int (nI i)), (0, .ref (bd 0)), (1, .int (nI k))] [] (wM G bd M ++ F) 0 0 := by
    intro f_
    induction f_ with
    | zero => intro i hi hf_; exact absurd hf_ (Nat.not_lt_zero _)
    | succ f_ ih =>
      intro i hi hf_
      refine yy_iload_n C 1 dX7_index_4 (pc' := 5) rfl rfl rfl ?_
      refine yy_iload_n C 3 dX7_index_5 (pc' := 6) rfl rfl rfl ?_
      refine yn_icmp_ge C (by omega) (by omega) dX7_index_6 (pc' := 9) rfl (tgt := 38) (by decide) (fun c_6 => ?_) (fun c_6 => ?_)
      · skip
        refine yy_iload_n C 0 dX7_index_38 (pc' := 39) rfl rfl rfl ?_
        subst hQ
        exact ye_i C hr (vp_nar_int _) () dX7_index_39 rfl (by decide) (by decide) (by rw [show i = k by omega]; rfl)
      · skip
        refine yy_iload_n C 0 dX7_index_9 (pc' := 10) rfl rfl rfl ?_
        refine yy_aload_n C 2 dX7_index_10 (pc' := 11) rfl rfl rfl ?_
        refine yy_get C (v := .ref (bd 1)) fk_X7_13 0 dX7_index_11 (pc' := 14) rfl rfl rfl ?_
        refine yy_iload_n C 1 dX7_index_14 (pc' := 15) rfl rfl rfl ?_
        refine yy_iald C 1 dX7_index_15 (pc' := 16) rfl rfl (by omega) (by decide) ?_
        refine yy_aload_n C 2 dX7_index_16 (pc' := 17) rfl rfl rfl ?_
        refine yy_get C (v := .ref (bd 1)) fk_X7_13 0 dX7_index_17 (pc' := 20) rfl rfl rfl ?_
        refine yy_iload_n C 3 dX7_index_20 (pc' := 21) rfl rfl rfl ?_
        refine yy_iald C 1 dX7_index_21 (pc' := 22) rfl rfl (by omega) (by decide) ?_
        refine yy_icmp_ne C dX7_index_22 (pc' := 25) rfl (tgt := 29) (by decide) (fun c_22 => ?_) (fun c_22 => ?_)
        · skip
          refine yy_iconst C (v := (nI 0)) dX7_index_29 (pc' := 30) rfl (by decide) ?_
          refine yy_iadd C (v := (nI (fb_ct (fun z => decide (M.2 0 z = M.2 0 k)) i))) dX7_index_30 (pc' := 31) rfl (nI_add (fb_ct (fun z => decide (M.2 0 z = M.2 0 k)) i) 0) ?_
          refine yy_istore_n C (L' := [(2, .int (nI (fb_ct (fun z => decide (M.2 0 z = M.2 0 k)) i))), (3, .int (nI i)), (0, .ref (bd 0)), (1, .int (nI k))]) dX7_index_31 (pc' := 32) rfl rfl (by decide) rfl ?_
          refine yy_iinc C (v := (nI (i + 1))) (L' := [(3, .int (nI (i + 1))), (2, .int (nI (fb_ct (fun z => decide (M.2 0 z = M.2 0 k)) i))), (0, .ref (bd 0)), (1, .int (nI k))]) 1 dX7_index_32 (pc' := 35) rfl rfl (nI_add i 1) (by decide) rfl ?_
          refine yy_goto C (tgt := 4) dX7_index_35 (by decide) ?_
          rw [← ct_f (p := (fun z => decide (M.2 0 z = M.2 0 k))) (i := i) (by simp [c_22])]
          refine yy_loc [1, 0, 2, 3] rfl ?_
          exact ih (i + 1) (by omega) (by omega)
        · skip
          refine yy_iconst C (v := (nI 1)) dX7_index_25 (pc' := 26) rfl (by decide) ?_
          refine yy_goto C (tgt := 30) dX7_index_26 (by decide) ?_
          refine yy_iadd C (v := (nI ((fb_ct (fun z => decide (M.2 0 z = M.2 0 k)) i) + 1))) dX7_index_30 (pc' := 31) rfl (nI_add (fb_ct (fun z => decide (M.2 0 z = M.2 0 k)) i) 1) ?_
          refine yy_istore_n C (L' := [(2, .int (nI ((fb_ct (fun z => decide (M.2 0 z = M.2 0 k)) i) + 1))), (3, .int (nI i)), (0, .ref (bd 0)), (1, .int (nI k))]) dX7_index_31 (pc' := 32) rfl rfl (by decide) rfl ?_
          refine yy_iinc C (v := (nI (i + 1))) (L' := [(3, .int (nI (i + 1))), (2, .int (nI ((fb_ct (fun z => decide (M.2 0 z = M.2 0 k)) i) + 1))), (0, .ref (bd 0)), (1, .int (nI k))]) 1 dX7_index_32 (pc' := 35) rfl rfl (nI_add i 1) (by decide) rfl ?_
          refine yy_goto C (tgt := 4) dX7_index_35 (by decide) ?_
          rw [← ct_t (p := (fun z => decide (M.2 0 z = M.2 0 k))) (i := i) (by simp [c_22])]
          refine yy_loc [1, 0, 2, 3] rfl ?_
          exact ih (i + 1) (by omega) (by omega)
  refine yy_loc (L' := [(2, .int (nI 0)), (3, .int (nI 0)), (0, .ref (bd 0)), (1, .int (nI k))]) [1, 0, 2, 3] rfl ?_
  exact lp_4 (k - 0 + 1) 0 (Nat.zero_le _) (Nat.lt_succ_self _)

abbrev rX7_byRule : Room := { frames := 1, cells := 0, slots := 0, locals := 22 }
set_option maxHeartbeats 4000000 in
set_option maxRecDepth 100000 in
theorem mX7_byRule (l : Launch) (G : gG) (B0 : Nat) (bd : Nat → Nat) (F : va_W) (M : SM) (k0 : Nat) (hk : k0 < 40) (hM : IM M) : Met l yX7_byRule (Cond.code yX7_byRule cX7_byRule 3 (some .boolean) :: WG) rX7_byRule (va_Pc [.ref (bd 0), .int (nI k0)] (PR G B0 (wM G bd M ++ F))) (va_Qi (fun (r : Int32) (_ : Unit) => r = bI (hRM M k0)) (fun (_ : Unit) (t_ : State) => va_P G.1 vwCl (wM G bd M ++ F) t_.heap ∧ va_D (fun q => B0 ≤ q) (wM G bd M ++ F)) (fun q => B0 ≤ q)) rX7_byRule.cells rX7_byRule.slots (fun q => B0 ≤ q) := by
  refine met_of RX7 [(0, .ref (bd 0)), (1, .int (nI k0))] rfl (by decide) (Nat.le_of_ble_eq_true rfl) rfl ?_
  intro p e s m args below meth c C hr hnm
  refine yq ?_
  intro QQ hQ
  obtain ⟨j1, j2, j3, j4, j5, j6, j7, j8, jJ, jQ⟩ := id hM
  refine yy_iconst C (v := (nI 0)) dX7_byRule_0 (pc' := 1) rfl (by decide) ?_
  refine yy_istore_n C (L' := [(2, .int (nI 0)), (0, .ref (bd 0)), (1, .int (nI k0))]) dX7_byRule_1 (pc' := 2) rfl rfl (by decide) rfl ?_
  have lp_2 : ∀ (f_ : Nat) (i : Nat), (hi : i ≤ M.1 3) → (ha : anyB (fun k => !decide (M.2 4 k < nI (M.1 8)) && inB (M.2 1 k0) (M.2 2 k) (M.2 3 k)) i = false) → M.1 3 - i < f_ → YY p l e rX7_byRule s m args below meth c G B0 3 QQ 2 [(2, .int (nI i)), (0, .ref (bd 0)), (1, .int (nI k0))] [] (wM G bd M ++ F) 0 0 := by
    intro f_
    induction f_ with
    | zero => intro i hi ha hf_; exact absurd hf_ (Nat.not_lt_zero _)
    | succ f_ ih =>
      intro i hi ha hf_
      refine yy_iload_n C 0 dX7_byRule_2 (pc' := 3) rfl rfl rfl ?_
      refine yy_aload_n C 1 dX7_byRule_3 (pc' := 4) rfl rfl rfl ?_
      refine yy_get C (v := .int (nI (M.1 3))) fk_X7_109 0 dX7_byRule_4 (pc' := 7) rfl rfl rfl ?_
      refine yn_icmp_ge C (by omega) (by omega) dX7_byRule_7 (pc' := 10) rfl (tgt := 55) (by decide) (fun c_7 => ?_) (fun c_7 => ?_)
      · skip
        refine yy_iconst C (v := (nI 0)) dX7_byRule_55 (pc' := 56) rfl (by decide) ?_
        subst hQ
        exact ye_i C hr rfl () dX7_byRule_56 rfl (by decide) (by decide) (bI_f (fin_at (p := fun k => !decide (M.2 4 k < nI (M.1 8)) && inB (M.2 1 k0) (M.2 2 k) (M.2 3 k)) (by omega) ha))
      · skip
        refine yy_aload_n C 1 dX7_byRule_10 (pc' := 11) rfl rfl rfl ?_
        refine yy_get C (v := .int (nI (M.1 8))) fk_X7_106 0 dX7_byRule_11 (pc' := 14) rfl rfl rfl ?_
        refine yy_aload_n C 1 dX7_byRule_14 (pc' := 15) rfl rfl rfl ?_
        refine yy_get C (v := .ref (bd 5)) fk_X7_26 0 dX7_byRule_15 (pc' := 18) rfl rfl rfl ?_
        refine yy_iload_n C 0 dX7_byRule_18 (pc' := 19) rfl rfl rfl ?_
        refine yy_iald C 5 dX7_byRule_19 (pc' := 20) rfl rfl (by omega) (by decide) ?_
        refine yy_icmp_gt C dX7_byRule_20 (pc' := 23) rfl (tgt := 49) (by decide) (fun c_20 => ?_) (fun c_20 => ?_)
        · skip
          refine yy_iinc C (v := (nI (i + 1))) (L' := [(2, .int (nI (i + 1))), (0, .ref (bd 0)), (1, .int (nI k0))]) 0 dX7_byRule_49 (pc' := 52) rfl rfl (nI_add i 1) (by decide) rfl ?_
          refine yy_goto C (tgt := 2) dX7_byRule_52 (by decide) ?_
          refine yy_loc [0, 1, 2] rfl ?_
          exact ih (i + 1) (by omega) (anyB_s ha (by simp [c_20])) (by omega)
        · skip
          refine yy_aload_n C 1 dX7_byRule_23 (pc' := 24) rfl rfl rfl ?_
          refine yy_get C (v := .ref (bd 2)) fk_X7_17 0 dX7_byRule_24 (pc' := 27) rfl rfl rfl ?_
          refine yy_iload_n C 2 dX7_byRule_27 (pc' := 28) rfl rfl rfl ?_
          refine yy_iald C 2 dX7_byRule_28 (pc' := 29) rfl rfl (by omega) (by decide) ?_
          refine yy_aload_n C 1 dX7_byRule_29 (pc' := 30) rfl rfl rfl ?_
          refine yy_get C (v := .ref (bd 3)) fk_X7_20 0 dX7_byRule_30 (pc' := 33) rfl rfl rfl ?_
          refine yy_iload_n C 0 dX7_byRule_33 (pc' := 34) rfl rfl rfl ?_
          refine yy_iald C 3 dX7_byRule_34 (pc' := 35) rfl rfl (by omega) (by decide) ?_
          refine yy_aload_n C 1 dX7_byRule_35 (pc' := 36) rfl rfl rfl ?_
          refine yy_get C (v := .ref (bd 4)) fk_X7_23 0 dX7_byRule_36 (pc' := 39) rfl rfl rfl ?_
          refine yy_iload_n C 0 dX7_byRule_39 (pc' := 40) rfl rfl rfl ?_
          refine yy_iald C 4 dX7_byRule_40 (pc' := 41) rfl rfl (by omega) (by decide) ?_
          refine yc_i (yr_S C (As := [.int ((M.2 1) k0), .int ((M.2 2) i), .int ((M.2 3) i)]) (rest := []) lk_X7_85 cd_X7_isIn st_X7_isIn (mX7_isIn l G B0 (wM G bd M ++ F) ((M.2 1) k0) ((M.2 2) i) ((M.2 3) i)) ⟨by decide, by decide⟩ ⟨by decide, by decide⟩ rfl rfl (Nat.le_of_ble_eq_true rfl) dX7_byRule_41) (pc' := 44) rfl (fun r1 _ hw1 => ?_)
          subst hw1
          refine yb_if_eq C dX7_byRule_44 (pc' := 47) rfl (tgt := 49) (by decide) (fun c_44 => ?_) (fun c_44 => ?_)
          · skip
            refine yy_iinc C (v := (nI (i + 1))) (L' := [(2, .int (nI (i + 1))), (0, .ref (bd 0)), (1, .int (nI k0))]) 0 dX7_byRule_49 (pc' := 52) rfl rfl (nI_add i 1) (by decide) rfl ?_
            refine yy_goto C (tgt := 2) dX7_byRule_52 (by decide) ?_
            refine yy_loc [0, 1, 2] rfl ?_
            exact ih (i + 1) (by omega) (anyB_s ha (by simp [c_20, c_44])) (by omega)
          · skip
            refine yy_iconst C (v := (nI 1)) dX7_byRule_47 (pc' := 48) rfl (by decide) ?_
            subst hQ
            exact ye_i C hr rfl () dX7_byRule_48 rfl (by decide) (by decide) (bI_t (anyB_t (i := i) (by omega) (by simp [c_20, c_44])))
  refine yy_loc (L' := [(2, .int (nI 0)), (0, .ref (bd 0)), (1, .int (nI k0))]) [0, 1, 2] rfl ?_
  exact lp_2 (M.1 3 - 0 + 1) 0 (Nat.zero_le _) rfl (Nat.lt_succ_self _)

abbrev rX7_bySpan : Room := { frames := 1, cells := 0, slots := 0, locals := 23 }
set_option maxHeartbeats 4000000 in
set_option maxRecDepth 100000 in
theorem mX7_bySpan (l : Launch) (G : gG) (B0 : Nat) (bd : Nat → Nat) (F : va_W) (M : SM) (k0 : Nat) (hk : k0 < 40) (hM : IM M) : Met l yX7_bySpan (Cond.code yX7_bySpan cX7_bySpan 3 (some .boolean) :: WG) rX7_bySpan (va_Pc [.ref (bd 0), .int (nI k0)] (PR G B0 (wM G bd M ++ F))) (va_Qi (fun (r : Int32) (_ : Unit) => r = bI (hSM M k0)) (fun (_ : Unit) (t_ : State) => va_P G.1 vwCl (wM G bd M ++ F) t_.heap ∧ va_D (fun q => B0 ≤ q) (wM G bd M ++ F)) (fun q => B0 ≤ q)) rX7_bySpan.cells rX7_bySpan.slots (fun q => B0 ≤ q) := by
  refine met_of RX7 [(0, .ref (bd 0)), (1, .int (nI k0))] rfl (by decide) (Nat.le_of_ble_eq_true rfl) rfl ?_
  intro p e s m args below meth c C hr hnm
  refine yq ?_
  intro QQ hQ
  obtain ⟨j1, j2, j3, j4, j5, j6, j7, j8, jJ, jQ⟩ := id hM
  refine yy_iconst C (v := (nI 0)) dX7_bySpan_0 (pc' := 1) rfl (by decide) ?_
  refine yy_istore_n C (L' := [(2, .int (nI 0)), (0, .ref (bd 0)), (1, .int (nI k0))]) dX7_bySpan_1 (pc' := 2) rfl rfl (by decide) rfl ?_
  have lp_2 : ∀ (f_ : Nat) (i : Nat), (hi : i ≤ M.1 4) → (ha : anyB (fun k => frc (M.2 17) (M.2 8) (M.1 8) k && decide (M.2 5 k = M.2 0 k0) && inB (nI (idxN (M.2 0) k0)) (M.2 6 k) (M.2 7 k)) i = false) → M.1 4 - i < f_ → YY p l e rX7_bySpan s m args below meth c G B0 3 QQ 2 [(2, .int (nI i)), (0, .ref (bd 0)), (1, .int (nI k0))] [] (wM G bd M ++ F) 0 0 := by
    intro f_
    induction f_ with
    | zero => intro i hi ha hf_; exact absurd hf_ (Nat.not_lt_zero _)
    | succ f_ ih =>
      intro i hi ha hf_
      refine yy_iload_n C 0 dX7_bySpan_2 (pc' := 3) rfl rfl rfl ?_
      refine yy_aload_n C 1 dX7_bySpan_3 (pc' := 4) rfl rfl rfl ?_
      refine yy_get C (v := .int (nI (M.1 4))) fk_X7_112 0 dX7_bySpan_4 (pc' := 7) rfl rfl rfl ?_
      refine yn_icmp_ge C (by omega) (by omega) dX7_bySpan_7 (pc' := 10) rfl (tgt := 78) (by decide) (fun c_7 => ?_) (fun c_7 => ?_)
      · skip
        refine yy_iconst C (v := (nI 0)) dX7_bySpan_78 (pc' := 79) rfl (by decide) ?_
        subst hQ
        exact ye_i C hr rfl () dX7_bySpan_79 rfl (by decide) (by decide) (bI_f (fin_at (p := fun k => frc (M.2 17) (M.2 8) (M.1 8) k && decide (M.2 5 k = M.2 0 k0) && inB (nI (idxN (M.2 0) k0)) (M.2 6 k) (M.2 7 k)) (by omega) ha))
      · skip
        refine yy_aload_n C 1 dX7_bySpan_10 (pc' := 11) rfl rfl rfl ?_
        refine yy_get C (v := .int (nI (M.1 8))) fk_X7_106 0 dX7_bySpan_11 (pc' := 14) rfl rfl rfl ?_
        refine yy_aload_n C 1 dX7_bySpan_14 (pc' := 15) rfl rfl rfl ?_
        refine yy_get C (v := .ref (bd 9)) fk_X7_38 0 dX7_bySpan_15 (pc' := 18) rfl rfl rfl ?_
        refine yy_iload_n C 0 dX7_bySpan_18 (pc' := 19) rfl rfl rfl ?_
        refine yy_iald C 9 dX7_bySpan_19 (pc' := 20) rfl rfl (by omega) (by decide) ?_
        refine yy_icmp_gt C dX7_bySpan_20 (pc' := 23) rfl (tgt := 72) (by decide) (fun c_20 => ?_) (fun c_20 => ?_)
        · skip
          refine yy_iinc C (v := (nI (i + 1))) (L' := [(2, .int (nI (i + 1))), (0, .ref (bd 0)), (1, .int (nI k0))]) 0 dX7_bySpan_72 (pc' := 75) rfl rfl (nI_add i 1) (by decide) rfl ?_
          refine yy_goto C (tgt := 2) dX7_bySpan_75 (by decide) ?_
          refine yy_loc [0, 1, 2] rfl ?_
          exact ih (i + 1) (by omega) (anyB_s ha (by simp [frc, c_20])) (by omega)
        · skip
          refine yy_aload_n C 1 dX7_bySpan_23 (pc' := 24) rfl rfl rfl ?_
          refine yy_get C (v := .ref (bd 18)) fk_X7_65 0 dX7_bySpan_24 (pc' := 27) rfl rfl rfl ?_
          refine yy_iload_n C 0 dX7_bySpan_27 (pc' := 28) rfl rfl rfl ?_
          refine yy_zald C 18 dX7_bySpan_28 (pc' := 29) rfl rfl (by omega) (by decide) ?_
          refine yy_if_ne C dX7_bySpan_29 (pc' := 32) rfl (tgt := 72) (by decide) (fun c_29 => ?_) (fun c_29 => ?_)
          · skip
            refine yy_iinc C (v := (nI (i + 1))) (L' := [(2, .int (nI (i + 1))), (0, .ref (bd 0)), (1, .int (nI k0))]) 0 dX7_bySpan_72 (pc' := 75) rfl rfl (nI_add i 1) (by decide) rfl ?_
            refine yy_goto C (tgt := 2) dX7_bySpan_75 (by decide) ?_
            refine yy_loc [0, 1, 2] rfl ?_
            exact ih (i + 1) (by omega) (anyB_s ha (by simp [frc, c_20, c_29])) (by omega)
          · skip
            refine yy_aload_n C 1 dX7_bySpan_32 (pc' := 33) rfl rfl rfl ?_
            refine yy_get C (v := .ref (bd 6)) fk_X7_29 0 dX7_bySpan_33 (pc' := 36) rfl rfl rfl ?_
            refine yy_iload_n C 0 dX7_bySpan_36 (pc' := 37) rfl rfl rfl ?_
            refine yy_iald C 6 dX7_bySpan_37 (pc' := 38) rfl rfl (by omega) (by decide) ?_
            refine yy_aload_n C 1 dX7_bySpan_38 (pc' := 39) rfl rfl rfl ?_
            refine yy_get C (v := .ref (bd 1)) fk_X7_13 0 dX7_bySpan_39 (pc' := 42) rfl rfl rfl ?_
            refine yy_iload_n C 2 dX7_bySpan_42 (pc' := 43) rfl rfl rfl ?_
            refine yy_iald C 1 dX7_bySpan_43 (pc' := 44) rfl rfl (by omega) (by decide) ?_
            refine yy_icmp_ne C dX7_bySpan_44 (pc' := 47) rfl (tgt := 72) (by decide) (fun c_44 => ?_) (fun c_44 => ?_)
            · skip
              refine yy_iinc C (v := (nI (i + 1))) (L' := [(2, .int (nI (i + 1))), (0, .ref (bd 0)), (1, .int (nI k0))]) 0 dX7_bySpan_72 (pc' := 75) rfl rfl (nI_add i 1) (by decide) rfl ?_
              refine yy_goto C (tgt := 2) dX7_bySpan_75 (by decide) ?_
              refine yy_loc [0, 1, 2] rfl ?_
              exact ih (i + 1) (by omega) (anyB_s ha (by simp [frc, c_20, c_29, c_44])) (by omega)
            · skip
              refine yy_aload_n C 1 dX7_bySpan_47 (pc' := 48) rfl rfl rfl ?_
              refine yy_iload_n C 2 dX7_bySpan_48 (pc' := 49) rfl rfl rfl ?_
              refine yc_i (yr_V C (As := [.int (nI k0)]) (rest := []) lk_X7_103 cd_X7_index im_X7_index se_X7_index (mX7_index l G B0 bd F (M) k0 (by omega) (by exact hM)) ⟨by decide, by decide⟩ ⟨by decide, by decide⟩ 0 rfl rfl rfl rfl (Nat.le_of_ble_eq_true rfl) dX7_bySpan_49) (pc' := 52) rfl (fun r1 _ hw1 => ?_)
              subst hw1
              refine yy_aload_n C 1 dX7_bySpan_52 (pc' := 53) rfl rfl rfl ?_
              refine yy_get C (v := .ref (bd 7)) fk_X7_32 0 dX7_bySpan_53 (pc' := 56) rfl rfl rfl ?_
              refine yy_iload_n C 0 dX7_bySpan_56 (pc' := 57) rfl rfl rfl ?_
              refine yy_iald C 7 dX7_bySpan_57 (pc' := 58) rfl rfl (by omega) (by decide) ?_
              refine yy_aload_n C 1 dX7_bySpan_58 (pc' := 59) rfl rfl rfl ?_
              refine yy_get C (v := .ref (bd 8)) fk_X7_35 0 dX7_bySpan_59 (pc' := 62) rfl rfl rfl ?_
              refine yy_iload_n C 0 dX7_bySpan_62 (pc' := 63) rfl rfl rfl ?_
              refine yy_iald C 8 dX7_bySpan_63 (pc' := 64) rfl rfl (by omega) (by decide) ?_
              refine yc_i (yr_S C (As := [.int (nI (idxN (M.2 0) k0)), .int ((M.2 6) i), .int ((M.2 7) i)]) (rest := []) lk_X7_85 cd_X7_isIn st_X7_isIn (mX7_isIn l G B0 (wM G bd M ++ F) (nI (idxN (M.2 0) k0)) ((M.2 6) i) ((M.2 7) i)) ⟨by decide, by decide⟩ ⟨by decide, by decide⟩ rfl rfl (Nat.le_of_ble_eq_true rfl) dX7_bySpan_64) (pc' := 67) rfl (fun r2 _ hw2 => ?_)
              subst hw2
              refine yb_if_eq C dX7_bySpan_67 (pc' := 70) rfl (tgt := 72) (by decide) (fun c_67 => ?_) (fun c_67 => ?_)
              · skip
                refine yy_iinc C (v := (nI (i + 1))) (L' := [(2, .int (nI (i + 1))), (0, .ref (bd 0)), (1, .int (nI k0))]) 0 dX7_bySpan_72 (pc' := 75) rfl rfl (nI_add i 1) (by decide) rfl ?_
                refine yy_goto C (tgt := 2) dX7_bySpan_75 (by decide) ?_
                refine yy_loc [0, 1, 2] rfl ?_
                exact ih (i + 1) (by omega) (anyB_s ha (by simp [frc, c_20, c_29, c_44, c_67])) (by omega)
              · skip
                refine yy_iconst C (v := (nI 1)) dX7_bySpan_70 (pc' := 71) rfl (by decide) ?_
                subst hQ
                exact ye_i C hr rfl () dX7_bySpan_71 rfl (by decide) (by decide) (bI_t (anyB_t (i := i) (by omega) (by simp [frc, c_20, c_29, c_44, c_67])))
  refine yy_loc (L' := [(2, .int (nI 0)), (0, .ref (bd 0)), (1, .int (nI k0))]) [0, 1, 2] rfl ?_
  exact lp_2 (M.1 4 - 0 + 1) 0 (Nat.zero_le _) rfl (Nat.lt_succ_self _)

abbrev rX7_hides : Room := { frames := 2, cells := 0, slots := 0, locals := 45 }
set_option maxHeartbeats 4000000 in
set_option maxRecDepth 100000 in
theorem mX7_hides (l : Launch) (G : gG) (B0 : Nat) (bd : Nat → Nat) (F : va_W) (M : SM) (k : Nat) (hk : k < 40) (hM : IM M) : Met l yX7_hides (Cond.code yX7_hides cX7_hides 2 (some .boolean) :: WG) rX7_hides (va_Pc [.ref (bd 0), .int (nI k)] (PR G B0 (wM G bd M ++ F))) (va_Qi (fun (r : Int32) (_ : Unit) => r = bI (hidM M k)) (fun (_ : Unit) (t_ : State) => va_P G.1 vwCl (wM G bd M ++ F) t_.heap ∧ va_D (fun q => B0 ≤ q) (wM G bd M ++ F)) (fun q => B0 ≤ q)) rX7_hides.cells rX7_hides.slots (fun q => B0 ≤ q) := by
  refine met_of RX7 [(0, .ref (bd 0)), (1, .int (nI k))] rfl (by decide) (Nat.le_of_ble_eq_true rfl) rfl ?_
  intro p e s m args below meth c C hr hnm
  refine yq ?_
  intro QQ hQ
  obtain ⟨j1, j2, j3, j4, j5, j6, j7, j8, jJ, jQ⟩ := id hM
  refine yy_aload_n C 0 dX7_hides_0 (pc' := 1) rfl rfl rfl ?_
  refine yy_iload_n C 1 dX7_hides_1 (pc' := 2) rfl rfl rfl ?_
  refine yc_i (yr_V C (As := [.int (nI k)]) (rest := []) lk_X7_115 cd_X7_byRule im_X7_byRule se_X7_byRule (mX7_byRule l G B0 bd F (M) k (by omega) (by exact hM)) ⟨by decide, by decide⟩ ⟨by decide, by decide⟩ 0 rfl rfl rfl rfl (Nat.le_of_ble_eq_true rfl) dX7_hides_2) (pc' := 5) rfl (fun r1 _ hw1 => ?_)
  subst hw1
  refine yb_if_ne C dX7_hides_5 (pc' := 8) rfl (tgt := 16) (by decide) (fun c_5 => ?_) (fun c_5 => ?_)
  · skip
    refine yy_iconst C (v := (nI 1)) dX7_hides_16 (pc' := 17) rfl (by decide) ?_
    refine yy_goto C (tgt := 21) dX7_hides_17 (by decide) ?_
    subst hQ
    exact ye_i C hr rfl () dX7_hides_21 rfl (by decide) (by decide) (bI_t (by simp [hidM, c_5]))
  · skip
    refine yy_aload_n C 0 dX7_hides_8 (pc' := 9) rfl rfl rfl ?_
    refine yy_iload_n C 1 dX7_hides_9 (pc' := 10) rfl rfl rfl ?_
    refine yc_i (yr_V C (As := [.int (nI k)]) (rest := []) lk_X7_118 cd_X7_bySpan im_X7_bySpan se_X7_bySpan (mX7_bySpan l G B0 bd F (M) k (by omega) (by exact hM)) ⟨by decide, by decide⟩ ⟨by decide, by decide⟩ 0 rfl rfl rfl rfl (Nat.le_of_ble_eq_true rfl) dX7_hides_10) (pc' := 13) rfl (fun r2 _ hw2 => ?_)
    subst hw2
    refine yb_if_eq C dX7_hides_13 (pc' := 16) rfl (tgt := 20) (by decide) (fun c_13 => ?_) (fun c_13 => ?_)
    · skip
      refine yy_iconst C (v := (nI 0)) dX7_hides_20 (pc' := 21) rfl (by decide) ?_
      subst hQ
      exact ye_i C hr rfl () dX7_hides_21 rfl (by decide) (by decide) (bI_f (by simp [hidM, c_5, c_13]))
    · skip
      refine yy_iconst C (v := (nI 1)) dX7_hides_16 (pc' := 17) rfl (by decide) ?_
      refine yy_goto C (tgt := 21) dX7_hides_17 (by decide) ?_
      subst hQ
      exact ye_i C hr rfl () dX7_hides_21 rfl (by decide) (by decide) (bI_t (by simp [hidM, c_5, c_13]))

abbrev rX7_hiddenLines : Room := { frames := 3, cells := 0, slots := 0, locals := 66 }
set_option maxHeartbeats 4000000 in
set_option maxRecDepth 100000 in
theorem mX7_hiddenLines (l : Launch) (G : gG) (B0 : Nat) (bd : Nat → Nat) (F : va_W) (M : SM) (hM : IM M) : Met l yX7_hiddenLines (Cond.code yX7_hiddenLines cX7_hiddenLines 3 (some .int) :: WG) rX7_hiddenLines (va_Pc [.ref (bd 0)] (PR G B0 (wM G bd M ++ F))) (va_Qi (fun (r : Int32) (_ : Unit) => r = nI (fb_ct (hidM M) (M.1 2))) (fun (_ : Unit) (t_ : State) => va_P G.1 vwCl (wM G bd M ++ F) t_.heap ∧ va_D (fun q => B0 ≤ q) (wM G bd M ++ F)) (fun q => B0 ≤ q)) rX7_hiddenLines.cells rX7_hiddenLines.slots (fun q => B0 ≤ q) := by
  refine met_of RX7 [(0, .ref (bd 0))] rfl (by decide) (Nat.le_of_ble_eq_true rfl) rfl ?_
  intro p e s m args below meth c C hr hnm
  refine yq ?_
  intro QQ hQ
  obtain ⟨j1, j2, j3, j4, j5, j6, j7, j8, jJ, jQ⟩ := id hM
  refine yy_iconst C (v := (nI 0)) dX7_hiddenLines_0 (pc' := 1) rfl (by decide) ?_
  refine yy_istore_n C (L' := [(1, .int (nI 0)), (0, .ref (bd 0))]) dX7_hiddenLines_1 (pc' := 2) rfl rfl (by decide) rfl ?_
  refine yy_iconst C (v := (nI 0)) dX7_hiddenLines_2 (pc' := 3) rfl (by decide) ?_
  refine yy_istore_n C (L' := [(2, .int (nI 0)), (1, .int (nI 0)), (0, .ref (bd 0))]) dX7_hiddenLines_3 (pc' := 4) rfl rfl (by decide) rfl ?_
  have lp_4 : ∀ (f_ : Nat) (i : Nat), (hi : i ≤ M.1 2) → M.1 2 - i < f_ → YY p l e rX7_hiddenLines s m args below meth c G B0 3 QQ 4 [(1, .int (nI (fb_ct (hidM M) i))), (2, .int (nI i)), (0, .ref (bd 0))] [] (wM G bd M ++ F) 0 0 := by
    intro f_
    induction f_ with
    | zero => intro i hi hf_; exact absurd hf_ (Nat.not_lt_zero _)
    | succ f_ ih =>
      intro i hi hf_
      refine yy_iload_n C 1 dX7_hiddenLines_4 (pc' := 5) rfl rfl rfl ?_
      refine yy_aload_n C 2 dX7_hiddenLines_5 (pc' := 6) rfl rfl rfl ?_
      refine yy_get C (v := .int (nI (M.1 2))) fk_X7_89 0 dX7_hiddenLines_6 (pc' := 9) rfl rfl rfl ?_
      refine yn_icmp_ge C (by omega) (by omega) dX7_hiddenLines_9 (pc' := 12) rfl (tgt := 34) (by decide) (fun c_9 => ?_) (fun c_9 => ?_)
      · skip
        refine yy_iload_n C 0 dX7_hiddenLines_34 (pc' := 35) rfl rfl rfl ?_
        subst hQ
        exact ye_i C hr (vp_nar_int _) () dX7_hiddenLines_35 rfl (by decide) (by decide) (by rw [show i = M.1 2 by omega])
      · skip
        refine yy_iload_n C 0 dX7_hiddenLines_12 (pc' := 13) rfl rfl rfl ?_
        refine yy_aload_n C 2 dX7_hiddenLines_13 (pc' := 14) rfl rfl rfl ?_
        refine yy_iload_n C 1 dX7_hiddenLines_14 (pc' := 15) rfl rfl rfl ?_
        refine yc_i (yr_V C (As := [.int (nI i)]) (rest := [.int (nI (fb_ct (hidM M) i))]) lk_X7_121 cd_X7_hides im_X7_hides se_X7_hides (mX7_hides l G B0 bd F (M) i (by omega) (by exact hM)) ⟨by decide, by decide⟩ ⟨by decide, by decide⟩ 0 rfl rfl rfl rfl (Nat.le_of_ble_eq_true rfl) dX7_hiddenLines_15) (pc' := 18) rfl (fun r1 _ hw1 => ?_)
        subst hw1
        refine yb_if_eq C dX7_hiddenLines_18 (pc' := 21) rfl (tgt := 25) (by decide) (fun c_18 => ?_) (fun c_18 => ?_)
        · skip
          refine yy_iconst C (v := (nI 0)) dX7_hiddenLines_25 (pc' := 26) rfl (by decide) ?_
          refine yy_iadd C (v := (nI (fb_ct (hidM M) i))) dX7_hiddenLines_26 (pc' := 27) rfl (nI_add (fb_ct (hidM M) i) 0) ?_
          refine yy_istore_n C (L' := [(1, .int (nI (fb_ct (hidM M) i))), (2, .int (nI i)), (0, .ref (bd 0))]) dX7_hiddenLines_27 (pc' := 28) rfl rfl (by decide) rfl ?_
          refine yy_iinc C (v := (nI (i + 1))) (L' := [(2, .int (nI (i + 1))), (1, .int (nI (fb_ct (hidM M) i))), (0, .ref (bd 0))]) 1 dX7_hiddenLines_28 (pc' := 31) rfl rfl (nI_add i 1) (by decide) rfl ?_
          refine yy_goto C (tgt := 4) dX7_hiddenLines_31 (by decide) ?_
          rw [← ct_f (p := (hidM M)) (i := i) (by simp [c_18])]
          refine yy_loc [1, 0, 2] rfl ?_
          exact ih (i + 1) (by omega) (by omega)
        · skip
          refine yy_iconst C (v := (nI 1)) dX7_hiddenLines_21 (pc' := 22) rfl (by decide) ?_
          refine yy_goto C (tgt := 26) dX7_hiddenLines_22 (by decide) ?_
          refine yy_iadd C (v := (nI ((fb_ct (hidM M) i) + 1))) dX7_hiddenLines_26 (pc' := 27) rfl (nI_add (fb_ct (hidM M) i) 1) ?_
          refine yy_istore_n C (L' := [(1, .int (nI ((fb_ct (hidM M) i) + 1))), (2, .int (nI i)), (0, .ref (bd 0))]) dX7_hiddenLines_27 (pc' := 28) rfl rfl (by decide) rfl ?_
          refine yy_iinc C (v := (nI (i + 1))) (L' := [(2, .int (nI (i + 1))), (1, .int (nI ((fb_ct (hidM M) i) + 1))), (0, .ref (bd 0))]) 1 dX7_hiddenLines_28 (pc' := 31) rfl rfl (nI_add i 1) (by decide) rfl ?_
          refine yy_goto C (tgt := 4) dX7_hiddenLines_31 (by decide) ?_
          rw [← ct_t (p := (hidM M)) (i := i) (by simp [c_18])]
          refine yy_loc [1, 0, 2] rfl ?_
          exact ih (i + 1) (by omega) (by omega)
  refine yy_loc (L' := [(1, .int (nI 0)), (2, .int (nI 0)), (0, .ref (bd 0))]) [1, 0, 2] rfl ?_
  exact lp_4 (M.1 2 - 0 + 1) 0 (Nat.zero_le _) (Nat.lt_succ_self _)

abbrev rX7_lateOnes : Room := { frames := 0, cells := 0, slots := 0, locals := 0 }
set_option maxHeartbeats 4000000 in
set_option maxRecDepth 100000 in
theorem mX7_lateOnes (l : Launch) (G : gG) (B0 : Nat) (bd : Nat → Nat) (F : va_W) (M : SM) (hM : IM M) : Met l yX7_lateOnes (Cond.code yX7_lateOnes cX7_lateOnes 3 (some .int) :: WG) rX7_lateOnes (va_Pc [.ref (bd 0)] (PR G B0 (wM G bd M ++ F))) (va_Qi (fun (r : Int32) (_ : Unit) => r = nI (lateC (M.1 6) (M.2 20) (M.2 14) (M.1 8))) (fun (_ : Unit) (t_ : State) => va_P G.1 vwCl (wM G bd M ++ F) t_.heap ∧ va_D (fun q => B0 ≤ q) (wM G bd M ++ F)) (fun q => B0 ≤ q)) rX7_lateOnes.cells rX7_lateOnes.slots (fun q => B0 ≤ q) := by
  refine met_of RX7 [(0, .ref (bd 0))] rfl (by decide) (Nat.le_of_ble_eq_true rfl) rfl ?_
  intro p e s m args below meth c C hr hnm
  refine yq ?_
  intro QQ hQ
  obtain ⟨j1, j2, j3, j4, j5, j6, j7, j8, jJ, jQ⟩ := id hM
  refine yy_iconst C (v := (nI 0)) dX7_lateOnes_0 (pc' := 1) rfl (by decide) ?_
  refine yy_istore_n C (L' := [(1, .int (nI 0)), (0, .ref (bd 0))]) dX7_lateOnes_1 (pc' := 2) rfl rfl (by decide) rfl ?_
  refine yy_iconst C (v := (nI 0)) dX7_lateOnes_2 (pc' := 3) rfl (by decide) ?_
  refine yy_istore_n C (L' := [(2, .int (nI 0)), (1, .int (nI 0)), (0, .ref (bd 0))]) dX7_lateOnes_3 (pc' := 4) rfl rfl (by decide) rfl ?_
  have lp_4 : ∀ (f_ : Nat) (i : Nat), (hi : i ≤ M.1 6) → M.1 6 - i < f_ → YY p l e rX7_lateOnes s m args below meth c G B0 3 QQ 4 [(1, .int (nI (fb_ct (fun k => decide (M.2 20 k = nI 119) && !decide (nI (M.1 8) - M.2 14 k ≤ nI 20)) i))), (2, .int (nI i)), (0, .ref (bd 0))] [] (wM G bd M ++ F) 0 0 := by
    intro f_
    induction f_ with
    | zero => intro i hi hf_; exact absurd hf_ (Nat.not_lt_zero _)
    | succ f_ ih =>
      intro i hi hf_
      refine yy_iload_n C 1 dX7_lateOnes_4 (pc' := 5) rfl rfl rfl ?_
      refine yy_aload_n C 2 dX7_lateOnes_5 (pc' := 6) rfl rfl rfl ?_
      refine yy_get C (v := .int (nI (M.1 6))) fk_X7_155 0 dX7_lateOnes_6 (pc' := 9) rfl rfl rfl ?_
      refine yn_icmp_ge C (by omega) (by omega) dX7_lateOnes_9 (pc' := 12) rfl (tgt := 53) (by decide) (fun c_9 => ?_) (fun c_9 => ?_)
      · skip
        refine yy_iload_n C 0 dX7_lateOnes_53 (pc' := 54) rfl rfl rfl ?_
        subst hQ
        exact ye_i C hr (vp_nar_int _) () dX7_lateOnes_54 rfl (by decide) (by decide) (by rw [show i = M.1 6 by omega]; rfl)
      · skip
        refine yy_iload_n C 0 dX7_lateOnes_12 (pc' := 13) rfl rfl rfl ?_
        refine yy_aload_n C 2 dX7_lateOnes_13 (pc' := 14) rfl rfl rfl ?_
        refine yy_get C (v := .ref (bd 21)) fk_X7_75 0 dX7_lateOnes_14 (pc' := 17) rfl rfl rfl ?_
        refine yy_iload_n C 1 dX7_lateOnes_17 (pc' := 18) rfl rfl rfl ?_
        refine yy_cald C 21 dX7_lateOnes_18 (pc' := 19) rfl rfl (by omega) (by decide) ?_
        refine yy_bipush C (v := (nI 119)) dX7_lateOnes_19 (pc' := 21) rfl (by decide) ?_
        refine yy_icmp_ne C dX7_lateOnes_21 (pc' := 24) rfl (tgt := 44) (by decide) (fun c_21 => ?_) (fun c_21 => ?_)
        · skip
          refine yy_iconst C (v := (nI 0)) dX7_lateOnes_44 (pc' := 45) rfl (by decide) ?_
          refine yy_iadd C (v := (nI (fb_ct (fun k => decide (M.2 20 k = nI 119) && !decide (nI (M.1 8) - M.2 14 k ≤ nI 20)) i))) dX7_lateOnes_45 (pc' := 46) rfl (nI_add (fb_ct (fun k => decide (M.2 20 k = nI 119) && !decide (nI (M.1 8) - M.2 14 k ≤ nI 20)) i) 0) ?_
          refine yy_istore_n C (L' := [(1, .int (nI (fb_ct (fun k => decide (M.2 20 k = nI 119) && !decide (nI (M.1 8) - M.2 14 k ≤ nI 20)) i))), (2, .int (nI i)), (0, .ref (bd 0))]) dX7_lateOnes_46 (pc' := 47) rfl rfl (by decide) rfl ?_
          refine yy_iinc C (v := (nI (i + 1))) (L' := [(2, .int (nI (i + 1))), (1, .int (nI (fb_ct (fun k => decide (M.2 20 k = nI 119) && !decide (nI (M.1 8) - M.2 14 k ≤ nI 20)) i))), (0, .ref (bd 0))]) 1 dX7_lateOnes_47 (pc' := 50) rfl rfl (nI_add i 1) (by decide) rfl ?_
          refine yy_goto C (tgt := 4) dX7_lateOnes_50 (by decide) ?_
          rw [← ct_f (p := (fun k => decide (M.2 20 k = nI 119) && !decide (nI (M.1 8) - M.2 14 k ≤ nI 20))) (i := i) (by simp [c_21])]
          refine yy_loc [1, 0, 2] rfl ?_
          exact ih (i + 1) (by omega) (by omega)
        · skip
          refine yy_aload_n C 2 dX7_lateOnes_24 (pc' := 25) rfl rfl rfl ?_
          refine yy_get C (v := .int (nI (M.1 8))) fk_X7_106 0 dX7_lateOnes_25 (pc' := 28) rfl rfl rfl ?_
          refine yy_aload_n C 2 dX7_lateOnes_28 (pc' := 29) rfl rfl rfl ?_
          refine yy_get C (v := .ref (bd 15)) fk_X7_56 0 dX7_lateOnes_29 (pc' := 32) rfl rfl rfl ?_
          refine yy_iload_n C 1 dX7_lateOnes_32 (pc' := 33) rfl rfl rfl ?_
          refine yy_iald C 15 dX7_lateOnes_33 (pc' := 34) rfl rfl (by omega) (by decide) ?_
          refine yy_isub C (v := ((nI (M.1 8)) - ((M.2 14) i))) dX7_lateOnes_34 (pc' := 35) rfl rfl ?_
          refine yy_bipush C (v := (nI 20)) dX7_lateOnes_35 (pc' := 37) rfl (by decide) ?_
          refine yy_icmp_le C dX7_lateOnes_37 (pc' := 40) rfl (tgt := 44) (by decide) (fun c_37 => ?_) (fun c_37 => ?_)
          · skip
            refine yy_iconst C (v := (nI 0)) dX7_lateOnes_44 (pc' := 45) rfl (by decide) ?_
            refine yy_iadd C (v := (nI (fb_ct (fun k => decide (M.2 20 k = nI 119) && !decide (nI (M.1 8) - M.2 14 k ≤ nI 20)) i))) dX7_lateOnes_45 (pc' := 46) rfl (nI_add (fb_ct (fun k => decide (M.2 20 k = nI 119) && !decide (nI (M.1 8) - M.2 14 k ≤ nI 20)) i) 0) ?_
            refine yy_istore_n C (L' := [(1, .int (nI (fb_ct (fun k => decide (M.2 20 k = nI 119) && !decide (nI (M.1 8) - M.2 14 k ≤ nI 20)) i))), (2, .int (nI i)), (0, .ref (bd 0))]) dX7_lateOnes_46 (pc' := 47) rfl rfl (by decide) rfl ?_
            refine yy_iinc C (v := (nI (i + 1))) (L' := [(2, .int (nI (i + 1))), (1, .int (nI (fb_ct (fun k => decide (M.2 20 k = nI 119) && !decide (nI (M.1 8) - M.2 14 k ≤ nI 20)) i))), (0, .ref (bd 0))]) 1 dX7_lateOnes_47 (pc' := 50) rfl rfl (nI_add i 1) (by decide) rfl ?_
            refine yy_goto C (tgt := 4) dX7_lateOnes_50 (by decide) ?_
            rw [← ct_f (p := (fun k => decide (M.2 20 k = nI 119) && !decide (nI (M.1 8) - M.2 14 k ≤ nI 20))) (i := i) (by simp [c_21, c_37, Int32.not_lt.mpr c_37])]
            refine yy_loc [1, 0, 2] rfl ?_
            exact ih (i + 1) (by omega) (by omega)
          · skip
            refine yy_iconst C (v := (nI 1)) dX7_lateOnes_40 (pc' := 41) rfl (by decide) ?_
            refine yy_goto C (tgt := 45) dX7_lateOnes_41 (by decide) ?_
            refine yy_iadd C (v := (nI ((fb_ct (fun k => decide (M.2 20 k = nI 119) && !decide (nI (M.1 8) - M.2 14 k ≤ nI 20)) i) + 1))) dX7_lateOnes_45 (pc' := 46) rfl (nI_add (fb_ct (fun k => decide (M.2 20 k = nI 119) && !decide (nI (M.1 8) - M.2 14 k ≤ nI 20)) i) 1) ?_
            refine yy_istore_n C (L' := [(1, .int (nI ((fb_ct (fun k => decide (M.2 20 k = nI 119) && !decide (nI (M.1 8) - M.2 14 k ≤ nI 20)) i) + 1))), (2, .int (nI i)), (0, .ref (bd 0))]) dX7_lateOnes_46 (pc' := 47) rfl rfl (by decide) rfl ?_
            refine yy_iinc C (v := (nI (i + 1))) (L' := [(2, .int (nI (i + 1))), (1, .int (nI ((fb_ct (fun k => decide (M.2 20 k = nI 119) && !decide (nI (M.1 8) - M.2 14 k ≤ nI 20)) i) + 1))), (0, .ref (bd 0))]) 1 dX7_lateOnes_47 (pc' := 50) rfl rfl (nI_add i 1) (by decide) rfl ?_
            refine yy_goto C (tgt := 4) dX7_lateOnes_50 (by decide) ?_
            rw [← ct_t (p := (fun k => decide (M.2 20 k = nI 119) && !decide (nI (M.1 8) - M.2 14 k ≤ nI 20))) (i := i) (by simp [c_21, c_37, Int32.not_le.mp c_37])]
            refine yy_loc [1, 0, 2] rfl ?_
            exact ih (i + 1) (by omega) (by omega)
  refine yy_loc (L' := [(1, .int (nI 0)), (2, .int (nI 0)), (0, .ref (bd 0))]) [1, 0, 2] rfl ?_
  exact lp_4 (M.1 6 - 0 + 1) 0 (Nat.zero_le _) (Nat.lt_succ_self _)
