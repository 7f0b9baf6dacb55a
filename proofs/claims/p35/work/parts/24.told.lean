def qHeld (S : SA) (a_ : Int32) : Int32 := wq (cd1 5 a_) (nI (fb_ct (fun k => hb S (ix a_) k) 40))
def qGiven (S : SA) (a_ : Int32) : Int32 := wq (cd1 5 a_) (nI (fb_ct (fun k => (lgM (S.2.1 13) (S.2.1 14) a_ (S.1 5)).testBit k) 40))
def qOwed (S : SA) (a_ : Int32) : Int32 := wq (cd1 5 a_) (S.2.1 0 (ix a_))
def qLines (S : SA) (a_ : Int32) : Int32 := wq (cd1 (S.1 0) a_) (S.2.1 1 (ix a_))
def qState (S : SA) (a_ : Int32) : Int32 := wq (cd1 (S.1 6) a_) (S.2.1 17 (ix a_))
def qHid (S : SA) (a_ : Int32) : Int32 := wq (cd1 (S.1 1) a_) (bI (hidA S (ix a_)))
def qHolders (S : SA) (a_ : Int32) : Int32 := wq (cd1 (S.1 1) a_) (nI (fb_ct (fun z => hb S z (ix a_)) 5))
def qDoc (S : SA) (a_ : Int32) : Int32 := wq (cd1 (S.1 1) a_) (S.2.1 2 (ix a_))
def qIdx (S : SA) (a_ : Int32) : Int32 := wq (cd1 (S.1 1) a_) (S.2.1 3 (ix a_))
def qWhy (S : SA) (a_ b_ : Int32) : Int32 := wq (cdNH (S.1 1) (hb S) a_ b_) (whyC S (ix a_) (ix b_))
def qHolds (S : SA) (a_ b_ : Int32) : Int32 := wq (cdHolds (S.1 1) a_ b_) (bI (hb S (ix a_) (ix b_)))
def qByLog (S : SA) (a_ b_ : Int32) : Int32 := wq (cdHolds (S.1 1) a_ b_) (bI ((cloA S (lgM (S.2.1 13) (S.2.1 14) a_ (S.1 5))).testBit (ix b_)))
def qRoot (S : SA) (a_ b_ : Int32) : Int32 := wq (cdRoot S a_ b_) (rootC S (ix a_) (ix b_))
def qCauses (S : SA) (a_ b_ : Int32) : Int32 := wq (cdNH (S.1 1) (hb S) a_ b_) (causesI S (ix a_) (ix b_))
def qShare (S : SA) : UInt32 := wqF (cdShare (S.1 6)) (shareF (fb_ct (fun k => decide (S.2.1 17 k = nI 97)) (S.1 6)) (S.1 6))
theorem pBA {α : Type} (a b : α) (x y : List α) : List.Perm (a :: b :: (x ++ y)) (x ++ (a :: b :: y)) :=
  ((List.Perm.cons a List.perm_middle.symm).trans List.perm_middle.symm)
def tok0 : TT := (fun _ => 0, 0)
def nDay (S : SA) : Int32 := nI (S.1 7)
def nHid (S : SA) : Int32 := nI (fb_ct (hidA S) (S.1 1))
def nLate (S : SA) : Int32 := nI (lateC (S.1 6) (S.2.1 17) (S.2.1 18) (S.1 7))
def tA (S : SA) : TT := tcat (tcat (tcat (tcat (tcat (tcat (tcat (tcat (tcat (tok0) (tI (nDay S))) (tch 47)) (tI (nHid S))) (tch 47)) (tI (nLate S))) (tch 47)) (tJ (lN (S.1 9)))) (tch 47)) (tF (qShare S))
def tK1 (S : SA) : Nat → TT
  | 0 => tA S
  | k + 1 => tcat (tcat (tcat (tcat (tcat (tcat (tK1 S k) (tch 59)) (tI (qHeld S (nI k)))) (tI (qGiven S (nI k)))) (tI (qOwed S (nI k)))) (tI (qLines S (nI k)))) (tI (qState S (nI k)))
def tK2 (S : SA) : Nat → TT
  | 0 => tK1 S 5
  | k + 1 => tcat (tcat (tcat (tcat (tcat (tcat (tK2 S k) (tch 59)) (tI (qHid S (nI k)))) (tI (qHolders S (nI k)))) (tI (qDoc S (nI k)))) (tI (qIdx S (nI k)))) (tI (qWhy S (nI 0) (nI k)))
def toldT (S : SA) : TT := tK2 S 12
def TB (S : SA) : Prop := smI (nDay S) ∧ smI (nHid S) ∧ smI (nLate S) ∧ smJ (lN (S.1 9)) ∧ okF (qShare S) ∧ (∀ k, k < 5 → smI (qHeld S (nI k)) ∧ smI (qGiven S (nI k)) ∧ smI (qOwed S (nI k)) ∧ smI (qLines S (nI k)) ∧ smI (qState S (nI k))) ∧ (∀ k, k < 12 → smI (qHid S (nI k)) ∧ smI (qHolders S (nI k)) ∧ smI (qDoc S (nI k)) ∧ smI (qIdx S (nI k)) ∧ smI (qWhy S (nI 0) (nI k))) ∧ ∀ j, j < S.1 6 → narrow .char (.int (S.2.1 17 j)) = .int (S.2.1 17 j)
abbrev rL_told : Room := { frames := 11, cells := 204, slots := 112572, locals := 292 }
set_option maxHeartbeats 4000000 in
set_option maxRecDepth 100000 in
theorem mL_told (l : Launch) (hl0 : l.stackTraces = false) (G : gG) (B0 : Nat) (ad : Nat → Nat) (F : va_W) (S : SA) (hI : IA S) (hT : TB S) : Met l yL_told (Cond.code yL_told cL_told 3 (some (.object "java/lang/String")) :: WG) rL_told (va_Pc [.ref (ad 0)] (PR G B0 ((wA G ad S ++ F)))) (va_Qr (fun (u : Nat × Nat × (Nat → Int32)) => sb_Lat (toldT S).1 (toldT S).2 u.2.2 ∧ sb_Fit u.2.2 ∧ (toldT S).2 ≤ 480) (fun (u : Nat × Nat × (Nat → Int32)) (a_ : Nat) (t_ : State) => a_ = u.1 ∧ va_P G.1 vwCl (wA G ad S ++ ((u.1, .inr (0, [.ref (u.2.1), .int (nI 0), .int (nI 0), .int (nI 0)])) :: (u.2.1, .inl (G.2.2.2.1, (toldT S).2, .inl u.2.2)) :: F)) t_.heap ∧ va_D (fun q => B0 ≤ q) (wA G ad S ++ ((u.1, .inr (0, [.ref (u.2.1), .int (nI 0), .int (nI 0), .int (nI 0)])) :: (u.2.1, .inl (G.2.2.2.1, (toldT S).2, .inl u.2.2)) :: F))) (fun q => B0 ≤ q)) rL_told.cells rL_told.slots (fun q => B0 ≤ q) := by
  refine met_of RL [(0, .ref (ad 0))] rfl (by decide) (Nat.le_of_ble_eq_true rfl) rfl ?_
  intro p e s m args below meth c C hr hnm
  refine yq ?_
  intro QQ hQ
  refine yy_new C inJ4 (ci := 1) rfl fpJ4 cl_L_165 ia_J4 ii_J4 dL_told_0 (pc' := 3) rfl (fs := [.null, .int (nI 0), .int (nI 0), .int (nI 0)]) (def_J4) (Nat.le_of_ble_eq_true rfl) (Nat.le_of_ble_eq_true rfl) (fun o1 => ?_)
  refine yy_widen (cs2 := 1) (ss2 := 4) (Nat.le_of_ble_eq_true rfl) (Nat.le_of_ble_eq_true rfl) ?_
  refine yy_dup C dL_told_3 (pc' := 4) rfl rfl ?_
  refine yc_v (yr_I C (n := 0) (As := []) (rest := [.ref (o1)]) lk_L_167 cd_J4_init_da8c8 im_J4_init_da8c8 rfl (mJ4_init_da8c8 l G B0 (o1) (wA G ad S ++ F)) ⟨by decide, by decide⟩ ⟨(show 1 + 1 ≤ 204 by omega), (show 4 + 16 ≤ 112572 by omega)⟩ rfl rfl (Nat.le_of_ble_eq_true rfl) dL_told_4) (pc' := 7) rfl (fun u1 hw1 => ?_)
  refine yy_widen (cs2 := 2) (ss2 := 20) (show 1 + 1 ≤ 2 by omega) (show 4 + 16 ≤ 20 by omega) ?_
  have hB0 : BO tok0 (u1, 16, fun _ => 0) := ⟨(show 0 ≤ 16 by decide), (show 16 ≤ 1000 by decide), fun i hi => absurd hi (Nat.not_lt_zero i), sb_fit0⟩
  have hn_4 : tok0.2 = 0 := rfl
  refine yy_perm (w' := ((o1, .inr (1, [.ref (u1), .int (nI 0), .int (nI 0), .int (nI tok0.2)])) :: (u1, .inl (G.2.2.2.1, 16, .inl (fun _ => 0))) :: (wA G ad S ++ F))) (List.Perm.refl _) ?_
  refine yy_astore_n C (L' := [(1, .ref (o1)), (0, .ref (ad 0))]) dL_told_7 (pc' := 8) rfl rfl (by decide) rfl ?_
  refine yy_aload_n C 0 dL_told_8 (pc' := 9) rfl rfl rfl ?_
  refine yy_aload_n C 1 dL_told_9 (pc' := 10) rfl rfl rfl ?_
  refine yy_perm (w' := wA G ad S ++ ((o1, .inr (1, [.ref (u1), .int (nI 0), .int (nI 0), .int (nI tok0.2)])) :: (u1, .inl (G.2.2.2.1, 16, .inl (fun _ => 0))) :: F)) (pBA _ _ _ _) ?_
  refine yc_i (yr_V C (As := []) (rest := [.ref (o1)]) lk_L_139 cd_X6_day im_X6_day se_X6_day (mX6_day l G B0 ad ((o1, .inr (1, [.ref (u1), .int (nI 0), .int (nI 0), .int (nI tok0.2)])) :: (u1, .inl (G.2.2.2.1, 16, .inl (fun _ => 0))) :: F) S hI) ⟨by decide, by decide⟩ ⟨(show 2 + 0 ≤ 204 by omega), (show 20 + 0 ≤ 112572 by omega)⟩ 0 rfl rfl rfl rfl (Nat.le_of_ble_eq_true rfl) dL_told_10) (pc' := 13) rfl (fun r2 _ hw2 => ?_)
  obtain rfl : r2 = (nDay S) := hw2
  refine yy_perm (w' := ((o1, .inr (1, [.ref (u1), .int (nI 0), .int (nI 0), .int (nI tok0.2)])) :: (u1, .inl (G.2.2.2.1, 16, .inl (fun _ => 0))) :: (wA G ad S ++ F))) (pBA _ _ _ _).symm ?_
  refine yy_widen (cs2 := 2) (ss2 := 20) (show 2 + 0 ≤ 2 by omega) (show 20 + 0 ≤ 20 by omega) ?_
  have hv_13 : smI (nDay S) := hT.1
  have hz_13 := tI_len hv_13
  refine yc_r (yr_V C (n := 1) (As := [.int (nDay S)]) (rest := []) lk_L_168 cd_J4_append_bf812 im_J4_append_bf812 se_J4_append_bf812 (mJ4_append_bf812 l G B0 o1 tok0 (u1, 16, (fun _ => 0)) (wA G ad S ++ F) (nDay S) hv_13 hB0 (by omega)) ⟨by decide, by decide⟩ ⟨(show 2 + 1 ≤ 204 by omega), (show 20 + 1000 ≤ 112572 by omega)⟩ 0 rfl rfl rfl rfl (Nat.le_of_ble_eq_true rfl) dL_told_13) (pc' := 16) rfl (fun u2 hw3 => ?_)
  refine yy_widen (cs2 := 3) (ss2 := 1020) (show 2 + 1 ≤ 3 by omega) (show 20 + 1000 ≤ 1020 by omega) ?_
  have hn_13 : (tcat tok0 (tI (nDay S))).2 = (tok0).2 + (tI (nDay S)).2 := rfl
  refine yy_bipush C (v := (nI 47)) dL_told_16 (pc' := 18) rfl (by decide) ?_
  have hz_18 : (tch 47).2 = 1 := rfl
  refine yc_r (yr_V C (n := 1) (As := [.int (nI 47)]) (rest := []) lk_L_172 cd_J4_append_cf468 im_J4_append_cf468 se_J4_append_cf468 (mJ4_append_cf468 l G B0 o1 (tcat tok0 (tI (nDay S))) u2 (wA G ad S ++ F) 47 (by decide) hw3 (by omega)) ⟨by decide, by decide⟩ ⟨(show 3 + 1 ≤ 204 by omega), (show 1020 + 1000 ≤ 112572 by omega)⟩ 0 rfl rfl rfl rfl (Nat.le_of_ble_eq_true rfl) dL_told_18) (pc' := 21) rfl (fun u3 hw4 => ?_)
  refine yy_widen (cs2 := 4) (ss2 := 2020) (show 3 + 1 ≤ 4 by omega) (show 1020 + 1000 ≤ 2020 by omega) ?_
  have hn_18 : (tcat (tcat tok0 (tI (nDay S))) (tch 47)).2 = (tcat tok0 (tI (nDay S))).2 + (tch 47).2 := rfl
  refine yy_aload_n C 1 dL_told_21 (pc' := 22) rfl rfl rfl ?_
  refine yy_perm (w' := wA G ad S ++ ((o1, .inr (1, [.ref (u3.1), .int (nI 0), .int (nI 0), .int (nI ((tcat (tcat tok0 (tI (nDay S))) (tch 47)).2))])) :: (u3.1, .inl (G.2.2.2.1, u3.2.1, .inl u3.2.2)) :: F)) (pBA _ _ _ _) ?_
  refine yc_i (yr_V C (As := []) (rest := [.ref (o1)]) lk_L_175 cd_X6_hidden im_X6_hidden se_X6_hidden (mX6_hidden l G B0 ad ((o1, .inr (1, [.ref (u3.1), .int (nI 0), .int (nI 0), .int (nI ((tcat (tcat tok0 (tI (nDay S))) (tch 47)).2))])) :: (u3.1, .inl (G.2.2.2.1, u3.2.1, .inl u3.2.2)) :: F) S hI) ⟨by decide, by decide⟩ ⟨(show 4 + 0 ≤ 204 by omega), (show 2020 + 0 ≤ 112572 by omega)⟩ 0 rfl rfl rfl rfl (Nat.le_of_ble_eq_true rfl) dL_told_22) (pc' := 25) rfl (fun r5 _ hw5 => ?_)
  obtain rfl : r5 = (nHid S) := hw5
  refine yy_perm (w' := ((o1, .inr (1, [.ref (u3.1), .int (nI 0), .int (nI 0), .int (nI ((tcat (tcat tok0 (tI (nDay S))) (tch 47)).2))])) :: (u3.1, .inl (G.2.2.2.1, u3.2.1, .inl u3.2.2)) :: (wA G ad S ++ F))) (pBA _ _ _ _).symm ?_
  refine yy_widen (cs2 := 4) (ss2 := 2020) (show 4 + 0 ≤ 4 by omega) (show 2020 + 0 ≤ 2020 by omega) ?_
  have hv_25 : smI (nHid S) := hT.2.1
  have hz_25 := tI_len hv_25
  refine yc_r (yr_V C (n := 1) (As := [.int (nHid S)]) (rest := []) lk_L_168 cd_J4_append_bf812 im_J4_append_bf812 se_J4_append_bf812 (mJ4_append_bf812 l G B0 o1 (tcat (tcat tok0 (tI (nDay S))) (tch 47)) u3 (wA G ad S ++ F) (nHid S) hv_25 hw4 (by omega)) ⟨by decide, by decide⟩ ⟨(show 4 + 1 ≤ 204 by omega), (show 2020 + 1000 ≤ 112572 by omega)⟩ 0 rfl rfl rfl rfl (Nat.le_of_ble_eq_true rfl) dL_told_25) (pc' := 28) rfl (fun u4 hw6 => ?_)
  refine yy_widen (cs2 := 5) (ss2 := 3020) (show 4 + 1 ≤ 5 by omega) (show 2020 + 1000 ≤ 3020 by omega) ?_
  have hn_25 : (tcat (tcat (tcat tok0 (tI (nDay S))) (tch 47)) (tI (nHid S))).2 = (tcat (tcat tok0 (tI (nDay S))) (tch 47)).2 + (tI (nHid S)).2 := rfl
  refine yy_bipush C (v := (nI 47)) dL_told_28 (pc' := 30) rfl (by decide) ?_
  have hz_30 : (tch 47).2 = 1 := rfl
  refine yc_r (yr_V C (n := 1) (As := [.int (nI 47)]) (rest := []) lk_L_172 cd_J4_append_cf468 im_J4_append_cf468 se_J4_append_cf468 (mJ4_append_cf468 l G B0 o1 (tcat (tcat (tcat tok0 (tI (nDay S))) (tch 47)) (tI (nHid S))) u4 (wA G ad S ++ F) 47 (by decide) hw6 (by omega)) ⟨by decide, by decide⟩ ⟨(show 5 + 1 ≤ 204 by omega), (show 3020 + 1000 ≤ 112572 by omega)⟩ 0 rfl rfl rfl rfl (Nat.le_of_ble_eq_true rfl) dL_told_30) (pc' := 33) rfl (fun u5 hw7 => ?_)
  refine yy_widen (cs2 := 6) (ss2 := 4020) (show 5 + 1 ≤ 6 by omega) (show 3020 + 1000 ≤ 4020 by omega) ?_
  have hn_30 : (tcat (tcat (tcat (tcat tok0 (tI (nDay S))) (tch 47)) (tI (nHid S))) (tch 47)).2 = (tcat (tcat (tcat tok0 (tI (nDay S))) (tch 47)) (tI (nHid S))).2 + (tch 47).2 := rfl
  refine yy_aload_n C 1 dL_told_33 (pc' := 34) rfl rfl rfl ?_
  refine yy_perm (w' := wA G ad S ++ ((o1, .inr (1, [.ref (u5.1), .int (nI 0), .int (nI 0), .int (nI ((tcat (tcat (tcat (tcat tok0 (tI (nDay S))) (tch 47)) (tI (nHid S))) (tch 47)).2))])) :: (u5.1, .inl (G.2.2.2.1, u5.2.1, .inl u5.2.2)) :: F)) (pBA _ _ _ _) ?_
  refine yc_i (yr_V C (As := []) (rest := [.ref (o1)]) lk_L_178 cd_X6_late im_X6_late se_X6_late (mX6_late l G B0 ad ((o1, .inr (1, [.ref (u5.1), .int (nI 0), .int (nI 0), .int (nI ((tcat (tcat (tcat (tcat tok0 (tI (nDay S))) (tch 47)) (tI (nHid S))) (tch 47)).2))])) :: (u5.1, .inl (G.2.2.2.1, u5.2.1, .inl u5.2.2)) :: F) S hI) ⟨by decide, by decide⟩ ⟨(show 6 + 0 ≤ 204 by omega), (show 4020 + 0 ≤ 112572 by omega)⟩ 0 rfl rfl rfl rfl (Nat.le_of_ble_eq_true rfl) dL_told_34) (pc' := 37) rfl (fun r8 _ hw8 => ?_)
  obtain rfl : r8 = (nLate S) := hw8
  refine yy_perm (w' := ((o1, .inr (1, [.ref (u5.1), .int (nI 0), .int (nI 0), .int (nI ((tcat (tcat (tcat (tcat tok0 (tI (nDay S))) (tch 47)) (tI (nHid S))) (tch 47)).2))])) :: (u5.1, .inl (G.2.2.2.1, u5.2.1, .inl u5.2.2)) :: (wA G ad S ++ F))) (pBA _ _ _ _).symm ?_
  refine yy_widen (cs2 := 6) (ss2 := 4020) (show 6 + 0 ≤ 6 by omega) (show 4020 + 0 ≤ 4020 by omega) ?_
  have hv_37 : smI (nLate S) := hT.2.2.1
  have hz_37 := tI_len hv_37
  refine yc_r (yr_V C (n := 1) (As := [.int (nLate S)]) (rest := []) lk_L_168 cd_J4_append_bf812 im_J4_append_bf812 se_J4_append_bf812 (mJ4_append_bf812 l G B0 o1 (tcat (tcat (tcat (tcat tok0 (tI (nDay S))) (tch 47)) (tI (nHid S))) (tch 47)) u5 (wA G ad S ++ F) (nLate S) hv_37 hw7 (by omega)) ⟨by decide, by decide⟩ ⟨(show 6 + 1 ≤ 204 by omega), (show 4020 + 1000 ≤ 112572 by omega)⟩ 0 rfl rfl rfl rfl (Nat.le_of_ble_eq_true rfl) dL_told_37) (pc' := 40) rfl (fun u6 hw9 => ?_)
  refine yy_widen (cs2 := 7) (ss2 := 5020) (show 6 + 1 ≤ 7 by omega) (show 4020 + 1000 ≤ 5020 by omega) ?_
  have hn_37 : (tcat (tcat (tcat (tcat (tcat tok0 (tI (nDay S))) (tch 47)) (tI (nHid S))) (tch 47)) (tI (nLate S))).2 = (tcat (tcat (tcat (tcat tok0 (tI (nDay S))) (tch 47)) (tI (nHid S))) (tch 47)).2 + (tI (nLate S)).2 := rfl
  refine yy_bipush C (v := (nI 47)) dL_told_40 (pc' := 42) rfl (by decide) ?_
  have hz_42 : (tch 47).2 = 1 := rfl
  refine yc_r (yr_V C (n := 1) (As := [.int (nI 47)]) (rest := []) lk_L_172 cd_J4_append_cf468 im_J4_append_cf468 se_J4_append_cf468 (mJ4_append_cf468 l G B0 o1 (tcat (tcat (tcat (tcat (tcat tok0 (tI (nDay S))) (tch 47)) (tI (nHid S))) (tch 47)) (tI (nLate S))) u6 (wA G ad S ++ F) 47 (by decide) hw9 (by omega)) ⟨by decide, by decide⟩ ⟨(show 7 + 1 ≤ 204 by omega), (show 5020 + 1000 ≤ 112572 by omega)⟩ 0 rfl rfl rfl rfl (Nat.le_of_ble_eq_true rfl) dL_told_42) (pc' := 45) rfl (fun u7 hw10 => ?_)
  refine yy_widen (cs2 := 8) (ss2 := 6020) (show 7 + 1 ≤ 8 by omega) (show 5020 + 1000 ≤ 6020 by omega) ?_
  have hn_42 : (tcat (tcat (tcat (tcat (tcat (tcat tok0 (tI (nDay S))) (tch 47)) (tI (nHid S))) (tch 47)) (tI (nLate S))) (tch 47)).2 = (tcat (tcat (tcat (tcat (tcat tok0 (tI (nDay S))) (tch 47)) (tI (nHid S))) (tch 47)) (tI (nLate S))).2 + (tch 47).2 := rfl
  refine yy_aload_n C 1 dL_told_45 (pc' := 46) rfl rfl rfl ?_
  refine yy_perm (w' := wA G ad S ++ ((o1, .inr (1, [.ref (u7.1), .int (nI 0), .int (nI 0), .int (nI ((tcat (tcat (tcat (tcat (tcat (tcat tok0 (tI (nDay S))) (tch 47)) (tI (nHid S))) (tch 47)) (tI (nLate S))) (tch 47)).2))])) :: (u7.1, .inl (G.2.2.2.1, u7.2.1, .inl u7.2.2)) :: F)) (pBA _ _ _ _) ?_
  refine yc_l (yr_V C (As := []) (rest := [.ref (o1)]) lk_L_181 cd_X6_fees im_X6_fees se_X6_fees (mX6_fees l G B0 ad ((o1, .inr (1, [.ref (u7.1), .int (nI 0), .int (nI 0), .int (nI ((tcat (tcat (tcat (tcat (tcat (tcat tok0 (tI (nDay S))) (tch 47)) (tI (nHid S))) (tch 47)) (tI (nLate S))) (tch 47)).2))])) :: (u7.1, .inl (G.2.2.2.1, u7.2.1, .inl u7.2.2)) :: F) S hI) ⟨by decide, by decide⟩ ⟨(show 8 + 0 ≤ 204 by omega), (show 6020 + 0 ≤ 112572 by omega)⟩ 0 rfl rfl rfl rfl (Nat.le_of_ble_eq_true rfl) dL_told_46) (pc' := 49) rfl (fun r11 _ hw11 => ?_)
  obtain rfl : r11 = (lN (S.1 9)) := hw11
  refine yy_perm (w' := ((o1, .inr (1, [.ref (u7.1), .int (nI 0), .int (nI 0), .int (nI ((tcat (tcat (tcat (tcat (tcat (tcat tok0 (tI (nDay S))) (tch 47)) (tI (nHid S))) (tch 47)) (tI (nLate S))) (tch 47)).2))])) :: (u7.1, .inl (G.2.2.2.1, u7.2.1, .inl u7.2.2)) :: (wA G ad S ++ F))) (pBA _ _ _ _).symm ?_
  refine yy_widen (cs2 := 8) (ss2 := 6020) (show 8 + 0 ≤ 8 by omega) (show 6020 + 0 ≤ 6020 by omega) ?_
  have hv_49 : smJ (lN (S.1 9)) := hT.2.2.2.1
  have hz_49 := tJ_len hv_49
  refine yc_r (yr_V C (n := 1) (As := [.long (lN (S.1 9))]) (rest := []) lk_L_185 cd_J4_append_f7089 im_J4_append_f7089 se_J4_append_f7089 (mJ4_append_f7089 l G B0 o1 (tcat (tcat (tcat (tcat (tcat (tcat tok0 (tI (nDay S))) (tch 47)) (tI (nHid S))) (tch 47)) (tI (nLate S))) (tch 47)) u7 (wA G ad S ++ F) (lN (S.1 9)) hv_49 hw10 (by omega)) ⟨by decide, by decide⟩ ⟨(show 8 + 1 ≤ 204 by omega), (show 6020 + 1000 ≤ 112572 by omega)⟩ 0 rfl rfl rfl rfl (Nat.le_of_ble_eq_true rfl) dL_told_49) (pc' := 52) rfl (fun u8 hw12 => ?_)
  refine yy_widen (cs2 := 9) (ss2 := 7020) (show 8 + 1 ≤ 9 by omega) (show 6020 + 1000 ≤ 7020 by omega) ?_
  have hn_49 : (tcat (tcat (tcat (tcat (tcat (tcat (tcat tok0 (tI (nDay S))) (tch 47)) (tI (nHid S))) (tch 47)) (tI (nLate S))) (tch 47)) (tJ (lN (S.1 9)))).2 = (tcat (tcat (tcat (tcat (tcat (tcat tok0 (tI (nDay S))) (tch 47)) (tI (nHid S))) (tch 47)) (tI (nLate S))) (tch 47)).2 + (tJ (lN (S.1 9))).2 := rfl
  refine yy_bipush C (v := (nI 47)) dL_told_52 (pc' := 54) rfl (by decide) ?_
  have hz_54 : (tch 47).2 = 1 := rfl
  refine yc_r (yr_V C (n := 1) (As := [.int (nI 47)]) (rest := []) lk_L_172 cd_J4_append_cf468 im_J4_append_cf468 se_J4_append_cf468 (mJ4_append_cf468 l G B0 o1 (tcat (tcat (tcat (tcat (tcat (tcat (tcat tok0 (tI (nDay S))) (tch 47)) (tI (nHid S))) (tch 47)) (tI (nLate S))) (tch 47)) (tJ (lN (S.1 9)))) u8 (wA G ad S ++ F) 47 (by decide) hw12 (by omega)) ⟨by decide, by decide⟩ ⟨(show 9 + 1 ≤ 204 by omega), (show 7020 + 1000 ≤ 112572 by omega)⟩ 0 rfl rfl rfl rfl (Nat.le_of_ble_eq_true rfl) dL_told_54) (pc' := 57) rfl (fun u9 hw13 => ?_)
  refine yy_widen (cs2 := 10) (ss2 := 8020) (show 9 + 1 ≤ 10 by omega) (show 7020 + 1000 ≤ 8020 by omega) ?_
  have hn_54 : (tcat (tcat (tcat (tcat (tcat (tcat (tcat (tcat tok0 (tI (nDay S))) (tch 47)) (tI (nHid S))) (tch 47)) (tI (nLate S))) (tch 47)) (tJ (lN (S.1 9)))) (tch 47)).2 = (tcat (tcat (tcat (tcat (tcat (tcat (tcat tok0 (tI (nDay S))) (tch 47)) (tI (nHid S))) (tch 47)) (tI (nLate S))) (tch 47)) (tJ (lN (S.1 9)))).2 + (tch 47).2 := rfl
  refine yy_aload_n C 1 dL_told_57 (pc' := 58) rfl rfl rfl ?_
  refine yy_perm (w' := wA G ad S ++ ((o1, .inr (1, [.ref (u9.1), .int (nI 0), .int (nI 0), .int (nI ((tcat (tcat (tcat (tcat (tcat (tcat (tcat (tcat tok0 (tI (nDay S))) (tch 47)) (tI (nHid S))) (tch 47)) (tI (nLate S))) (tch 47)) (tJ (lN (S.1 9)))) (tch 47)).2))])) :: (u9.1, .inl (G.2.2.2.1, u9.2.1, .inl u9.2.2)) :: F)) (pBA _ _ _ _) ?_
  refine yc_f (yr_SW C (As := [.ref (ad 0)]) (rest := [.ref (o1)]) lk_L_188 cd_L_answeredShare st_L_answeredShare (mL_answeredShare l hl0 G B0 ad ((o1, .inr (1, [.ref (u9.1), .int (nI 0), .int (nI 0), .int (nI ((tcat (tcat (tcat (tcat (tcat (tcat (tcat (tcat tok0 (tI (nDay S))) (tch 47)) (tI (nHid S))) (tch 47)) (tI (nLate S))) (tch 47)) (tJ (lN (S.1 9)))) (tch 47)).2))])) :: (u9.1, .inl (G.2.2.2.1, u9.2.1, .inl u9.2.2)) :: F) S hI) ⟨by decide, by decide⟩ ⟨(show 10 + 1 ≤ 204 by omega), (show 8020 + 6 ≤ 112572 by omega)⟩ rfl rfl (Nat.le_of_ble_eq_true rfl) dL_told_58) (pc' := 61) rfl (fun r14 _ hw14 => ?_)
  obtain rfl : r14 = (qShare S) := hw14
  refine yy_perm (w' := ((o1, .inr (1, [.ref (u9.1), .int (nI 0), .int (nI 0), .int (nI ((tcat (tcat (tcat (tcat (tcat (tcat (tcat (tcat tok0 (tI (nDay S))) (tch 47)) (tI (nHid S))) (tch 47)) (tI (nLate S))) (tch 47)) (tJ (lN (S.1 9)))) (tch 47)).2))])) :: (u9.1, .inl (G.2.2.2.1, u9.2.1, .inl u9.2.2)) :: (wA G ad S ++ F))) (pBA _ _ _ _).symm ?_
  refine yy_widen (cs2 := 11) (ss2 := 8026) (show 10 + 1 ≤ 11 by omega) (show 8020 + 6 ≤ 8026 by omega) ?_
  have hv_61 : okF (qShare S) := hT.2.2.2.2.1
  have hz_61 : (tF (qShare S)).2 ≤ 14 := by rw [tF_2]; exact hv_61.2.1
  refine yc_r (yr_V C (n := 1) (As := [.float (qShare S)]) (rest := []) lk_L_191 cd_J4_append_9d4c8 im_J4_append_9d4c8 se_J4_append_9d4c8 (mJ4_append_9d4c8 l G B0 o1 (tcat (tcat (tcat (tcat (tcat (tcat (tcat (tcat tok0 (tI (nDay S))) (tch 47)) (tI (nHid S))) (tch 47)) (tI (nLate S))) (tch 47)) (tJ (lN (S.1 9)))) (tch 47)) u9 (wA G ad S ++ F) (qShare S) hv_61 hw13 (by omega)) ⟨by decide, by decide⟩ ⟨(show 11 + 4 ≤ 204 by omega), (show 8026 + 1032 ≤ 112572 by omega)⟩ 0 rfl rfl rfl rfl (Nat.le_of_ble_eq_true rfl) dL_told_61) (pc' := 64) rfl (fun u10 hw15 => ?_)
  refine yy_widen (cs2 := 15) (ss2 := 9058) (show 11 + 4 ≤ 15 by omega) (show 8026 + 1032 ≤ 9058 by omega) ?_
  have hn_61 : (tcat (tcat (tcat (tcat (tcat (tcat (tcat (tcat (tcat tok0 (tI (nDay S))) (tch 47)) (tI (nHid S))) (tch 47)) (tI (nLate S))) (tch 47)) (tJ (lN (S.1 9)))) (tch 47)) (tF (qShare S))).2 = (tcat (tcat (tcat (tcat (tcat (tcat (tcat (tcat tok0 (tI (nDay S))) (tch 47)) (tI (nHid S))) (tch 47)) (tI (nLate S))) (tch 47)) (tJ (lN (S.1 9)))) (tch 47)).2 + (tF (qShare S)).2 := rfl
  refine yy_pop C dL_told_64 (pc' := 65) rfl rfl ?_
  refine yy_iconst C (v := (nI 0)) dL_told_65 (pc' := 66) rfl (by decide) ?_
  refine yy_istore_n C (L' := [(2, .int (nI 0)), (1, .ref (o1)), (0, .ref (ad 0))]) dL_told_66 (pc' := 67) rfl rfl (by decide) rfl ?_
  have lp_67 : ∀ (f_ : Nat) (k : Nat) (b : BU), (hk : k ≤ 5) → (hB : BO (tK1 S k) b) → (hl : (tK1 S k).2 ≤ 38 + 26 * k) → 5 - k < f_ → YY p l e rL_told s m args below meth c G B0 3 QQ 67 [(2, .int (nI k)), (1, .ref (o1)), (0, .ref (ad 0))] [] (((o1, .inr (1, [.ref (b.1), .int (nI 0), .int (nI 0), .int (nI ((tK1 S k).2))])) :: (b.1, .inl (G.2.2.2.1, b.2.1, .inl b.2.2)) :: (wA G ad S ++ F))) (15 + 11 * k) (9058 + 6030 * k) := by
    intro f_
    induction f_ with
    | zero => intro k b hk hB hl hf_; exact absurd hf_ (Nat.not_lt_zero _)
    | succ f_ ih =>
      intro k b hk hB hl hf_
      refine yy_widen (cs2 := 15 + 11 * k + 0) (ss2 := 9058 + 6030 * k + 0) (Nat.le_refl _) (Nat.le_refl _) ?_
      refine yy_iload_n C 0 dL_told_67 (pc' := 68) rfl rfl rfl ?_
      refine yy_iconst C (v := (nI 5)) dL_told_68 (pc' := 69) rfl (by decide) ?_
      refine yn_icmp_ge C (by omega) (by decide) dL_told_69 (pc' := 72) rfl (tgt := 125) (by decide) (fun c_69 => ?_) (fun c_69 => ?_)
      · skip
        obtain rfl : k = 5 := by omega
        refine yy_widen (cs2 := 70) (ss2 := 39208) (by decide) (by decide) ?_
        refine yy_iconst C (v := (nI 0)) dL_told_125 (pc' := 126) rfl (by decide) ?_
        refine yy_istore_n C (L' := [(2, .int (nI 0)), (1, .ref (o1)), (0, .ref (ad 0))]) dL_told_126 (pc' := 127) rfl rfl (by decide) rfl ?_
        have lp_127 : ∀ (f_ : Nat) (k : Nat) (b : BU), (hk : k ≤ 12) → (hB : BO (tK2 S k) b) → (hl : (tK2 S k).2 ≤ 168 + 26 * k) → 12 - k < f_ → YY p l e rL_told s m args below meth c G B0 3 QQ 127 [(2, .int (nI k)), (1, .ref (o1)), (0, .ref (ad 0))] [] (((o1, .inr (1, [.ref (b.1), .int (nI 0), .int (nI 0), .int (nI ((tK2 S k).2))])) :: (b.1, .inl (G.2.2.2.1, b.2.1, .inl b.2.2)) :: (wA G ad S ++ F))) (70 + 11 * k) (39208 + 6030 * k) := by
          intro f_
          induction f_ with
          | zero => intro k b hk hB hl hf_; exact absurd hf_ (Nat.not_lt_zero _)
          | succ f_ ih =>
            intro k b hk hB hl hf_
            refine yy_widen (cs2 := 70 + 11 * k + 0) (ss2 := 39208 + 6030 * k + 0) (Nat.le_refl _) (Nat.le_refl _) ?_
            refine yy_iload_n C 0 dL_told_127 (pc' := 128) rfl rfl rfl ?_
            refine yy_bipush C (v := (nI 12)) dL_told_128 (pc' := 130) rfl (by decide) ?_
            refine yn_icmp_ge C (by omega) (by decide) dL_told_130 (pc' := 133) rfl (tgt := 187) (by decide) (fun c_130 => ?_) (fun c_130 => ?_)
            · skip
              obtain rfl : k = 12 := by omega
              refine yy_widen (cs2 := 202) (ss2 := 111568) (by decide) (by decide) ?_
              refine yy_aload_n C 1 dL_told_187 (pc' := 188) rfl rfl rfl ?_
              refine yc_r (yr_V C (n := 0) (As := []) (rest := []) lk_L_214 cd_J4_toString_0e30d im_J4_toString_0e30d se_J4_toString_0e30d (mJ4_toString_0e30d l G B0 o1 (tK2 S 12) b (wA G ad S ++ F) hB) ⟨by decide, by decide⟩ ⟨(show 202 + 2 ≤ 204 by omega), (show 111568 + 1004 ≤ 112572 by omega)⟩ 0 rfl rfl rfl rfl (Nat.le_of_ble_eq_true rfl) dL_told_188) (pc' := 191) rfl (fun u11 hw16 => ?_)
              refine yy_widen (cs2 := 204) (ss2 := 112572) (show 202 + 2 ≤ 204 by omega) (show 111568 + 1004 ≤ 112572 by omega) ?_
              refine yy_perm (w' := wA G ad S ++ ((u11.1, .inr (0, [.ref (u11.2.1), .int (nI 0), .int (nI 0), .int (nI 0)])) :: (u11.2.1, .inl (G.2.2.2.1, (tK2 S 12).2, .inl u11.2.2)) :: F)) (pBA _ _ _ _) ?_
              subst hQ
              exact ye_r C hr (Or.inl ⟨_, rfl⟩) u11 dL_told_191 rfl (by decide) (by decide) ⟨hw16.1, hw16.2, show (tK2 S 12).2 ≤ 480 by omega⟩
            · skip
              refine yy_aload_n C 1 dL_told_133 (pc' := 134) rfl rfl rfl ?_
              refine yy_bipush C (v := (nI 59)) dL_told_134 (pc' := 136) rfl (by decide) ?_
              have hz_136 : (tch 59).2 = 1 := rfl
              refine yc_r (yr_V C (n := 1) (As := [.int (nI 59)]) (rest := []) lk_L_172 cd_J4_append_cf468 im_J4_append_cf468 se_J4_append_cf468 (mJ4_append_cf468 l G B0 o1 (tK2 S k) b (wA G ad S ++ F) 59 (by decide) hB (by omega)) ⟨by decide, by decide⟩ ⟨(show 70 + 11 * k + 0 + 1 ≤ 204 by omega), (show 39208 + 6030 * k + 0 + 1000 ≤ 112572 by omega)⟩ 0 rfl rfl rfl rfl (Nat.le_of_ble_eq_true rfl) dL_told_136) (pc' := 139) rfl (fun u11 hw16 => ?_)
              refine yy_widen (cs2 := 70 + 11 * k + 1) (ss2 := 39208 + 6030 * k + 1000) (show 70 + 11 * k + 0 + 1 ≤ 70 + 11 * k + 1 by omega) (show 39208 + 6030 * k + 0 + 1000 ≤ 39208 + 6030 * k + 1000 by omega) ?_
              have hn_136 : (tcat (tK2 S k) (tch 59)).2 = (tK2 S k).2 + (tch 59).2 := rfl
              refine yy_aload_n C 2 dL_told_139 (pc' := 140) rfl rfl rfl ?_
              refine yy_iload_n C 0 dL_told_140 (pc' := 141) rfl rfl rfl ?_
              refine yy_perm (w' := wA G ad S ++ ((o1, .inr (1, [.ref (u11.1), .int (nI 0), .int (nI 0), .int (nI ((tcat (tK2 S k) (tch 59)).2))])) :: (u11.1, .inl (G.2.2.2.1, u11.2.1, .inl u11.2.2)) :: F)) (pBA _ _ _ _) ?_
              refine yc_i (yr_SW C (As := [.ref (ad 0), .int (nI k)]) (rest := [.ref (o1)]) lk_L_204 cd_L_isHidden st_L_isHidden (mL_isHidden l hl0 G B0 ad ((o1, .inr (1, [.ref (u11.1), .int (nI 0), .int (nI 0), .int (nI ((tcat (tK2 S k) (tch 59)).2))])) :: (u11.1, .inl (G.2.2.2.1, u11.2.1, .inl u11.2.2)) :: F) S (nI k) hI) ⟨by decide, by decide⟩ ⟨(show 70 + 11 * k + 1 + 1 ≤ 204 by omega), (show 39208 + 6030 * k + 1000 + 6 ≤ 112572 by omega)⟩ rfl rfl (Nat.le_of_ble_eq_true rfl) dL_told_141) (pc' := 144) rfl (fun r17 _ hw17 => ?_)
              obtain rfl : r17 = (qHid S (nI k)) := hw17
              refine yy_perm (w' := ((o1, .inr (1, [.ref (u11.1), .int (nI 0), .int (nI 0), .int (nI ((tcat (tK2 S k) (tch 59)).2))])) :: (u11.1, .inl (G.2.2.2.1, u11.2.1, .inl u11.2.2)) :: (wA G ad S ++ F))) (pBA _ _ _ _).symm ?_
              refine yy_widen (cs2 := 70 + 11 * k + 2) (ss2 := 39208 + 6030 * k + 1006) (show 70 + 11 * k + 1 + 1 ≤ 70 + 11 * k + 2 by omega) (show 39208 + 6030 * k + 1000 + 6 ≤ 39208 + 6030 * k + 1006 by omega) ?_
              have hv_144 : smI (qHid S (nI k)) := (hT.2.2.2.2.2.2.1 k (by omega)).1
              have hz_144 := tI_len hv_144
              refine yc_r (yr_V C (n := 1) (As := [.int (qHid S (nI k))]) (rest := []) lk_L_168 cd_J4_append_bf812 im_J4_append_bf812 se_J4_append_bf812 (mJ4_append_bf812 l G B0 o1 (tcat (tK2 S k) (tch 59)) u11 (wA G ad S ++ F) (qHid S (nI k)) hv_144 hw16 (by omega)) ⟨by decide, by decide⟩ ⟨(show 70 + 11 * k + 2 + 1 ≤ 204 by omega), (show 39208 + 6030 * k + 1006 + 1000 ≤ 112572 by omega)⟩ 0 rfl rfl rfl rfl (Nat.le_of_ble_eq_true rfl) dL_told_144) (pc' := 147) rfl (fun u12 hw18 => ?_)
              refine yy_widen (cs2 := 70 + 11 * k + 3) (ss2 := 39208 + 6030 * k + 2006) (show 70 + 11 * k + 2 + 1 ≤ 70 + 11 * k + 3 by omega) (show 39208 + 6030 * k + 1006 + 1000 ≤ 39208 + 6030 * k + 2006 by omega) ?_
              have hn_144 : (tcat (tcat (tK2 S k) (tch 59)) (tI (qHid S (nI k)))).2 = (tcat (tK2 S k) (tch 59)).2 + (tI (qHid S (nI k))).2 := rfl
              refine yy_aload_n C 2 dL_told_147 (pc' := 148) rfl rfl rfl ?_
              refine yy_iload_n C 0 dL_told_148 (pc' := 149) rfl rfl rfl ?_
              refine yy_perm (w' := wA G ad S ++ ((o1, .inr (1, [.ref (u12.1), .int (nI 0), .int (nI 0), .int (nI ((tcat (tcat (tK2 S k) (tch 59)) (tI (qHid S (nI k)))).2))])) :: (u12.1, .inl (G.2.2.2.1, u12.2.1, .inl u12.2.2)) :: F)) (pBA _ _ _ _) ?_
              refine yc_i (yr_SW C (As := [.ref (ad 0), .int (nI k)]) (rest := [.ref (o1)]) lk_L_206 cd_L_holders st_L_holders (mL_holders l hl0 G B0 ad ((o1, .inr (1, [.ref (u12.1), .int (nI 0), .int (nI 0), .int (nI ((tcat (tcat (tK2 S k) (tch 59)) (tI (qHid S (nI k)))).2))])) :: (u12.1, .inl (G.2.2.2.1, u12.2.1, .inl u12.2.2)) :: F) S (nI k) hI) ⟨by decide, by decide⟩ ⟨(show 70 + 11 * k + 3 + 1 ≤ 204 by omega), (show 39208 + 6030 * k + 2006 + 6 ≤ 112572 by omega)⟩ rfl rfl (Nat.le_of_ble_eq_true rfl) dL_told_149) (pc' := 152) rfl (fun r19 _ hw19 => ?_)
              obtain rfl : r19 = (qHolders S (nI k)) := hw19
              refine yy_perm (w' := ((o1, .inr (1, [.ref (u12.1), .int (nI 0), .int (nI 0), .int (nI ((tcat (tcat (tK2 S k) (tch 59)) (tI (qHid S (nI k)))).2))])) :: (u12.1, .inl (G.2.2.2.1, u12.2.1, .inl u12.2.2)) :: (wA G ad S ++ F))) (pBA _ _ _ _).symm ?_
              refine yy_widen (cs2 := 70 + 11 * k + 4) (ss2 := 39208 + 6030 * k + 2012) (show 70 + 11 * k + 3 + 1 ≤ 70 + 11 * k + 4 by omega) (show 39208 + 6030 * k + 2006 + 6 ≤ 39208 + 6030 * k + 2012 by omega) ?_
              have hv_152 : smI (qHolders S (nI k)) := (hT.2.2.2.2.2.2.1 k (by omega)).2.1
              have hz_152 := tI_len hv_152
              refine yc_r (yr_V C (n := 1) (As := [.int (qHolders S (nI k))]) (rest := []) lk_L_168 cd_J4_append_bf812 im_J4_append_bf812 se_J4_append_bf812 (mJ4_append_bf812 l G B0 o1 (tcat (tcat (tK2 S k) (tch 59)) (tI (qHid S (nI k)))) u12 (wA G ad S ++ F) (qHolders S (nI k)) hv_152 hw18 (by omega)) ⟨by decide, by decide⟩ ⟨(show 70 + 11 * k + 4 + 1 ≤ 204 by omega), (show 39208 + 6030 * k + 2012 + 1000 ≤ 112572 by omega)⟩ 0 rfl rfl rfl rfl (Nat.le_of_ble_eq_true rfl) dL_told_152) (pc' := 155) rfl (fun u13 hw20 => ?_)
              refine yy_widen (cs2 := 70 + 11 * k + 5) (ss2 := 39208 + 6030 * k + 3012) (show 70 + 11 * k + 4 + 1 ≤ 70 + 11 * k + 5 by omega) (show 39208 + 6030 * k + 2012 + 1000 ≤ 39208 + 6030 * k + 3012 by omega) ?_
              have hn_152 : (tcat (tcat (tcat (tK2 S k) (tch 59)) (tI (qHid S (nI k)))) (tI (qHolders S (nI k)))).2 = (tcat (tcat (tK2 S k) (tch 59)) (tI (qHid S (nI k)))).2 + (tI (qHolders S (nI k))).2 := rfl
              refine yy_aload_n C 2 dL_told_155 (pc' := 156) rfl rfl rfl ?_
              refine yy_iload_n C 0 dL_told_156 (pc' := 157) rfl rfl rfl ?_
              refine yy_perm (w' := wA G ad S ++ ((o1, .inr (1, [.ref (u13.1), .int (nI 0), .int (nI 0), .int (nI ((tcat (tcat (tcat (tK2 S k) (tch 59)) (tI (qHid S (nI k)))) (tI (qHolders S (nI k)))).2))])) :: (u13.1, .inl (G.2.2.2.1, u13.2.1, .inl u13.2.2)) :: F)) (pBA _ _ _ _) ?_
              refine yc_i (yr_SW C (As := [.ref (ad 0), .int (nI k)]) (rest := [.ref (o1)]) lk_L_208 cd_L_documentOf st_L_documentOf (mL_documentOf l hl0 G B0 ad ((o1, .inr (1, [.ref (u13.1), .int (nI 0), .int (nI 0), .int (nI ((tcat (tcat (tcat (tK2 S k) (tch 59)) (tI (qHid S (nI k)))) (tI (qHolders S (nI k)))).2))])) :: (u13.1, .inl (G.2.2.2.1, u13.2.1, .inl u13.2.2)) :: F) S (nI k) hI) ⟨by decide, by decide⟩ ⟨(show 70 + 11 * k + 5 + 1 ≤ 204 by omega), (show 39208 + 6030 * k + 3012 + 6 ≤ 112572 by omega)⟩ rfl rfl (Nat.le_of_ble_eq_true rfl) dL_told_157) (pc' := 160) rfl (fun r21 _ hw21 => ?_)
              obtain rfl : r21 = (qDoc S (nI k)) := hw21
              refine yy_perm (w' := ((o1, .inr (1, [.ref (u13.1), .int (nI 0), .int (nI 0), .int (nI ((tcat (tcat (tcat (tK2 S k) (tch 59)) (tI (qHid S (nI k)))) (tI (qHolders S (nI k)))).2))])) :: (u13.1, .inl (G.2.2.2.1, u13.2.1, .inl u13.2.2)) :: (wA G ad S ++ F))) (pBA _ _ _ _).symm ?_
              refine yy_widen (cs2 := 70 + 11 * k + 6) (ss2 := 39208 + 6030 * k + 3018) (show 70 + 11 * k + 5 + 1 ≤ 70 + 11 * k + 6 by omega) (show 39208 + 6030 * k + 3012 + 6 ≤ 39208 + 6030 * k + 3018 by omega) ?_
              have hv_160 : smI (qDoc S (nI k)) := (hT.2.2.2.2.2.2.1 k (by omega)).2.2.1
              have hz_160 := tI_len hv_160
              refine yc_r (yr_V C (n := 1) (As := [.int (qDoc S (nI k))]) (rest := []) lk_L_168 cd_J4_append_bf812 im_J4_append_bf812 se_J4_append_bf812 (mJ4_append_bf812 l G B0 o1 (tcat (tcat (tcat (tK2 S k) (tch 59)) (tI (qHid S (nI k)))) (tI (qHolders S (nI k)))) u13 (wA G ad S ++ F) (qDoc S (nI k)) hv_160 hw20 (by omega)) ⟨by decide, by decide⟩ ⟨(show 70 + 11 * k + 6 + 1 ≤ 204 by omega), (show 39208 + 6030 * k + 3018 + 1000 ≤ 112572 by omega)⟩ 0 rfl rfl rfl rfl (Nat.le_of_ble_eq_true rfl) dL_told_160) (pc' := 163) rfl (fun u14 hw22 => ?_)
              refine yy_widen (cs2 := 70 + 11 * k + 7) (ss2 := 39208 + 6030 * k + 4018) (show 70 + 11 * k + 6 + 1 ≤ 70 + 11 * k + 7 by omega) (show 39208 + 6030 * k + 3018 + 1000 ≤ 39208 + 6030 * k + 4018 by omega) ?_
              have hn_160 : (tcat (tcat (tcat (tcat (tK2 S k) (tch 59)) (tI (qHid S (nI k)))) (tI (qHolders S (nI k)))) (tI (qDoc S (nI k)))).2 = (tcat (tcat (tcat (tK2 S k) (tch 59)) (tI (qHid S (nI k)))) (tI (qHolders S (nI k)))).2 + (tI (qDoc S (nI k))).2 := rfl
              refine yy_aload_n C 2 dL_told_163 (pc' := 164) rfl rfl rfl ?_
              refine yy_iload_n C 0 dL_told_164 (pc' := 165) rfl rfl rfl ?_
              refine yy_perm (w' := wA G ad S ++ ((o1, .inr (1, [.ref (u14.1), .int (nI 0), .int (nI 0), .int (nI ((tcat (tcat (tcat (tcat (tK2 S k) (tch 59)) (tI (qHid S (nI k)))) (tI (qHolders S (nI k)))) (tI (qDoc S (nI k)))).2))])) :: (u14.1, .inl (G.2.2.2.1, u14.2.1, .inl u14.2.2)) :: F)) (pBA _ _ _ _) ?_
              refine yc_i (yr_SW C (As := [.ref (ad 0), .int (nI k)]) (rest := [.ref (o1)]) lk_L_210 cd_L_indexOf st_L_indexOf (mL_indexOf l hl0 G B0 ad ((o1, .inr (1, [.ref (u14.1), .int (nI 0), .int (nI 0), .int (nI ((tcat (tcat (tcat (tcat (tK2 S k) (tch 59)) (tI (qHid S (nI k)))) (tI (qHolders S (nI k)))) (tI (qDoc S (nI k)))).2))])) :: (u14.1, .inl (G.2.2.2.1, u14.2.1, .inl u14.2.2)) :: F) S (nI k) hI) ⟨by decide, by decide⟩ ⟨(show 70 + 11 * k + 7 + 1 ≤ 204 by omega), (show 39208 + 6030 * k + 4018 + 6 ≤ 112572 by omega)⟩ rfl rfl (Nat.le_of_ble_eq_true rfl) dL_told_165) (pc' := 168) rfl (fun r23 _ hw23 => ?_)
              obtain rfl : r23 = (qIdx S (nI k)) := hw23
              refine yy_perm (w' := ((o1, .inr (1, [.ref (u14.1), .int (nI 0), .int (nI 0), .int (nI ((tcat (tcat (tcat (tcat (tK2 S k) (tch 59)) (tI (qHid S (nI k)))) (tI (qHolders S (nI k)))) (tI (qDoc S (nI k)))).2))])) :: (u14.1, .inl (G.2.2.2.1, u14.2.1, .inl u14.2.2)) :: (wA G ad S ++ F))) (pBA _ _ _ _).symm ?_
              refine yy_widen (cs2 := 70 + 11 * k + 8) (ss2 := 39208 + 6030 * k + 4024) (show 70 + 11 * k + 7 + 1 ≤ 70 + 11 * k + 8 by omega) (show 39208 + 6030 * k + 4018 + 6 ≤ 39208 + 6030 * k + 4024 by omega) ?_
              have hv_168 : smI (qIdx S (nI k)) := (hT.2.2.2.2.2.2.1 k (by omega)).2.2.2.1
              have hz_168 := tI_len hv_168
              refine yc_r (yr_V C (n := 1) (As := [.int (qIdx S (nI k))]) (rest := []) lk_L_168 cd_J4_append_bf812 im_J4_append_bf812 se_J4_append_bf812 (mJ4_append_bf812 l G B0 o1 (tcat (tcat (tcat (tcat (tK2 S k) (tch 59)) (tI (qHid S (nI k)))) (tI (qHolders S (nI k)))) (tI (qDoc S (nI k)))) u14 (wA G ad S ++ F) (qIdx S (nI k)) hv_168 hw22 (by omega)) ⟨by decide, by decide⟩ ⟨(show 70 + 11 * k + 8 + 1 ≤ 204 by omega), (show 39208 + 6030 * k + 4024 + 1000 ≤ 112572 by omega)⟩ 0 rfl rfl rfl rfl (Nat.le_of_ble_eq_true rfl) dL_told_168) (pc' := 171) rfl (fun u15 hw24 => ?_)
              refine yy_widen (cs2 := 70 + 11 * k + 9) (ss2 := 39208 + 6030 * k + 5024) (show 70 + 11 * k + 8 + 1 ≤ 70 + 11 * k + 9 by omega) (show 39208 + 6030 * k + 4024 + 1000 ≤ 39208 + 6030 * k + 5024 by omega) ?_
              have hn_168 : (tcat (tcat (tcat (tcat (tcat (tK2 S k) (tch 59)) (tI (qHid S (nI k)))) (tI (qHolders S (nI k)))) (tI (qDoc S (nI k)))) (tI (qIdx S (nI k)))).2 = (tcat (tcat (tcat (tcat (tK2 S k) (tch 59)) (tI (qHid S (nI k)))) (tI (qHolders S (nI k)))) (tI (qDoc S (nI k)))).2 + (tI (qIdx S (nI k))).2 := rfl
              refine yy_aload_n C 2 dL_told_171 (pc' := 172) rfl rfl rfl ?_
              refine yy_iconst C (v := (nI 0)) dL_told_172 (pc' := 173) rfl (by decide) ?_
              refine yy_iload_n C 0 dL_told_173 (pc' := 174) rfl rfl rfl ?_
              refine yy_perm (w' := wA G ad S ++ ((o1, .inr (1, [.ref (u15.1), .int (nI 0), .int (nI 0), .int (nI ((tcat (tcat (tcat (tcat (tcat (tK2 S k) (tch 59)) (tI (qHid S (nI k)))) (tI (qHolders S (nI k)))) (tI (qDoc S (nI k)))) (tI (qIdx S (nI k)))).2))])) :: (u15.1, .inl (G.2.2.2.1, u15.2.1, .inl u15.2.2)) :: F)) (pBA _ _ _ _) ?_
              refine yc_i (yr_SW C (As := [.ref (ad 0), .int (nI 0), .int (nI k)]) (rest := [.ref (o1)]) lk_L_212 cd_L_why st_L_why (mL_why l hl0 G B0 ad ((o1, .inr (1, [.ref (u15.1), .int (nI 0), .int (nI 0), .int (nI ((tcat (tcat (tcat (tcat (tcat (tK2 S k) (tch 59)) (tI (qHid S (nI k)))) (tI (qHolders S (nI k)))) (tI (qDoc S (nI k)))) (tI (qIdx S (nI k)))).2))])) :: (u15.1, .inl (G.2.2.2.1, u15.2.1, .inl u15.2.2)) :: F) S (nI 0) (nI k) hI) ⟨by decide, by decide⟩ ⟨(show 70 + 11 * k + 9 + 1 ≤ 204 by omega), (show 39208 + 6030 * k + 5024 + 6 ≤ 112572 by omega)⟩ rfl rfl (Nat.le_of_ble_eq_true rfl) dL_told_174) (pc' := 177) rfl (fun r25 _ hw25 => ?_)
              obtain rfl : r25 = (qWhy S (nI 0) (nI k)) := hw25
              refine yy_perm (w' := ((o1, .inr (1, [.ref (u15.1), .int (nI 0), .int (nI 0), .int (nI ((tcat (tcat (tcat (tcat (tcat (tK2 S k) (tch 59)) (tI (qHid S (nI k)))) (tI (qHolders S (nI k)))) (tI (qDoc S (nI k)))) (tI (qIdx S (nI k)))).2))])) :: (u15.1, .inl (G.2.2.2.1, u15.2.1, .inl u15.2.2)) :: (wA G ad S ++ F))) (pBA _ _ _ _).symm ?_
              refine yy_widen (cs2 := 70 + 11 * k + 10) (ss2 := 39208 + 6030 * k + 5030) (show 70 + 11 * k + 9 + 1 ≤ 70 + 11 * k + 10 by omega) (show 39208 + 6030 * k + 5024 + 6 ≤ 39208 + 6030 * k + 5030 by omega) ?_
              have hv_177 : smI (qWhy S (nI 0) (nI k)) := (hT.2.2.2.2.2.2.1 k (by omega)).2.2.2.2
              have hz_177 := tI_len hv_177
              refine yc_r (yr_V C (n := 1) (As := [.int (qWhy S (nI 0) (nI k))]) (rest := []) lk_L_168 cd_J4_append_bf812 im_J4_append_bf812 se_J4_append_bf812 (mJ4_append_bf812 l G B0 o1 (tcat (tcat (tcat (tcat (tcat (tK2 S k) (tch 59)) (tI (qHid S (nI k)))) (tI (qHolders S (nI k)))) (tI (qDoc S (nI k)))) (tI (qIdx S (nI k)))) u15 (wA G ad S ++ F) (qWhy S (nI 0) (nI k)) hv_177 hw24 (by omega)) ⟨by decide, by decide⟩ ⟨(show 70 + 11 * k + 10 + 1 ≤ 204 by omega), (show 39208 + 6030 * k + 5030 + 1000 ≤ 112572 by omega)⟩ 0 rfl rfl rfl rfl (Nat.le_of_ble_eq_true rfl) dL_told_177) (pc' := 180) rfl (fun u16 hw26 => ?_)
              refine yy_widen (cs2 := 70 + 11 * k + 11) (ss2 := 39208 + 6030 * k + 6030) (show 70 + 11 * k + 10 + 1 ≤ 70 + 11 * k + 11 by omega) (show 39208 + 6030 * k + 5030 + 1000 ≤ 39208 + 6030 * k + 6030 by omega) ?_
              have hn_177 : (tcat (tcat (tcat (tcat (tcat (tcat (tK2 S k) (tch 59)) (tI (qHid S (nI k)))) (tI (qHolders S (nI k)))) (tI (qDoc S (nI k)))) (tI (qIdx S (nI k)))) (tI (qWhy S (nI 0) (nI k)))).2 = (tcat (tcat (tcat (tcat (tcat (tK2 S k) (tch 59)) (tI (qHid S (nI k)))) (tI (qHolders S (nI k)))) (tI (qDoc S (nI k)))) (tI (qIdx S (nI k)))).2 + (tI (qWhy S (nI 0) (nI k))).2 := rfl
              refine yy_pop C dL_told_180 (pc' := 181) rfl rfl ?_
              refine yy_iinc C (v := (nI (k + 1))) (L' := [(2, .int (nI (k + 1))), (1, .ref (o1)), (0, .ref (ad 0))]) 0 dL_told_181 (pc' := 184) rfl rfl (nI_add k 1) (by decide) rfl ?_
              refine yy_goto C (tgt := 127) dL_told_184 (by decide) ?_
              refine yy_loc [0, 1, 2] rfl ?_
              refine yy_widen (cs2 := 70 + 11 * (k + 1)) (ss2 := 39208 + 6030 * (k + 1)) (by omega) (by omega) ?_
              have hh : (tK2 S (k + 1)).2 = (tcat (tcat (tcat (tcat (tcat (tcat (tK2 S k) (tch 59)) (tI (qHid S (nI k)))) (tI (qHolders S (nI k)))) (tI (qDoc S (nI k)))) (tI (qIdx S (nI k)))) (tI (qWhy S (nI 0) (nI k)))).2 := rfl
              exact ih (k + 1) u16 (by omega) hw26 (by omega) (by omega)
        refine yy_loc (L' := [(2, .int (nI 0)), (1, .ref (o1)), (0, .ref (ad 0))]) [0, 1, 2] rfl ?_
        exact lp_127 13 0 b (Nat.zero_le _) hB (by have hh : (tK2 S 0).2 = (tK1 S 5).2 := rfl; omega) (by omega)
      · skip
        refine yy_aload_n C 1 dL_told_72 (pc' := 73) rfl rfl rfl ?_
        refine yy_bipush C (v := (nI 59)) dL_told_73 (pc' := 75) rfl (by decide) ?_
        have hz_75 : (tch 59).2 = 1 := rfl
        refine yc_r (yr_V C (n := 1) (As := [.int (nI 59)]) (rest := []) lk_L_172 cd_J4_append_cf468 im_J4_append_cf468 se_J4_append_cf468 (mJ4_append_cf468 l G B0 o1 (tK1 S k) b (wA G ad S ++ F) 59 (by decide) hB (by omega)) ⟨by decide, by decide⟩ ⟨(show 15 + 11 * k + 0 + 1 ≤ 204 by omega), (show 9058 + 6030 * k + 0 + 1000 ≤ 112572 by omega)⟩ 0 rfl rfl rfl rfl (Nat.le_of_ble_eq_true rfl) dL_told_75) (pc' := 78) rfl (fun u11 hw16 => ?_)
        refine yy_widen (cs2 := 15 + 11 * k + 1) (ss2 := 9058 + 6030 * k + 1000) (show 15 + 11 * k + 0 + 1 ≤ 15 + 11 * k + 1 by omega) (show 9058 + 6030 * k + 0 + 1000 ≤ 9058 + 6030 * k + 1000 by omega) ?_
        have hn_75 : (tcat (tK1 S k) (tch 59)).2 = (tK1 S k).2 + (tch 59).2 := rfl
        refine yy_aload_n C 2 dL_told_78 (pc' := 79) rfl rfl rfl ?_
        refine yy_iload_n C 0 dL_told_79 (pc' := 80) rfl rfl rfl ?_
        refine yy_perm (w' := wA G ad S ++ ((o1, .inr (1, [.ref (u11.1), .int (nI 0), .int (nI 0), .int (nI ((tcat (tK1 S k) (tch 59)).2))])) :: (u11.1, .inl (G.2.2.2.1, u11.2.1, .inl u11.2.2)) :: F)) (pBA _ _ _ _) ?_
        refine yc_i (yr_SW C (As := [.ref (ad 0), .int (nI k)]) (rest := [.ref (o1)]) lk_L_194 cd_L_held st_L_held (mL_held l hl0 G B0 ad ((o1, .inr (1, [.ref (u11.1), .int (nI 0), .int (nI 0), .int (nI ((tcat (tK1 S k) (tch 59)).2))])) :: (u11.1, .inl (G.2.2.2.1, u11.2.1, .inl u11.2.2)) :: F) S (nI k) hI) ⟨by decide, by decide⟩ ⟨(show 15 + 11 * k + 1 + 1 ≤ 204 by omega), (show 9058 + 6030 * k + 1000 + 6 ≤ 112572 by omega)⟩ rfl rfl (Nat.le_of_ble_eq_true rfl) dL_told_80) (pc' := 83) rfl (fun r17 _ hw17 => ?_)
        obtain rfl : r17 = (qHeld S (nI k)) := hw17
        refine yy_perm (w' := ((o1, .inr (1, [.ref (u11.1), .int (nI 0), .int (nI 0), .int (nI ((tcat (tK1 S k) (tch 59)).2))])) :: (u11.1, .inl (G.2.2.2.1, u11.2.1, .inl u11.2.2)) :: (wA G ad S ++ F))) (pBA _ _ _ _).symm ?_
        refine yy_widen (cs2 := 15 + 11 * k + 2) (ss2 := 9058 + 6030 * k + 1006) (show 15 + 11 * k + 1 + 1 ≤ 15 + 11 * k + 2 by omega) (show 9058 + 6030 * k + 1000 + 6 ≤ 9058 + 6030 * k + 1006 by omega) ?_
        have hv_83 : smI (qHeld S (nI k)) := (hT.2.2.2.2.2.1 k (by omega)).1
        have hz_83 := tI_len hv_83
        refine yc_r (yr_V C (n := 1) (As := [.int (qHeld S (nI k))]) (rest := []) lk_L_168 cd_J4_append_bf812 im_J4_append_bf812 se_J4_append_bf812 (mJ4_append_bf812 l G B0 o1 (tcat (tK1 S k) (tch 59)) u11 (wA G ad S ++ F) (qHeld S (nI k)) hv_83 hw16 (by omega)) ⟨by decide, by decide⟩ ⟨(show 15 + 11 * k + 2 + 1 ≤ 204 by omega), (show 9058 + 6030 * k + 1006 + 1000 ≤ 112572 by omega)⟩ 0 rfl rfl rfl rfl (Nat.le_of_ble_eq_true rfl) dL_told_83) (pc' := 86) rfl (fun u12 hw18 => ?_)
        refine yy_widen (cs2 := 15 + 11 * k + 3) (ss2 := 9058 + 6030 * k + 2006) (show 15 + 11 * k + 2 + 1 ≤ 15 + 11 * k + 3 by omega) (show 9058 + 6030 * k + 1006 + 1000 ≤ 9058 + 6030 * k + 2006 by omega) ?_
        have hn_83 : (tcat (tcat (tK1 S k) (tch 59)) (tI (qHeld S (nI k)))).2 = (tcat (tK1 S k) (tch 59)).2 + (tI (qHeld S (nI k))).2 := rfl
        refine yy_aload_n C 2 dL_told_86 (pc' := 87) rfl rfl rfl ?_
        refine yy_iload_n C 0 dL_told_87 (pc' := 88) rfl rfl rfl ?_
        refine yy_perm (w' := wA G ad S ++ ((o1, .inr (1, [.ref (u12.1), .int (nI 0), .int (nI 0), .int (nI ((tcat (tcat (tK1 S k) (tch 59)) (tI (qHeld S (nI k)))).2))])) :: (u12.1, .inl (G.2.2.2.1, u12.2.1, .inl u12.2.2)) :: F)) (pBA _ _ _ _) ?_
        refine yc_i (yr_SW C (As := [.ref (ad 0), .int (nI k)]) (rest := [.ref (o1)]) lk_L_196 cd_L_given st_L_given (mL_given l hl0 G B0 ad ((o1, .inr (1, [.ref (u12.1), .int (nI 0), .int (nI 0), .int (nI ((tcat (tcat (tK1 S k) (tch 59)) (tI (qHeld S (nI k)))).2))])) :: (u12.1, .inl (G.2.2.2.1, u12.2.1, .inl u12.2.2)) :: F) S (nI k) hI) ⟨by decide, by decide⟩ ⟨(show 15 + 11 * k + 3 + 1 ≤ 204 by omega), (show 9058 + 6030 * k + 2006 + 6 ≤ 112572 by omega)⟩ rfl rfl (Nat.le_of_ble_eq_true rfl) dL_told_88) (pc' := 91) rfl (fun r19 _ hw19 => ?_)
        obtain rfl : r19 = (qGiven S (nI k)) := hw19
        refine yy_perm (w' := ((o1, .inr (1, [.ref (u12.1), .int (nI 0), .int (nI 0), .int (nI ((tcat (tcat (tK1 S k) (tch 59)) (tI (qHeld S (nI k)))).2))])) :: (u12.1, .inl (G.2.2.2.1, u12.2.1, .inl u12.2.2)) :: (wA G ad S ++ F))) (pBA _ _ _ _).symm ?_
        refine yy_widen (cs2 := 15 + 11 * k + 4) (ss2 := 9058 + 6030 * k + 2012) (show 15 + 11 * k + 3 + 1 ≤ 15 + 11 * k + 4 by omega) (show 9058 + 6030 * k + 2006 + 6 ≤ 9058 + 6030 * k + 2012 by omega) ?_
        have hv_91 : smI (qGiven S (nI k)) := (hT.2.2.2.2.2.1 k (by omega)).2.1
        have hz_91 := tI_len hv_91
        refine yc_r (yr_V C (n := 1) (As := [.int (qGiven S (nI k))]) (rest := []) lk_L_168 cd_J4_append_bf812 im_J4_append_bf812 se_J4_append_bf812 (mJ4_append_bf812 l G B0 o1 (tcat (tcat (tK1 S k) (tch 59)) (tI (qHeld S (nI k)))) u12 (wA G ad S ++ F) (qGiven S (nI k)) hv_91 hw18 (by omega)) ⟨by decide, by decide⟩ ⟨(show 15 + 11 * k + 4 + 1 ≤ 204 by omega), (show 9058 + 6030 * k + 2012 + 1000 ≤ 112572 by omega)⟩ 0 rfl rfl rfl rfl (Nat.le_of_ble_eq_true rfl) dL_told_91) (pc' := 94) rfl (fun u13 hw20 => ?_)
        refine yy_widen (cs2 := 15 + 11 * k + 5) (ss2 := 9058 + 6030 * k + 3012) (show 15 + 11 * k + 4 + 1 ≤ 15 + 11 * k + 5 by omega) (show 9058 + 6030 * k + 2012 + 1000 ≤ 9058 + 6030 * k + 3012 by omega) ?_
        have hn_91 : (tcat (tcat (tcat (tK1 S k) (tch 59)) (tI (qHeld S (nI k)))) (tI (qGiven S (nI k)))).2 = (tcat (tcat (tK1 S k) (tch 59)) (tI (qHeld S (nI k)))).2 + (tI (qGiven S (nI k))).2 := rfl
        refine yy_aload_n C 2 dL_told_94 (pc' := 95) rfl rfl rfl ?_
        refine yy_iload_n C 0 dL_told_95 (pc' := 96) rfl rfl rfl ?_
        refine yy_perm (w' := wA G ad S ++ ((o1, .inr (1, [.ref (u13.1), .int (nI 0), .int (nI 0), .int (nI ((tcat (tcat (tcat (tK1 S k) (tch 59)) (tI (qHeld S (nI k)))) (tI (qGiven S (nI k)))).2))])) :: (u13.1, .inl (G.2.2.2.1, u13.2.1, .inl u13.2.2)) :: F)) (pBA _ _ _ _) ?_
        refine yc_i (yr_SW C (As := [.ref (ad 0), .int (nI k)]) (rest := [.ref (o1)]) lk_L_198 cd_L_owed st_L_owed (mL_owed l hl0 G B0 ad ((o1, .inr (1, [.ref (u13.1), .int (nI 0), .int (nI 0), .int (nI ((tcat (tcat (tcat (tK1 S k) (tch 59)) (tI (qHeld S (nI k)))) (tI (qGiven S (nI k)))).2))])) :: (u13.1, .inl (G.2.2.2.1, u13.2.1, .inl u13.2.2)) :: F) S (nI k) hI) ⟨by decide, by decide⟩ ⟨(show 15 + 11 * k + 5 + 1 ≤ 204 by omega), (show 9058 + 6030 * k + 3012 + 6 ≤ 112572 by omega)⟩ rfl rfl (Nat.le_of_ble_eq_true rfl) dL_told_96) (pc' := 99) rfl (fun r21 _ hw21 => ?_)
        obtain rfl : r21 = (qOwed S (nI k)) := hw21
        refine yy_perm (w' := ((o1, .inr (1, [.ref (u13.1), .int (nI 0), .int (nI 0), .int (nI ((tcat (tcat (tcat (tK1 S k) (tch 59)) (tI (qHeld S (nI k)))) (tI (qGiven S (nI k)))).2))])) :: (u13.1, .inl (G.2.2.2.1, u13.2.1, .inl u13.2.2)) :: (wA G ad S ++ F))) (pBA _ _ _ _).symm ?_
        refine yy_widen (cs2 := 15 + 11 * k + 6) (ss2 := 9058 + 6030 * k + 3018) (show 15 + 11 * k + 5 + 1 ≤ 15 + 11 * k + 6 by omega) (show 9058 + 6030 * k + 3012 + 6 ≤ 9058 + 6030 * k + 3018 by omega) ?_
        have hv_99 : smI (qOwed S (nI k)) := (hT.2.2.2.2.2.1 k (by omega)).2.2.1
        have hz_99 := tI_len hv_99
        refine yc_r (yr_V C (n := 1) (As := [.int (qOwed S (nI k))]) (rest := []) lk_L_168 cd_J4_append_bf812 im_J4_append_bf812 se_J4_append_bf812 (mJ4_append_bf812 l G B0 o1 (tcat (tcat (tcat (tK1 S k) (tch 59)) (tI (qHeld S (nI k)))) (tI (qGiven S (nI k)))) u13 (wA G ad S ++ F) (qOwed S (nI k)) hv_99 hw20 (by omega)) ⟨by decide, by decide⟩ ⟨(show 15 + 11 * k + 6 + 1 ≤ 204 by omega), (show 9058 + 6030 * k + 3018 + 1000 ≤ 112572 by omega)⟩ 0 rfl rfl rfl rfl (Nat.le_of_ble_eq_true rfl) dL_told_99) (pc' := 102) rfl (fun u14 hw22 => ?_)
        refine yy_widen (cs2 := 15 + 11 * k + 7) (ss2 := 9058 + 6030 * k + 4018) (show 15 + 11 * k + 6 + 1 ≤ 15 + 11 * k + 7 by omega) (show 9058 + 6030 * k + 3018 + 1000 ≤ 9058 + 6030 * k + 4018 by omega) ?_
        have hn_99 : (tcat (tcat (tcat (tcat (tK1 S k) (tch 59)) (tI (qHeld S (nI k)))) (tI (qGiven S (nI k)))) (tI (qOwed S (nI k)))).2 = (tcat (tcat (tcat (tK1 S k) (tch 59)) (tI (qHeld S (nI k)))) (tI (qGiven S (nI k)))).2 + (tI (qOwed S (nI k))).2 := rfl
        refine yy_aload_n C 2 dL_told_102 (pc' := 103) rfl rfl rfl ?_
        refine yy_iload_n C 0 dL_told_103 (pc' := 104) rfl rfl rfl ?_
        refine yy_perm (w' := wA G ad S ++ ((o1, .inr (1, [.ref (u14.1), .int (nI 0), .int (nI 0), .int (nI ((tcat (tcat (tcat (tcat (tK1 S k) (tch 59)) (tI (qHeld S (nI k)))) (tI (qGiven S (nI k)))) (tI (qOwed S (nI k)))).2))])) :: (u14.1, .inl (G.2.2.2.1, u14.2.1, .inl u14.2.2)) :: F)) (pBA _ _ _ _) ?_
        refine yc_i (yr_SW C (As := [.ref (ad 0), .int (nI k)]) (rest := [.ref (o1)]) lk_L_200 cd_L_lines st_L_lines (mL_lines l hl0 G B0 ad ((o1, .inr (1, [.ref (u14.1), .int (nI 0), .int (nI 0), .int (nI ((tcat (tcat (tcat (tcat (tK1 S k) (tch 59)) (tI (qHeld S (nI k)))) (tI (qGiven S (nI k)))) (tI (qOwed S (nI k)))).2))])) :: (u14.1, .inl (G.2.2.2.1, u14.2.1, .inl u14.2.2)) :: F) S (nI k) hI) ⟨by decide, by decide⟩ ⟨(show 15 + 11 * k + 7 + 1 ≤ 204 by omega), (show 9058 + 6030 * k + 4018 + 6 ≤ 112572 by omega)⟩ rfl rfl (Nat.le_of_ble_eq_true rfl) dL_told_104) (pc' := 107) rfl (fun r23 _ hw23 => ?_)
        obtain rfl : r23 = (qLines S (nI k)) := hw23
        refine yy_perm (w' := ((o1, .inr (1, [.ref (u14.1), .int (nI 0), .int (nI 0), .int (nI ((tcat (tcat (tcat (tcat (tK1 S k) (tch 59)) (tI (qHeld S (nI k)))) (tI (qGiven S (nI k)))) (tI (qOwed S (nI k)))).2))])) :: (u14.1, .inl (G.2.2.2.1, u14.2.1, .inl u14.2.2)) :: (wA G ad S ++ F))) (pBA _ _ _ _).symm ?_
        refine yy_widen (cs2 := 15 + 11 * k + 8) (ss2 := 9058 + 6030 * k + 4024) (show 15 + 11 * k + 7 + 1 ≤ 15 + 11 * k + 8 by omega) (show 9058 + 6030 * k + 4018 + 6 ≤ 9058 + 6030 * k + 4024 by omega) ?_
        have hv_107 : smI (qLines S (nI k)) := (hT.2.2.2.2.2.1 k (by omega)).2.2.2.1
        have hz_107 := tI_len hv_107
        refine yc_r (yr_V C (n := 1) (As := [.int (qLines S (nI k))]) (rest := []) lk_L_168 cd_J4_append_bf812 im_J4_append_bf812 se_J4_append_bf812 (mJ4_append_bf812 l G B0 o1 (tcat (tcat (tcat (tcat (tK1 S k) (tch 59)) (tI (qHeld S (nI k)))) (tI (qGiven S (nI k)))) (tI (qOwed S (nI k)))) u14 (wA G ad S ++ F) (qLines S (nI k)) hv_107 hw22 (by omega)) ⟨by decide, by decide⟩ ⟨(show 15 + 11 * k + 8 + 1 ≤ 204 by omega), (show 9058 + 6030 * k + 4024 + 1000 ≤ 112572 by omega)⟩ 0 rfl rfl rfl rfl (Nat.le_of_ble_eq_true rfl) dL_told_107) (pc' := 110) rfl (fun u15 hw24 => ?_)
        refine yy_widen (cs2 := 15 + 11 * k + 9) (ss2 := 9058 + 6030 * k + 5024) (show 15 + 11 * k + 8 + 1 ≤ 15 + 11 * k + 9 by omega) (show 9058 + 6030 * k + 4024 + 1000 ≤ 9058 + 6030 * k + 5024 by omega) ?_
        have hn_107 : (tcat (tcat (tcat (tcat (tcat (tK1 S k) (tch 59)) (tI (qHeld S (nI k)))) (tI (qGiven S (nI k)))) (tI (qOwed S (nI k)))) (tI (qLines S (nI k)))).2 = (tcat (tcat (tcat (tcat (tK1 S k) (tch 59)) (tI (qHeld S (nI k)))) (tI (qGiven S (nI k)))) (tI (qOwed S (nI k)))).2 + (tI (qLines S (nI k))).2 := rfl
        refine yy_aload_n C 2 dL_told_110 (pc' := 111) rfl rfl rfl ?_
        refine yy_iload_n C 0 dL_told_111 (pc' := 112) rfl rfl rfl ?_
        refine yy_perm (w' := wA G ad S ++ ((o1, .inr (1, [.ref (u15.1), .int (nI 0), .int (nI 0), .int (nI ((tcat (tcat (tcat (tcat (tcat (tK1 S k) (tch 59)) (tI (qHeld S (nI k)))) (tI (qGiven S (nI k)))) (tI (qOwed S (nI k)))) (tI (qLines S (nI k)))).2))])) :: (u15.1, .inl (G.2.2.2.1, u15.2.1, .inl u15.2.2)) :: F)) (pBA _ _ _ _) ?_
        refine yc_i (yr_SW C (As := [.ref (ad 0), .int (nI k)]) (rest := [.ref (o1)]) lk_L_202 cd_L_state st_L_state (mL_state l hl0 G B0 ad ((o1, .inr (1, [.ref (u15.1), .int (nI 0), .int (nI 0), .int (nI ((tcat (tcat (tcat (tcat (tcat (tK1 S k) (tch 59)) (tI (qHeld S (nI k)))) (tI (qGiven S (nI k)))) (tI (qOwed S (nI k)))) (tI (qLines S (nI k)))).2))])) :: (u15.1, .inl (G.2.2.2.1, u15.2.1, .inl u15.2.2)) :: F) S (nI k) hI hT.2.2.2.2.2.2.2) ⟨by decide, by decide⟩ ⟨(show 15 + 11 * k + 9 + 1 ≤ 204 by omega), (show 9058 + 6030 * k + 5024 + 6 ≤ 112572 by omega)⟩ rfl rfl (Nat.le_of_ble_eq_true rfl) dL_told_112) (pc' := 115) rfl (fun r25 _ hw25 => ?_)
        obtain rfl : r25 = (qState S (nI k)) := hw25
        refine yy_perm (w' := ((o1, .inr (1, [.ref (u15.1), .int (nI 0), .int (nI 0), .int (nI ((tcat (tcat (tcat (tcat (tcat (tK1 S k) (tch 59)) (tI (qHeld S (nI k)))) (tI (qGiven S (nI k)))) (tI (qOwed S (nI k)))) (tI (qLines S (nI k)))).2))])) :: (u15.1, .inl (G.2.2.2.1, u15.2.1, .inl u15.2.2)) :: (wA G ad S ++ F))) (pBA _ _ _ _).symm ?_
        refine yy_widen (cs2 := 15 + 11 * k + 10) (ss2 := 9058 + 6030 * k + 5030) (show 15 + 11 * k + 9 + 1 ≤ 15 + 11 * k + 10 by omega) (show 9058 + 6030 * k + 5024 + 6 ≤ 9058 + 6030 * k + 5030 by omega) ?_
        have hv_115 : smI (qState S (nI k)) := (hT.2.2.2.2.2.1 k (by omega)).2.2.2.2
        have hz_115 := tI_len hv_115
        refine yc_r (yr_V C (n := 1) (As := [.int (qState S (nI k))]) (rest := []) lk_L_168 cd_J4_append_bf812 im_J4_append_bf812 se_J4_append_bf812 (mJ4_append_bf812 l G B0 o1 (tcat (tcat (tcat (tcat (tcat (tK1 S k) (tch 59)) (tI (qHeld S (nI k)))) (tI (qGiven S (nI k)))) (tI (qOwed S (nI k)))) (tI (qLines S (nI k)))) u15 (wA G ad S ++ F) (qState S (nI k)) hv_115 hw24 (by omega)) ⟨by decide, by decide⟩ ⟨(show 15 + 11 * k + 10 + 1 ≤ 204 by omega), (show 9058 + 6030 * k + 5030 + 1000 ≤ 112572 by omega)⟩ 0 rfl rfl rfl rfl (Nat.le_of_ble_eq_true rfl) dL_told_115) (pc' := 118) rfl (fun u16 hw26 => ?_)
        refine yy_widen (cs2 := 15 + 11 * k + 11) (ss2 := 9058 + 6030 * k + 6030) (show 15 + 11 * k + 10 + 1 ≤ 15 + 11 * k + 11 by omega) (show 9058 + 6030 * k + 5030 + 1000 ≤ 9058 + 6030 * k + 6030 by omega) ?_
        have hn_115 : (tcat (tcat (tcat (tcat (tcat (tcat (tK1 S k) (tch 59)) (tI (qHeld S (nI k)))) (tI (qGiven S (nI k)))) (tI (qOwed S (nI k)))) (tI (qLines S (nI k)))) (tI (qState S (nI k)))).2 = (tcat (tcat (tcat (tcat (tcat (tK1 S k) (tch 59)) (tI (qHeld S (nI k)))) (tI (qGiven S (nI k)))) (tI (qOwed S (nI k)))) (tI (qLines S (nI k)))).2 + (tI (qState S (nI k))).2 := rfl
        refine yy_pop C dL_told_118 (pc' := 119) rfl rfl ?_
        refine yy_iinc C (v := (nI (k + 1))) (L' := [(2, .int (nI (k + 1))), (1, .ref (o1)), (0, .ref (ad 0))]) 0 dL_told_119 (pc' := 122) rfl rfl (nI_add k 1) (by decide) rfl ?_
        refine yy_goto C (tgt := 67) dL_told_122 (by decide) ?_
        refine yy_loc [0, 1, 2] rfl ?_
        refine yy_widen (cs2 := 15 + 11 * (k + 1)) (ss2 := 9058 + 6030 * (k + 1)) (by omega) (by omega) ?_
        have hh : (tK1 S (k + 1)).2 = (tcat (tcat (tcat (tcat (tcat (tcat (tK1 S k) (tch 59)) (tI (qHeld S (nI k)))) (tI (qGiven S (nI k)))) (tI (qOwed S (nI k)))) (tI (qLines S (nI k)))) (tI (qState S (nI k)))).2 := rfl
        exact ih (k + 1) u16 (by omega) hw26 (by omega) (by omega)
  refine yy_loc (L' := [(2, .int (nI 0)), (1, .ref (o1)), (0, .ref (ad 0))]) [0, 1, 2] rfl ?_
  exact lp_67 6 0 u10 (Nat.zero_le _) hw15 (by have hh : (tK1 S 0).2 = (tcat (tcat (tcat (tcat (tcat (tcat (tcat (tcat (tcat tok0 (tI (nDay S))) (tch 47)) (tI (nHid S))) (tch 47)) (tI (nLate S))) (tch 47)) (tJ (lN (S.1 9)))) (tch 47)) (tF (qShare S))).2 := rfl; omega) (by omega)
