def and15 (x : Int32) : Int32 := x &&& nI 32767
theorem and15_lt (x : Int32) : ∃ m, m < 2 ^ 15 ∧ and15 x = nI m := by
  refine ⟨(x &&& nI 32767).toBitVec.toNat, ?_, ?_⟩
  · have h : (x &&& nI 32767).toBitVec.toNat = x.toBitVec.toNat &&& 32767 := rfl
    rw [h]
    exact Nat.lt_succ_of_le Nat.and_le_right
  · exact (nI_ix _).symm
abbrev rX7_init : Room := { frames := 1, cells := 0, slots := 0, locals := 14 }
set_option maxHeartbeats 4000000 in
set_option maxRecDepth 100000 in
theorem mX7_init (l : Launch) (G : gG) (B0 : Nat) (o_ : Nat) (F : va_W) (v sd : Int32) : Met l yX7_init (Cond.code yX7_init cX7_init 2 none :: WG) rX7_init (va_Pc [.ref (o_), .int sd] (PR G B0 (((o_, .inr (10, [.int v])) :: F)))) (va_Qv (fun (u : Int32) => True) (fun (u : Int32) (t_ : State) => va_P G.1 vwCl (((o_, .inr (10, [.int u])) :: F)) t_.heap ∧ va_D (fun q => B0 ≤ q) (((o_, .inr (10, [.int u])) :: F))) (fun q => B0 ≤ q)) rX7_init.cells rX7_init.slots (fun q => B0 ≤ q) := by
  refine met_of RX7 [(0, .ref (o_)), (1, .int sd)] rfl (by decide) (Nat.le_of_ble_eq_true rfl) rfl ?_
  intro p e s m args below meth c C hr hnm
  refine yq ?_
  intro QQ hQ
  refine yy_aload_n C 0 dX7_init_0 (pc' := 1) rfl rfl rfl ?_
  refine yy_objInit C ol_X7 im_obj cd_obj dX7_init_1 (pc' := 4) rfl (by decide) (by decide) ?_
  refine yy_aload_n C 0 dX7_init_4 (pc' := 5) rfl rfl rfl ?_
  refine yy_iload_n C 1 dX7_init_5 (pc' := 6) rfl rfl rfl ?_
  refine yy_ldci C (v := (nI 48271)) dX7_init_6 (pc' := 8) rfl li_X7_7 ?_
  refine yy_imul C (v := (sd * (nI 48271))) dX7_init_8 (pc' := 9) rfl rfl ?_
  refine yy_sipush C (v := (nI 12345)) dX7_init_9 (pc' := 12) rfl (by decide) ?_
  refine yy_iadd C (v := ((sd * (nI 48271)) + (nI 12345))) dX7_init_12 (pc' := 13) rfl rfl ?_
  refine yy_put C (w' := ((o_, .inr (10, [.int ((sd * (nI 48271)) + (nI 12345))])) :: F)) fk_X7_8 fpX7 rfl 0 dX7_init_13 (pc' := 16) rfl rfl rfl rfl (Nat.le_of_ble_eq_true rfl) rfl ?_
  subst hQ
  exact ye_v C hr ((sd * (nI 48271)) + (nI 12345)) dX7_init_16 rfl (by decide) (by decide) trivial

abbrev rX7_next : Room := { frames := 1, cells := 0, slots := 0, locals := 21 }
set_option maxHeartbeats 4000000 in
set_option maxRecDepth 100000 in
theorem mX7_next (l : Launch) (G : gG) (B0 : Nat) (o_ : Nat) (F : va_W) (v : Int32) (k : Nat) (hk : k < 2 ^ 15) : Met l yX7_next (Cond.code yX7_next cX7_next 2 (some .int) :: WG) rX7_next (va_Pc [.ref (o_), .int (nI k)] (PR G B0 (((o_, .inr (10, [.int v])) :: F)))) (va_Qi (fun (r : Int32) (u : Int32) => ∃ j, j < max 1 k ∧ r = nI j) (fun (u : Int32) (t_ : State) => va_P G.1 vwCl (((o_, .inr (10, [.int u])) :: F)) t_.heap ∧ va_D (fun q => B0 ≤ q) (((o_, .inr (10, [.int u])) :: F))) (fun q => B0 ≤ q)) rX7_next.cells rX7_next.slots (fun q => B0 ≤ q) := by
  refine met_of RX7 [(0, .ref (o_)), (1, .int (nI k))] rfl (by decide) (Nat.le_of_ble_eq_true rfl) rfl ?_
  intro p e s m args below meth c C hr hnm
  refine yq ?_
  intro QQ hQ
  refine yy_aload_n C 0 dX7_next_0 (pc' := 1) rfl rfl rfl ?_
  refine yy_aload_n C 0 dX7_next_1 (pc' := 2) rfl rfl rfl ?_
  refine yy_get C (v := .int v) fk_X7_8 0 dX7_next_2 (pc' := 5) rfl rfl rfl ?_
  refine yy_ldci C (v := (nI 1103515245)) dX7_next_5 (pc' := 7) rfl li_X7_14 ?_
  refine yy_imul C (v := (v * (nI 1103515245))) dX7_next_7 (pc' := 8) rfl rfl ?_
  refine yy_sipush C (v := (nI 12345)) dX7_next_8 (pc' := 11) rfl (by decide) ?_
  refine yy_iadd C (v := ((v * (nI 1103515245)) + (nI 12345))) dX7_next_11 (pc' := 12) rfl rfl ?_
  refine yy_put C (w' := ((o_, .inr (10, [.int ((v * (nI 1103515245)) + (nI 12345))])) :: F)) fk_X7_8 fpX7 rfl 0 dX7_next_12 (pc' := 15) rfl rfl rfl rfl (Nat.le_of_ble_eq_true rfl) rfl ?_
  refine yy_aload_n C 0 dX7_next_15 (pc' := 16) rfl rfl rfl ?_
  refine yy_get C (v := .int ((v * (nI 1103515245)) + (nI 12345))) fk_X7_8 0 dX7_next_16 (pc' := 19) rfl rfl rfl ?_
  refine yy_bipush C (v := (nI 16)) dX7_next_19 (pc' := 21) rfl (by decide) ?_
  refine yy_iushr C (v := (ush32 ((v * (nI 1103515245)) + (nI 12345)) (nI 16))) dX7_next_21 (pc' := 22) rfl rfl ?_
  refine yy_sipush C (v := (nI 32767)) dX7_next_22 (pc' := 25) rfl (by decide) ?_
  refine yy_iand C (v := (and15 (ush32 ((v * (nI 1103515245)) + (nI 12345)) (nI 16)))) dX7_next_25 (pc' := 26) rfl rfl ?_
  obtain ⟨m_, hm_, em_⟩ := and15_lt (ush32 ((v * (nI 1103515245)) + (nI 12345)) (nI 16))
  refine yy_eqi em_ ?_
  refine yy_iconst C (v := (nI 1)) dX7_next_26 (pc' := 27) rfl (by decide) ?_
  refine yy_iload_n C 1 dX7_next_27 (pc' := 28) rfl rfl rfl ?_
  refine yc_i (yr_S C (n := 2) (As := [.int (nI 1), .int (nI k)]) (rest := [.int (nI m_)]) lk_X7_15 cd_J9_max_7cf53 st_J9_max_7cf53 (mJ9_max_7cf53 l G B0 ((o_, .inr (10, [.int ((v * (nI 1103515245)) + (nI 12345))])) :: F) 1 k (by omega) (by omega)) ⟨by decide, by decide⟩ ⟨by decide, by decide⟩ rfl rfl (Nat.le_of_ble_eq_true rfl) dX7_next_28) (pc' := 31) rfl (fun r1 _ hw1 => ?_)
  subst hw1
  refine yy_irem C (v := (nI (m_ % (max 1 k)))) dX7_next_31 (pc' := 32) rfl (fun z => absurd ((nI_eq (by omega) (by decide)).mp (z.trans nI_0.symm)) (by omega)) (pk_rem (by omega) (by omega) (by omega)) ?_
  subst hQ
  exact ye_i C hr (vp_nar_int _) ((v * (nI 1103515245)) + (nI 12345)) dX7_next_32 rfl (by decide) (by decide) ⟨_, Nat.mod_lt _ (by omega), rfl⟩

abbrev rL_number : Room := { frames := 2, cells := 0, slots := 0, locals := 42 }
set_option maxHeartbeats 4000000 in
set_option maxRecDepth 100000 in
theorem mL_number (l : Launch) (G : gG) (B0 : Nat) (o_ : Nat) (F : va_W) (v : Int32) (k : Nat) (nt : Int32) (hk : k < 2 ^ 15) : Met l yL_number (Cond.code yL_number cL_number 3 (some .int) :: WG) rL_number (va_Pc [.ref (o_), .int (nI k), .int nt] (PR G B0 (((o_, .inr (10, [.int v])) :: F)))) (va_Qi (fun (r : Int32) (u : Int32) => True) (fun (u : Int32) (t_ : State) => va_P G.1 vwCl (((o_, .inr (10, [.int u])) :: F)) t_.heap ∧ va_D (fun q => B0 ≤ q) (((o_, .inr (10, [.int u])) :: F))) (fun q => B0 ≤ q)) rL_number.cells rL_number.slots (fun q => B0 ≤ q) := by
  refine met_of RL [(0, .ref (o_)), (1, .int (nI k)), (2, .int nt)] rfl (by decide) (Nat.le_of_ble_eq_true rfl) rfl ?_
  intro p e s m args below meth c C hr hnm
  refine yq ?_
  intro QQ hQ
  refine yy_aload_n C 0 dL_number_0 (pc' := 1) rfl rfl rfl ?_
  refine yy_bipush C (v := (nI 30)) dL_number_1 (pc' := 3) rfl (by decide) ?_
  refine yc_i (yr_V C (As := [.int (nI 30)]) (rest := []) lk_L_115 cd_X7_next im_X7_next se_X7_next (mX7_next l G B0 o_ F v 30 (by omega)) ⟨by decide, by decide⟩ ⟨by decide, by decide⟩ 0 rfl rfl rfl rfl (Nat.le_of_ble_eq_true rfl) dL_number_3) (pc' := 6) rfl (fun r1 z1 _ => ?_)
  refine yy_if_ne C dL_number_6 (pc' := 9) rfl (tgt := 13) (by decide) (fun c_6 => ?_) (fun c_6 => ?_)
  · skip
    refine yy_aload_n C 0 dL_number_13 (pc' := 14) rfl rfl rfl ?_
    refine yy_iconst C (v := (nI 1)) dL_number_14 (pc' := 15) rfl (by decide) ?_
    refine yy_iload_n C 1 dL_number_15 (pc' := 16) rfl rfl rfl ?_
    refine yc_i (yr_S C (n := 2) (As := [.int (nI 1), .int (nI k)]) (rest := [.ref (o_)]) lk_L_120 cd_J9_max_7cf53 st_J9_max_7cf53 (mJ9_max_7cf53 l G B0 ((o_, .inr (10, [.int z1])) :: F) 1 k (by omega) (by omega)) ⟨by decide, by decide⟩ ⟨by decide, by decide⟩ rfl rfl (Nat.le_of_ble_eq_true rfl) dL_number_16) (pc' := 19) rfl (fun r2 _ hw1 => ?_)
    subst hw1
    refine yc_i (yr_V C (As := [.int (nI (max 1 k))]) (rest := []) lk_L_115 cd_X7_next im_X7_next se_X7_next (mX7_next l G B0 o_ F z1 (max 1 k) (by omega)) ⟨by decide, by decide⟩ ⟨by decide, by decide⟩ 0 rfl rfl rfl rfl (Nat.le_of_ble_eq_true rfl) dL_number_19) (pc' := 22) rfl (fun r3 z2 _ => ?_)
    subst hQ
    exact ye_i C hr (vp_nar_int _) z2 dL_number_22 rfl (by decide) (by decide) trivial
  · skip
    refine yy_iload_n C 2 dL_number_9 (pc' := 10) rfl rfl rfl ?_
    refine yy_goto C (tgt := 22) dL_number_10 (by decide) ?_
    subst hQ
    exact ye_i C hr (vp_nar_int _) z1 dL_number_22 rfl (by decide) (by decide) trivial
