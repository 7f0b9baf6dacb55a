theorem def_J0 : ∀ j, j < 4 → defaultValue (tyJ0 j) = vp_V [.null, .int (nI 0), .int (nI 0), .int (nI 0)] j := by
  intro j hj
  iterate 4 (rcases j with _ | j; · rfl)
  omega
theorem def_J4 : ∀ j, j < 4 → defaultValue (tyJ4 j) = vp_V [.null, .int (nI 0), .int (nI 0), .int (nI 0)] j := by
  intro j hj
  iterate 4 (rcases j with _ | j; · rfl)
  omega
theorem def_Jx40b00 : ∀ j, j < 2 → defaultValue (tyJx40b00 j) = vp_V [.null, .int (nI 0)] j := by
  intro j hj
  iterate 2 (rcases j with _ | j; · rfl)
  omega
theorem pm_1_2_0 {α : Type} (c0_ c1_ c2_ : α) (t_ : List α) : List.Perm (c0_ :: c1_ :: c2_ :: t_) (c1_ :: c2_ :: c0_ :: t_) := by
  have h : List.Perm [c0_, c1_, c2_] [c1_, c2_, c0_] := perm_at (x := [c0_, c1_, c2_]) [1, 2, 0] (by rw [show List.length [c0_, c1_, c2_] = 3 from rfl]; decide +kernel) rfl
  exact List.Perm.append_right t_ h

theorem pm_1_0_2 {α : Type} (c0_ c1_ c2_ : α) (t_ : List α) : List.Perm (c0_ :: c1_ :: c2_ :: t_) (c1_ :: c0_ :: c2_ :: t_) := by
  have h : List.Perm [c0_, c1_, c2_] [c1_, c0_, c2_] := perm_at (x := [c0_, c1_, c2_]) [1, 0, 2] (by rw [show List.length [c0_, c1_, c2_] = 3 from rfl]; decide +kernel) rfl
  exact List.Perm.append_right t_ h

theorem pm_3_0_1_2 {α : Type} (c0_ c1_ c2_ c3_ : α) (t_ : List α) : List.Perm (c0_ :: c1_ :: c2_ :: c3_ :: t_) (c3_ :: c0_ :: c1_ :: c2_ :: t_) := by
  have h : List.Perm [c0_, c1_, c2_, c3_] [c3_, c0_, c1_, c2_] := perm_at (x := [c0_, c1_, c2_, c3_]) [3, 0, 1, 2] (by rw [show List.length [c0_, c1_, c2_, c3_] = 4 from rfl]; decide +kernel) rfl
  exact List.Perm.append_right t_ h

theorem pm_1_3_0_2 {α : Type} (c0_ c1_ c2_ c3_ : α) (t_ : List α) : List.Perm (c0_ :: c1_ :: c2_ :: c3_ :: t_) (c1_ :: c3_ :: c0_ :: c2_ :: t_) := by
  have h : List.Perm [c0_, c1_, c2_, c3_] [c1_, c3_, c0_, c2_] := perm_at (x := [c0_, c1_, c2_, c3_]) [1, 3, 0, 2] (by rw [show List.length [c0_, c1_, c2_, c3_] = 4 from rfl]; decide +kernel) rfl
  exact List.Perm.append_right t_ h

theorem pm_2_0_3_1 {α : Type} (c0_ c1_ c2_ c3_ : α) (t_ : List α) : List.Perm (c0_ :: c1_ :: c2_ :: c3_ :: t_) (c2_ :: c0_ :: c3_ :: c1_ :: t_) := by
  have h : List.Perm [c0_, c1_, c2_, c3_] [c2_, c0_, c3_, c1_] := perm_at (x := [c0_, c1_, c2_, c3_]) [2, 0, 3, 1] (by rw [show List.length [c0_, c1_, c2_, c3_] = 4 from rfl]; decide +kernel) rfl
  exact List.Perm.append_right t_ h
abbrev rJ5_init_d00df : Room := { frames := 1, cells := 1, slots := 16, locals := 14 }
set_option maxHeartbeats 4000000 in
set_option maxRecDepth 100000 in
theorem mJ5_init_d00df (l : Launch) (G : gG) (B0 : Nat) (sb : Nat) (F : va_W) : Met l yJ5_init_d00df (Cond.code yJ5_init_d00df cJ5_init_d00df 2 none :: WG) rJ5_init_d00df (va_Pc [.ref (sb), .int (nI 16)] (PR G B0 (((sb, .inr (1, [.null, .int (nI 0), .int (nI 0), .int (nI 0)])) :: F)))) (va_Qv (fun (u : Nat) => True) (fun (u : Nat) (t_ : State) => va_P G.1 vwCl (((sb, .inr (1, [.ref (u), .int (nI 0), .int (nI 0), .int (nI 0)])) :: (u, .inl (G.2.2.2.1, 16, .inl (fun _ => 0))) :: F)) t_.heap ∧ va_D (fun q => B0 ≤ q) (((sb, .inr (1, [.ref (u), .int (nI 0), .int (nI 0), .int (nI 0)])) :: (u, .inl (G.2.2.2.1, 16, .inl (fun _ => 0))) :: F))) (fun q => B0 ≤ q)) rJ5_init_d00df.cells rJ5_init_d00df.slots (fun q => B0 ≤ q) := by
  refine met_of RJ5 [(0, .ref (sb)), (1, .int (nI 16))] rfl (by decide) (Nat.le_of_ble_eq_true rfl) rfl ?_
  intro p e s m args below meth c C hr hnm
  refine yq ?_
  intro QQ hQ
  refine yy_aload_n C 0 dJ5_init_d00df_0 (pc' := 1) rfl rfl rfl ?_
  refine yy_objInit C ol_J5 im_obj cd_obj dJ5_init_d00df_1 (pc' := 4) rfl (by decide) (by decide) ?_
  refine yy_gets C (v := .int (nI 1)) (cSV C).1 sk_J5_18 rfl dJ5_init_d00df_4 (pc' := 7) rfl ?_
  refine yy_if_eq C dJ5_init_d00df_7 (pc' := 10) rfl (tgt := 25) (by decide) (fun c_7 => ?_) (fun c_7 => ?_)
  · skip
    exact absurd c_7 (by decide)
  · skip
    refine yy_aload_n C 0 dJ5_init_d00df_10 (pc' := 11) rfl rfl rfl ?_
    refine yy_iload_n C 1 dJ5_init_d00df_11 (pc' := 12) rfl rfl rfl ?_
    refine yy_newaB C (N := 16) ac_byte dJ5_init_d00df_12 (pc' := 14) rfl (by decide) (by decide) (Nat.le_of_ble_eq_true rfl) (Nat.le_of_ble_eq_true rfl) (fun q1 => ?_)
    refine yy_put C (w' := ((q1, .inl (G.2.2.2.1, 16, .inl (fun _ => 0))) :: (sb, .inr (1, [.ref (q1), .int (nI 0), .int (nI 0), .int (nI 0)])) :: F)) fk_J5_15 fpJ4 rfl 1 dJ5_init_d00df_14 (pc' := 17) rfl rfl rfl rfl (Nat.le_of_ble_eq_true rfl) rfl ?_
    refine yy_aload_n C 0 dJ5_init_d00df_17 (pc' := 18) rfl rfl rfl ?_
    refine yy_iconst C (v := (nI 0)) dJ5_init_d00df_18 (pc' := 19) rfl (by decide) ?_
    refine yy_put C (w' := ((q1, .inl (G.2.2.2.1, 16, .inl (fun _ => 0))) :: (sb, .inr (1, [.ref (q1), .int (nI 0), .int (nI 0), .int (nI 0)])) :: F)) fk_J5_22 fpJ4 rfl 1 dJ5_init_d00df_19 (pc' := 22) rfl rfl rfl rfl (Nat.le_of_ble_eq_true rfl) rfl ?_
    refine yy_goto C (tgt := 38) dJ5_init_d00df_22 (by decide) ?_
    refine yy_perm (w' := ((sb, .inr (1, [.ref (q1), .int (nI 0), .int (nI 0), .int (nI 0)])) :: (q1, .inl (G.2.2.2.1, 16, .inl (fun _ => 0))) :: F)) (pm_1_0 _ _ _) ?_
    subst hQ
    exact ye_v C hr q1 dJ5_init_d00df_38 rfl (by decide) (by decide) trivial

abbrev rJ4_init_da8c8 : Room := { frames := 2, cells := 1, slots := 16, locals := 35 }
set_option maxHeartbeats 4000000 in
set_option maxRecDepth 100000 in
theorem mJ4_init_da8c8 (l : Launch) (G : gG) (B0 : Nat) (sb : Nat) (F : va_W) : Met l yJ4_init_da8c8 (Cond.code yJ4_init_da8c8 cJ4_init_da8c8 1 none :: WG) rJ4_init_da8c8 (va_Pc [.ref (sb)] (PR G B0 (((sb, .inr (1, [.null, .int (nI 0), .int (nI 0), .int (nI 0)])) :: F)))) (va_Qv (fun (u : Nat) => True) (fun (u : Nat) (t_ : State) => va_P G.1 vwCl (((sb, .inr (1, [.ref (u), .int (nI 0), .int (nI 0), .int (nI 0)])) :: (u, .inl (G.2.2.2.1, 16, .inl (fun _ => 0))) :: F)) t_.heap ∧ va_D (fun q => B0 ≤ q) (((sb, .inr (1, [.ref (u), .int (nI 0), .int (nI 0), .int (nI 0)])) :: (u, .inl (G.2.2.2.1, 16, .inl (fun _ => 0))) :: F))) (fun q => B0 ≤ q)) rJ4_init_da8c8.cells rJ4_init_da8c8.slots (fun q => B0 ≤ q) := by
  refine met_of RJ4 [(0, .ref (sb))] rfl (by decide) (Nat.le_of_ble_eq_true rfl) rfl ?_
  intro p e s m args below meth c C hr hnm
  refine yq ?_
  intro QQ hQ
  refine yy_aload_n C 0 dJ4_init_da8c8_0 (pc' := 1) rfl rfl rfl ?_
  refine yy_bipush C (v := (nI 16)) dJ4_init_da8c8_1 (pc' := 3) rfl (by decide) ?_
  refine yc_v (yr_I C (n := 1) (As := [.int (nI 16)]) (rest := []) lk_J4_1 cd_J5_init_d00df im_J5_init_d00df rfl (mJ5_init_d00df l G B0 (sb) F) ⟨by decide, by decide⟩ ⟨by decide, by decide⟩ rfl rfl (Nat.le_of_ble_eq_true rfl) dJ4_init_da8c8_3) (pc' := 6) rfl (fun u1 hw1 => ?_)
  subst hQ
  exact ye_v C hr u1 dJ4_init_da8c8_6 rfl (by decide) (by decide) trivial

abbrev rJ7_checkLength_df160 : Room := { frames := 0, cells := 0, slots := 0, locals := 0 }
set_option maxHeartbeats 4000000 in
set_option maxRecDepth 100000 in
theorem mJ7_checkLength_df160 (l : Launch) (G : gG) (B0 : Nat) (w : va_W) (n_ : Nat) (hn : n_ ≤ 1000) : Met l yJ7_checkLength_df160 (Cond.code yJ7_checkLength_df160 cJ7_checkLength_df160 2 none :: WG) rJ7_checkLength_df160 (va_Pc [.int (nI 0), .int (nI n_)] (PR G B0 (w))) (va_Qv (fun (_ : Unit) => True) (fun (_ : Unit) (t_ : State) => va_P G.1 vwCl (w) t_.heap ∧ va_D (fun q => B0 ≤ q) (w)) (fun q => B0 ≤ q)) rJ7_checkLength_df160.cells rJ7_checkLength_df160.slots (fun q => B0 ≤ q) := by
  refine met_of RJ7 [(0, .int (nI 0)), (1, .int (nI n_))] rfl (by decide) (Nat.le_of_ble_eq_true rfl) rfl ?_
  intro p e s m args below meth c C hr hnm
  refine yq ?_
  intro QQ hQ
  refine yy_iload_n C 1 dJ7_checkLength_df160_0 (pc' := 1) rfl rfl rfl ?_
  refine yy_iload_n C 0 dJ7_checkLength_df160_1 (pc' := 2) rfl rfl rfl ?_
  refine yn_icmp_ge C (by omega) (by decide) dJ7_checkLength_df160_2 (pc' := 5) rfl (tgt := 37) (by decide) (fun c_2 => ?_) (fun c_2 => ?_)
  · skip
    subst hQ
    exact ye_v C hr () dJ7_checkLength_df160_37 rfl (by decide) (by decide) trivial
  · skip
    exact absurd c_2 (by omega)

abbrev rJ7_copyOfRangeByte_39247 : Room := { frames := 1, cells := 1, slots := 1000, locals := 40 }
set_option maxHeartbeats 4000000 in
set_option maxRecDepth 100000 in
theorem mJ7_copyOfRangeByte_39247 (l : Launch) (G : gG) (B0 : Nat) (av m_ n_ : Nat) (a : Nat → Int32) (F : va_W) (hn : n_ ≤ m_) (hm : m_ ≤ 1000) (hf : sb_Fit a) : Met l yJ7_copyOfRangeByte_39247 (Cond.code yJ7_copyOfRangeByte_39247 cJ7_copyOfRangeByte_39247 5 (some (.array .byte)) :: WG) rJ7_copyOfRangeByte_39247 (va_Pc [.ref (av), .int (nI 0), .int (nI n_)] (PR G B0 (((av, .inl (G.2.2.2.1, m_, .inl a)) :: F)))) (va_Qr (fun (u : Nat × (Nat → Int32)) => (∀ j, j < n_ → u.2 j = a j) ∧ sb_Fit u.2) (fun (u : Nat × (Nat → Int32)) (a_ : Nat) (t_ : State) => a_ = u.1 ∧ va_P G.1 vwCl (((u.1, .inl (G.2.2.2.1, n_, .inl u.2)) :: (av, .inl (G.2.2.2.1, m_, .inl a)) :: F)) t_.heap ∧ va_D (fun q => B0 ≤ q) (((u.1, .inl (G.2.2.2.1, n_, .inl u.2)) :: (av, .inl (G.2.2.2.1, m_, .inl a)) :: F))) (fun q => B0 ≤ q)) rJ7_copyOfRangeByte_39247.cells rJ7_copyOfRangeByte_39247.slots (fun q => B0 ≤ q) := by
  refine met_of RJ7 [(0, .ref (av)), (1, .int (nI 0)), (2, .int (nI n_))] rfl (by decide) (Nat.le_of_ble_eq_true rfl) rfl ?_
  intro p e s m args below meth c C hr hnm
  refine yq ?_
  intro QQ hQ
  refine yy_iload_n C 1 dJ7_copyOfRangeByte_39247_0 (pc' := 1) rfl rfl rfl ?_
  refine yy_iload_n C 2 dJ7_copyOfRangeByte_39247_1 (pc' := 2) rfl rfl rfl ?_
  refine yc_v (yr_S C (n := 2) (As := [.int (nI 0), .int (nI n_)]) (rest := []) lk_J7_343 cd_J7_checkLength_df160 st_J7_checkLength_df160 (mJ7_checkLength_df160 l G B0 ((av, .inl (G.2.2.2.1, m_, .inl a)) :: F) n_ (by omega)) ⟨by decide, by decide⟩ ⟨by decide, by decide⟩ rfl rfl (Nat.le_of_ble_eq_true rfl) dJ7_copyOfRangeByte_39247_2) (pc' := 5) rfl (fun _ hw1 => ?_)
  refine yy_iload_n C 2 dJ7_copyOfRangeByte_39247_5 (pc' := 6) rfl rfl rfl ?_
  refine yy_iload_n C 1 dJ7_copyOfRangeByte_39247_6 (pc' := 7) rfl rfl rfl ?_
  refine yy_isub C (v := (nI n_)) dJ7_copyOfRangeByte_39247_7 (pc' := 8) rfl (pk_sub (Nat.zero_le _)) ?_
  refine yy_istore_n C (L' := [(3, .int (nI n_)), (0, .ref (av)), (1, .int (nI 0)), (2, .int (nI n_))]) dJ7_copyOfRangeByte_39247_8 (pc' := 9) rfl rfl (by decide) rfl ?_
  refine yy_iload_n C 0 dJ7_copyOfRangeByte_39247_9 (pc' := 10) rfl rfl rfl ?_
  refine yy_newaB C (N := n_) ac_byte dJ7_copyOfRangeByte_39247_10 (pc' := 12) rfl (by omega) (by show n_ * 1 ≤ 536870912; omega) (Nat.le_of_ble_eq_true rfl) (show 0 + n_ ≤ 1000 by omega) (fun q1 => ?_)
  refine yy_widen (cs2 := 1) (ss2 := 1000) (show 1 ≤ 1 from Nat.le_refl _) (show 0 + n_ ≤ 1000 by omega) ?_
  refine yy_astore C (L' := [(4, .ref (q1)), (3, .int (nI n_)), (0, .ref (av)), (1, .int (nI 0)), (2, .int (nI n_))]) dJ7_copyOfRangeByte_39247_12 (pc' := 14) rfl (by decide) rfl ?_
  refine yy_aload_n C 2 dJ7_copyOfRangeByte_39247_14 (pc' := 15) rfl rfl rfl ?_
  refine yy_iload_n C 3 dJ7_copyOfRangeByte_39247_15 (pc' := 16) rfl rfl rfl ?_
  refine yy_aload C 0 dJ7_copyOfRangeByte_39247_16 (pc' := 18) rfl rfl ?_
  refine yy_iconst C (v := (nI 0)) dJ7_copyOfRangeByte_39247_18 (pc' := 19) rfl (by decide) ?_
  refine yy_aload_n C 2 dJ7_copyOfRangeByte_39247_19 (pc' := 20) rfl rfl rfl ?_
  refine yy_alenB C 1 dJ7_copyOfRangeByte_39247_20 (pc' := 21) rfl rfl ?_
  refine yy_iload_n C 3 dJ7_copyOfRangeByte_39247_21 (pc' := 22) rfl rfl rfl ?_
  refine yy_isub C (v := (nI m_)) dJ7_copyOfRangeByte_39247_22 (pc' := 23) rfl (pk_sub (Nat.zero_le _)) ?_
  refine yy_iload_n C 1 dJ7_copyOfRangeByte_39247_23 (pc' := 24) rfl rfl rfl ?_
  refine yc_i (yr_S C (n := 2) (As := [.int (nI m_), .int (nI n_)]) (rest := [.int (nI 0), .ref (q1), .int (nI 0), .ref (av)]) lk_J7_304 cd_J9_min_7cf53 st_J9_min_7cf53 (mJ9_min_7cf53 l G B0 ((q1, .inl (G.2.2.2.1, n_, .inl (fun _ => 0))) :: (av, .inl (G.2.2.2.1, m_, .inl a)) :: F) m_ n_ (by omega) (by omega)) ⟨by decide, by decide⟩ ⟨by decide, by decide⟩ rfl rfl (Nat.le_of_ble_eq_true rfl) dJ7_copyOfRangeByte_39247_24) (pc' := 27) rfl (fun r2 _ hw2 => ?_)
  subst hw2
  refine yy_copyB C (w' := ((q1, .inl (G.2.2.2.1, n_, .inl (va_cpy a (fun _ => 0) 0 0 (min m_ n_)))) :: (av, .inl (G.2.2.2.1, m_, .inl a)) :: F)) (sp := 0) (dp := 0) (n := min m_ n_) lx_J7_150 nt_copy st_copy ii_sys 1 0 dJ7_copyOfRangeByte_39247_27 (pc' := 30) rfl rfl rfl (by omega) (by omega) (by omega) (by omega) (fun i _ => hf _) (by decide) (by decide) rfl ?_
  refine yy_aload C 0 dJ7_copyOfRangeByte_39247_30 (pc' := 32) rfl rfl ?_
  subst hQ
  exact ye_r C hr (Or.inr ⟨_, rfl⟩) (q1, va_cpy a (fun _ => 0) 0 0 (min m_ n_)) dJ7_copyOfRangeByte_39247_32 rfl (by decide) (by decide) ⟨fun j hj => by show va_cpy a (fun _ => 0) 0 0 (min m_ n_) j = a j; rw [Nat.min_eq_right hn]; exact sb_cpy0 hj, sb_fitC hf sb_fit0⟩

abbrev rJ7_copyOfRange_39247 : Room := { frames := 2, cells := 1, slots := 1000, locals := 64 }
set_option maxHeartbeats 4000000 in
set_option maxRecDepth 100000 in
theorem mJ7_copyOfRange_39247 (l : Launch) (G : gG) (B0 : Nat) (av m_ n_ : Nat) (a : Nat → Int32) (F : va_W) (hn : n_ ≤ m_) (hm : m_ ≤ 1000) (hf : sb_Fit a) : Met l yJ7_copyOfRange_39247 (Cond.code yJ7_copyOfRange_39247 cJ7_copyOfRange_39247 3 (some (.array .byte)) :: WG) rJ7_copyOfRange_39247 (va_Pc [.ref (av), .int (nI 0), .int (nI n_)] (PR G B0 (((av, .inl (G.2.2.2.1, m_, .inl a)) :: F)))) (va_Qr (fun (u : Nat × (Nat → Int32)) => (∀ j, j < n_ → u.2 j = a j) ∧ sb_Fit u.2) (fun (u : Nat × (Nat → Int32)) (a_ : Nat) (t_ : State) => a_ = u.1 ∧ va_P G.1 vwCl (((u.1, .inl (G.2.2.2.1, n_, .inl u.2)) :: (av, .inl (G.2.2.2.1, m_, .inl a)) :: F)) t_.heap ∧ va_D (fun q => B0 ≤ q) (((u.1, .inl (G.2.2.2.1, n_, .inl u.2)) :: (av, .inl (G.2.2.2.1, m_, .inl a)) :: F))) (fun q => B0 ≤ q)) rJ7_copyOfRange_39247.cells rJ7_copyOfRange_39247.slots (fun q => B0 ≤ q) := by
  refine met_of RJ7 [(0, .ref (av)), (1, .int (nI 0)), (2, .int (nI n_))] rfl (by decide) (Nat.le_of_ble_eq_true rfl) rfl ?_
  intro p e s m args below meth c C hr hnm
  refine yq ?_
  intro QQ hQ
  refine yy_iload_n C 1 dJ7_copyOfRange_39247_0 (pc' := 1) rfl rfl rfl ?_
  refine yy_if_ne C dJ7_copyOfRange_39247_1 (pc' := 4) rfl (tgt := 10) (by decide) (fun c_1 => ?_) (fun c_1 => ?_)
  · skip
    exact absurd c_1 (by decide)
  · skip
    refine yy_iload_n C 2 dJ7_copyOfRange_39247_4 (pc' := 5) rfl rfl rfl ?_
    refine yy_aload_n C 0 dJ7_copyOfRange_39247_5 (pc' := 6) rfl rfl rfl ?_
    refine yy_alenB C 0 dJ7_copyOfRange_39247_6 (pc' := 7) rfl rfl ?_
    refine yn_icmp_eq C (by omega) (by omega) dJ7_copyOfRange_39247_7 (pc' := 10) rfl (tgt := 17) (by decide) (fun c_7 => ?_) (fun c_7 => ?_)
    · skip
      subst c_7
      refine yy_aload_n C 0 dJ7_copyOfRange_39247_17 (pc' := 18) rfl rfl rfl ?_
      refine yy_cloneB C lx_J7_310 sm_clone nt_clone im_clone se_clone 0 dJ7_copyOfRange_39247_18 (pc' := 21) rfl rfl hf (by decide) (by decide) (Nat.le_of_ble_eq_true rfl) (show 0 + n_ ≤ 1000 by omega) (fun q1 => ?_)
      refine yy_widen (cs2 := 1) (ss2 := 1000) (show 1 ≤ 1 from Nat.le_refl _) (show 0 + n_ ≤ 1000 by omega) ?_
      refine yy_chkB C 0 rfl cl_J7_311 dJ7_copyOfRange_39247_21 (pc' := 24) rfl ?_
      subst hQ
      exact ye_r C hr (Or.inr ⟨_, rfl⟩) (q1, a) dJ7_copyOfRange_39247_24 rfl (by decide) (by decide) ⟨fun _ _ => rfl, hf⟩
    · skip
      refine yy_aload_n C 0 dJ7_copyOfRange_39247_10 (pc' := 11) rfl rfl rfl ?_
      refine yy_iload_n C 1 dJ7_copyOfRange_39247_11 (pc' := 12) rfl rfl rfl ?_
      refine yy_iload_n C 2 dJ7_copyOfRange_39247_12 (pc' := 13) rfl rfl rfl ?_
      refine yc_r (yr_S C (n := 3) (As := [.ref (av), .int (nI 0), .int (nI n_)]) (rest := []) lk_J7_339 cd_J7_copyOfRangeByte_39247 st_J7_copyOfRangeByte_39247 (mJ7_copyOfRangeByte_39247 l G B0 (av) m_ n_ a F hn hm hf) ⟨by decide, by decide⟩ ⟨by decide, by decide⟩ rfl rfl (Nat.le_of_ble_eq_true rfl) dJ7_copyOfRange_39247_13) (pc' := 16) rfl (fun u1 hw1 => ?_)
      subst hQ
      exact ye_r C hr (Or.inr ⟨_, rfl⟩) u1 dJ7_copyOfRange_39247_16 rfl (by decide) (by decide) hw1

abbrev rJ5_getValue_6d5f1 : Room := { frames := 0, cells := 0, slots := 0, locals := 0 }
set_option maxHeartbeats 4000000 in
set_option maxRecDepth 100000 in
theorem mJ5_getValue_6d5f1 (l : Launch) (G : gG) (B0 : Nat) (sb n_ : Nat) (b : BU) (F : va_W) : Met l yJ5_getValue_6d5f1 (Cond.code yJ5_getValue_6d5f1 cJ5_getValue_6d5f1 1 (some (.array .byte)) :: WG) rJ5_getValue_6d5f1 (va_Pc [.ref (sb)] (PR G B0 (((sb, .inr (1, [.ref (b.1), .int (nI 0), .int (nI 0), .int (nI n_)])) :: (b.1, .inl (G.2.2.2.1, b.2.1, .inl b.2.2)) :: F)))) (va_Qr (fun (_ : Unit) => True) (fun (_ : Unit) (a_ : Nat) (t_ : State) => a_ = b.1 ∧ va_P G.1 vwCl (((sb, .inr (1, [.ref (b.1), .int (nI 0), .int (nI 0), .int (nI n_)])) :: (b.1, .inl (G.2.2.2.1, b.2.1, .inl b.2.2)) :: F)) t_.heap ∧ va_D (fun q => B0 ≤ q) (((sb, .inr (1, [.ref (b.1), .int (nI 0), .int (nI 0), .int (nI n_)])) :: (b.1, .inl (G.2.2.2.1, b.2.1, .inl b.2.2)) :: F))) (fun q => B0 ≤ q)) rJ5_getValue_6d5f1.cells rJ5_getValue_6d5f1.slots (fun q => B0 ≤ q) := by
  refine met_of RJ5 [(0, .ref (sb))] rfl (by decide) (Nat.le_of_ble_eq_true rfl) rfl ?_
  intro p e s m args below meth c C hr hnm
  refine yq ?_
  intro QQ hQ
  refine yy_aload_n C 0 dJ5_getValue_6d5f1_0 (pc' := 1) rfl rfl rfl ?_
  refine yy_get C (v := .ref (b.1)) fk_J5_15 0 dJ5_getValue_6d5f1_1 (pc' := 4) rfl rfl rfl ?_
  subst hQ
  exact ye_r C hr (Or.inr ⟨_, rfl⟩) () dJ5_getValue_6d5f1_4 rfl (by decide) (by decide) trivial

abbrev rJ5_length_8abf5 : Room := { frames := 0, cells := 0, slots := 0, locals := 0 }
set_option maxHeartbeats 4000000 in
set_option maxRecDepth 100000 in
theorem mJ5_length_8abf5 (l : Launch) (G : gG) (B0 : Nat) (sb n_ : Nat) (b : BU) (F : va_W) : Met l yJ5_length_8abf5 (Cond.code yJ5_length_8abf5 cJ5_length_8abf5 1 (some .int) :: WG) rJ5_length_8abf5 (va_Pc [.ref (sb)] (PR G B0 (((sb, .inr (1, [.ref (b.1), .int (nI 0), .int (nI 0), .int (nI n_)])) :: (b.1, .inl (G.2.2.2.1, b.2.1, .inl b.2.2)) :: F)))) (va_Qi (fun (r : Int32) (_ : Unit) => r = nI n_) (fun (_ : Unit) (t_ : State) => va_P G.1 vwCl (((sb, .inr (1, [.ref (b.1), .int (nI 0), .int (nI 0), .int (nI n_)])) :: (b.1, .inl (G.2.2.2.1, b.2.1, .inl b.2.2)) :: F)) t_.heap ∧ va_D (fun q => B0 ≤ q) (((sb, .inr (1, [.ref (b.1), .int (nI 0), .int (nI 0), .int (nI n_)])) :: (b.1, .inl (G.2.2.2.1, b.2.1, .inl b.2.2)) :: F))) (fun q => B0 ≤ q)) rJ5_length_8abf5.cells rJ5_length_8abf5.slots (fun q => B0 ≤ q) := by
  refine met_of RJ5 [(0, .ref (sb))] rfl (by decide) (Nat.le_of_ble_eq_true rfl) rfl ?_
  intro p e s m args below meth c C hr hnm
  refine yq ?_
  intro QQ hQ
  refine yy_aload_n C 0 dJ5_length_8abf5_0 (pc' := 1) rfl rfl rfl ?_
  refine yy_get C (v := .int (nI n_)) fk_J5_79 0 dJ5_length_8abf5_1 (pc' := 4) rfl rfl rfl ?_
  subst hQ
  exact ye_i C hr (vp_nar_int _) () dJ5_length_8abf5_4 rfl (by decide) (by decide) rfl

abbrev rJ4_length_8abf5 : Room := { frames := 1, cells := 0, slots := 0, locals := 20 }
set_option maxHeartbeats 4000000 in
set_option maxRecDepth 100000 in
theorem mJ4_length_8abf5 (l : Launch) (G : gG) (B0 : Nat) (sb n_ : Nat) (b : BU) (F : va_W) : Met l yJ4_length_8abf5 (Cond.code yJ4_length_8abf5 cJ4_length_8abf5 1 (some .int) :: WG) rJ4_length_8abf5 (va_Pc [.ref (sb)] (PR G B0 (((sb, .inr (1, [.ref (b.1), .int (nI 0), .int (nI 0), .int (nI n_)])) :: (b.1, .inl (G.2.2.2.1, b.2.1, .inl b.2.2)) :: F)))) (va_Qi (fun (r : Int32) (_ : Unit) => r = nI n_) (fun (_ : Unit) (t_ : State) => va_P G.1 vwCl (((sb, .inr (1, [.ref (b.1), .int (nI 0), .int (nI 0), .int (nI n_)])) :: (b.1, .inl (G.2.2.2.1, b.2.1, .inl b.2.2)) :: F)) t_.heap ∧ va_D (fun q => B0 ≤ q) (((sb, .inr (1, [.ref (b.1), .int (nI 0), .int (nI 0), .int (nI n_)])) :: (b.1, .inl (G.2.2.2.1, b.2.1, .inl b.2.2)) :: F))) (fun q => B0 ≤ q)) rJ4_length_8abf5.cells rJ4_length_8abf5.slots (fun q => B0 ≤ q) := by
  refine met_of RJ4 [(0, .ref (sb))] rfl (by decide) (Nat.le_of_ble_eq_true rfl) rfl ?_
  intro p e s m args below meth c C hr hnm
  refine yq ?_
  intro QQ hQ
  refine yy_aload_n C 0 dJ4_length_8abf5_0 (pc' := 1) rfl rfl rfl ?_
  refine yc_i (yr_SU C (n := 0) (As := []) (rest := []) ly_J4_343 ii_J5 ⟨by decide, by decide +kernel⟩ sm_J5_length_8abf5 su_J4 cd_J5_length_8abf5 im_J5_length_8abf5 (mJ5_length_8abf5 l G B0 sb n_ b F) ⟨by decide, by decide⟩ ⟨by decide, by decide⟩ 0 rfl rfl rfl rfl (Nat.le_of_ble_eq_true rfl) dJ4_length_8abf5_1) (pc' := 4) rfl (fun r1 _ hw1 => ?_)
  subst hw1
  subst hQ
  exact ye_i C hr (vp_nar_int _) () dJ4_length_8abf5_4 rfl (by decide) (by decide) rfl

abbrev rJ0_init_db425 : Room := { frames := 3, cells := 1, slots := 1000, locals := 86 }
set_option maxHeartbeats 4000000 in
set_option maxRecDepth 100000 in
theorem mJ0_init_db425 (l : Launch) (G : gG) (B0 : Nat) (st0 : Nat) (sb : Nat) (x : TT) (b : BU) (F : va_W) (h : BO x b) : Met l yJ0_init_db425 (Cond.code yJ0_init_db425 cJ0_init_db425 5 none :: WG) rJ0_init_db425 (va_Pc [.ref (st0), .ref (sb), .null] (PR G B0 (((st0, .inr (0, [.null, .int (nI 0), .int (nI 0), .int (nI 0)])) :: (sb, .inr (1, [.ref (b.1), .int (nI 0), .int (nI 0), .int (nI x.2)])) :: (b.1, .inl (G.2.2.2.1, b.2.1, .inl b.2.2)) :: F)))) (va_Qv (fun (u : Nat × (Nat → Int32)) => sb_Lat x.1 x.2 u.2 ∧ sb_Fit u.2) (fun (u : Nat × (Nat → Int32)) (t_ : State) => va_P G.1 vwCl (((st0, .inr (0, [.ref (u.1), .int (nI 0), .int (nI 0), .int (nI 0)])) :: (u.1, .inl (G.2.2.2.1, x.2, .inl u.2)) :: F)) t_.heap ∧ va_D (fun q => B0 ≤ q) (((st0, .inr (0, [.ref (u.1), .int (nI 0), .int (nI 0), .int (nI 0)])) :: (u.1, .inl (G.2.2.2.1, x.2, .inl u.2)) :: F))) (fun q => B0 ≤ q)) rJ0_init_db425.cells rJ0_init_db425.slots (fun q => B0 ≤ q) := by
  refine met_of RJ0 [(0, .ref (st0)), (1, .ref (sb)), (2, .null)] rfl (by decide) (Nat.le_of_ble_eq_true rfl) rfl ?_
  intro p e s m args below meth c C hr hnm
  refine yq ?_
  intro QQ hQ
  refine yy_aload_n C 0 dJ0_init_db425_0 (pc' := 1) rfl rfl rfl ?_
  refine yy_objInit C ol_J0 im_obj cd_obj dJ0_init_db425_1 (pc' := 4) rfl (by decide) (by decide) ?_
  refine yy_aload_n C 1 dJ0_init_db425_4 (pc' := 5) rfl rfl rfl ?_
  refine yy_perm (w' := ((sb, .inr (1, [.ref (b.1), .int (nI 0), .int (nI 0), .int (nI x.2)])) :: (b.1, .inl (G.2.2.2.1, b.2.1, .inl b.2.2)) :: (st0, .inr (0, [.null, .int (nI 0), .int (nI 0), .int (nI 0)])) :: F)) (pm_1_2_0 _ _ _ _) ?_
  refine yc_r (yr_U C (n := 0) (As := []) (rest := []) (x := yJ5_getValue_6d5f1) (owner := yJ5_getValue_6d5f1.cls) (Cn := RJ4) ly_J0_552 ii_J5 ⟨by decide, by decide, by decide +kernel⟩ sm_J5_getValue_6d5f1 im_J5_getValue_6d5f1 cd_J5_getValue_6d5f1 cd_J5_getValue_6d5f1 im_J5_getValue_6d5f1 (C.2.2.2.2.1 _ sx_J5_getValue_6d5f1) (mJ5_getValue_6d5f1 l G B0 sb x.2 b ((st0, .inr (0, [.null, .int (nI 0), .int (nI 0), .int (nI 0)])) :: F)) ⟨by decide, by decide⟩ ⟨by decide, by decide⟩ 0 rfl rfl rfl rfl (Nat.le_of_ble_eq_true rfl) dJ0_init_db425_5) (pc' := 8) rfl (fun _ hw1 => ?_)
  refine yy_astore_n C (L' := [(3, .ref (b.1)), (0, .ref (st0)), (1, .ref (sb)), (2, .null)]) dJ0_init_db425_8 (pc' := 9) rfl rfl (by decide) rfl ?_
  refine yy_aload_n C 2 dJ0_init_db425_9 (pc' := 10) rfl rfl rfl ?_
  refine yc_i (yr_U C (n := 0) (As := []) (rest := []) (x := yJ5_length_8abf5) (owner := yJ5_length_8abf5.cls) (Cn := RJ4) ly_J0_549 ii_J4 ⟨by decide, by decide, by decide +kernel⟩ sm_J5_length_8abf5 im_J5_length_8abf5 cd_J5_length_8abf5 cd_J4_length_8abf5 im_J4_length_8abf5 (C.2.2.2.2.1 _ sx_J5_length_8abf5) (mJ4_length_8abf5 l G B0 sb x.2 b ((st0, .inr (0, [.null, .int (nI 0), .int (nI 0), .int (nI 0)])) :: F)) ⟨by decide, by decide⟩ ⟨by decide, by decide⟩ 0 rfl rfl rfl rfl (Nat.le_of_ble_eq_true rfl) dJ0_init_db425_10) (pc' := 13) rfl (fun r2 _ hw2 => ?_)
  subst hw2
  refine yy_istore C (L' := [(4, .int (nI x.2)), (3, .ref (b.1)), (0, .ref (st0)), (1, .ref (sb)), (2, .null)]) dJ0_init_db425_13 (pc' := 15) rfl (by decide) rfl ?_
  refine yy_aload_n C 3 dJ0_init_db425_15 (pc' := 16) rfl rfl rfl ?_
  refine yc_i (yr_U C (n := 0) (As := []) (rest := []) (x := yJ5_isLatin1_aae02) (owner := yJ5_isLatin1_aae02.cls) (Cn := RJ4) ly_J0_1047 ii_J5 ⟨by decide, by decide, by decide +kernel⟩ sm_J5_isLatin1_aae02 im_J5_isLatin1_aae02 cd_J5_isLatin1_aae02 cd_J5_isLatin1_aae02 im_J5_isLatin1_aae02 (C.2.2.2.2.1 _ sx_J5_isLatin1_aae02) (mJ5_isLatin1_aae02 l G B0 sb x.2 b ((st0, .inr (0, [.null, .int (nI 0), .int (nI 0), .int (nI 0)])) :: F)) ⟨by decide, by decide⟩ ⟨by decide, by decide⟩ 0 rfl rfl rfl rfl (Nat.le_of_ble_eq_true rfl) dJ0_init_db425_16) (pc' := 19) rfl (fun r3 _ hw3 => ?_)
  subst hw3
  refine yy_if_eq C dJ0_init_db425_19 (pc' := 22) rfl (tgt := 41) (by decide) (fun c_19 => ?_) (fun c_19 => ?_)
  · skip
    exact absurd c_19 (by decide)
  · skip
    refine yy_aload_n C 2 dJ0_init_db425_22 (pc' := 23) rfl rfl rfl ?_
    refine yy_iconst C (v := (nI 0)) dJ0_init_db425_23 (pc' := 24) rfl (by decide) ?_
    refine yy_putF C (w' := ((sb, .inr (1, [.ref (b.1), .int (nI 0), .int (nI 0), .int (nI x.2)])) :: (b.1, .inl (G.2.2.2.1, b.2.1, .inl b.2.2)) :: (st0, .inr (0, [.null, .int (nI 0), .int (nI 0), .int (nI 0)])) :: F)) fk_J0_15 fpJ0 rfl hnm rfl 2 dJ0_init_db425_24 (pc' := 27) rfl rfl rfl rfl (Nat.le_of_ble_eq_true rfl) rfl ?_
    refine yy_aload_n C 2 dJ0_init_db425_27 (pc' := 28) rfl rfl rfl ?_
    refine yy_aload_n C 1 dJ0_init_db425_28 (pc' := 29) rfl rfl rfl ?_
    refine yy_iconst C (v := (nI 0)) dJ0_init_db425_29 (pc' := 30) rfl (by decide) ?_
    refine yy_iload C 0 dJ0_init_db425_30 (pc' := 32) rfl rfl ?_
    refine yy_perm (w' := ((b.1, .inl (G.2.2.2.1, b.2.1, .inl b.2.2)) :: (sb, .inr (1, [.ref (b.1), .int (nI 0), .int (nI 0), .int (nI x.2)])) :: (st0, .inr (0, [.null, .int (nI 0), .int (nI 0), .int (nI 0)])) :: F)) (pm_1_0_2 _ _ _ _) ?_
    refine yc_r (yr_S C (n := 3) (As := [.ref (b.1), .int (nI 0), .int (nI x.2)]) (rest := [.ref (st0)]) lk_J0_54 cd_J7_copyOfRange_39247 st_J7_copyOfRange_39247 (mJ7_copyOfRange_39247 l G B0 (b.1) b.2.1 x.2 b.2.2 ((sb, .inr (1, [.ref (b.1), .int (nI 0), .int (nI 0), .int (nI x.2)])) :: (st0, .inr (0, [.null, .int (nI 0), .int (nI 0), .int (nI 0)])) :: F) h.1 h.2.1 h.2.2.2) ⟨by decide, by decide⟩ ⟨by decide, by decide⟩ rfl rfl (Nat.le_of_ble_eq_true rfl) dJ0_init_db425_32) (pc' := 35) rfl (fun u1 hw4 => ?_)
    refine yy_putF C (w' := ((u1.1, .inl (G.2.2.2.1, x.2, .inl u1.2)) :: (b.1, .inl (G.2.2.2.1, b.2.1, .inl b.2.2)) :: (sb, .inr (1, [.ref (b.1), .int (nI 0), .int (nI 0), .int (nI x.2)])) :: (st0, .inr (0, [.ref (u1.1), .int (nI 0), .int (nI 0), .int (nI 0)])) :: F)) fk_J0_9 fpJ0 rfl hnm rfl 3 dJ0_init_db425_35 (pc' := 38) rfl rfl rfl rfl (Nat.le_of_ble_eq_true rfl) rfl ?_
    refine yy_goto C (tgt := 97) dJ0_init_db425_38 (by decide) ?_
    refine yy_perm (w' := ((st0, .inr (0, [.ref (u1.1), .int (nI 0), .int (nI 0), .int (nI 0)])) :: (u1.1, .inl (G.2.2.2.1, x.2, .inl u1.2)) :: (b.1, .inl (G.2.2.2.1, b.2.1, .inl b.2.2)) :: (sb, .inr (1, [.ref (b.1), .int (nI 0), .int (nI 0), .int (nI x.2)])) :: F)) (pm_3_0_1_2 _ _ _ _ _) ?_
    refine yy_drop (w' := ((st0, .inr (0, [.ref (u1.1), .int (nI 0), .int (nI 0), .int (nI 0)])) :: (u1.1, .inl (G.2.2.2.1, x.2, .inl u1.2)) :: F)) (List.Sublist.cons_cons _ (List.Sublist.cons_cons _ (List.Sublist.cons _ (List.Sublist.cons _ (List.Sublist.refl _))))) ?_
    subst hQ
    exact ye_v C hr (u1.1, u1.2) dJ0_init_db425_97 rfl (by decide) (by decide) ⟨sb_latKeep h.2.2.1 hw4.1, hw4.2⟩

abbrev rJ0_init_81219 : Room := { frames := 4, cells := 1, slots := 1000, locals := 110 }
set_option maxHeartbeats 4000000 in
set_option maxRecDepth 100000 in
theorem mJ0_init_81219 (l : Launch) (G : gG) (B0 : Nat) (st0 : Nat) (sb : Nat) (x : TT) (b : BU) (F : va_W) (h : BO x b) : Met l yJ0_init_81219 (Cond.code yJ0_init_81219 cJ0_init_81219 2 none :: WG) rJ0_init_81219 (va_Pc [.ref (st0), .ref (sb)] (PR G B0 (((st0, .inr (0, [.null, .int (nI 0), .int (nI 0), .int (nI 0)])) :: (sb, .inr (1, [.ref (b.1), .int (nI 0), .int (nI 0), .int (nI x.2)])) :: (b.1, .inl (G.2.2.2.1, b.2.1, .inl b.2.2)) :: F)))) (va_Qv (fun (u : Nat × (Nat → Int32)) => sb_Lat x.1 x.2 u.2 ∧ sb_Fit u.2) (fun (u : Nat × (Nat → Int32)) (t_ : State) => va_P G.1 vwCl (((st0, .inr (0, [.ref (u.1), .int (nI 0), .int (nI 0), .int (nI 0)])) :: (u.1, .inl (G.2.2.2.1, x.2, .inl u.2)) :: F)) t_.heap ∧ va_D (fun q => B0 ≤ q) (((st0, .inr (0, [.ref (u.1), .int (nI 0), .int (nI 0), .int (nI 0)])) :: (u.1, .inl (G.2.2.2.1, x.2, .inl u.2)) :: F))) (fun q => B0 ≤ q)) rJ0_init_81219.cells rJ0_init_81219.slots (fun q => B0 ≤ q) := by
  refine met_of RJ0 [(0, .ref (st0)), (1, .ref (sb))] rfl (by decide) (Nat.le_of_ble_eq_true rfl) rfl ?_
  intro p e s m args below meth c C hr hnm
  refine yq ?_
  intro QQ hQ
  refine yy_aload_n C 0 dJ0_init_81219_0 (pc' := 1) rfl rfl rfl ?_
  refine yy_aload_n C 1 dJ0_init_81219_1 (pc' := 2) rfl rfl rfl ?_
  refine yy_null C dJ0_init_81219_2 (pc' := 3) rfl ?_
  refine yc_v (yr_I C (n := 2) (As := [.ref (sb), .null]) (rest := []) lk_J0_489 cd_J0_init_db425 im_J0_init_db425 rfl (mJ0_init_db425 l G B0 st0 sb x b F h) ⟨by decide, by decide⟩ ⟨by decide, by decide⟩ rfl rfl (Nat.le_of_ble_eq_true rfl) dJ0_init_81219_3) (pc' := 6) rfl (fun u1 hw1 => ?_)
  subst hQ
  exact ye_v C hr u1 dJ0_init_81219_6 rfl (by decide) (by decide) hw1

abbrev rJ4_toString_0e30d : Room := { frames := 5, cells := 2, slots := 1004, locals := 131 }
set_option maxHeartbeats 4000000 in
set_option maxRecDepth 100000 in
theorem mJ4_toString_0e30d (l : Launch) (G : gG) (B0 : Nat) (sb : Nat) (x : TT) (b : BU) (F : va_W) (h : BO x b) : Met l yJ4_toString_0e30d (Cond.code yJ4_toString_0e30d cJ4_toString_0e30d 1 (some (.object "java/lang/String")) :: WG) rJ4_toString_0e30d (va_Pc [.ref (sb)] (PR G B0 (((sb, .inr (1, [.ref (b.1), .int (nI 0), .int (nI 0), .int (nI x.2)])) :: (b.1, .inl (G.2.2.2.1, b.2.1, .inl b.2.2)) :: F)))) (va_Qr (fun (u : Nat × Nat × (Nat → Int32)) => sb_Lat x.1 x.2 u.2.2 ∧ sb_Fit u.2.2) (fun (u : Nat × Nat × (Nat → Int32)) (a_ : Nat) (t_ : State) => a_ = u.1 ∧ va_P G.1 vwCl (((u.1, .inr (0, [.ref (u.2.1), .int (nI 0), .int (nI 0), .int (nI 0)])) :: (u.2.1, .inl (G.2.2.2.1, x.2, .inl u.2.2)) :: F)) t_.heap ∧ va_D (fun q => B0 ≤ q) (((u.1, .inr (0, [.ref (u.2.1), .int (nI 0), .int (nI 0), .int (nI 0)])) :: (u.2.1, .inl (G.2.2.2.1, x.2, .inl u.2.2)) :: F))) (fun q => B0 ≤ q)) rJ4_toString_0e30d.cells rJ4_toString_0e30d.slots (fun q => B0 ≤ q) := by
  refine met_of RJ4 [(0, .ref (sb))] rfl (by decide) (Nat.le_of_ble_eq_true rfl) rfl ?_
  intro p e s m args below meth c C hr hnm
  refine yq ?_
  intro QQ hQ
  refine yy_new C inJ0 (ci := 0) rfl fpJ0 cl_J4_18 ia_J0 ii_J0 dJ4_toString_0e30d_0 (pc' := 3) rfl (fs := [.null, .int (nI 0), .int (nI 0), .int (nI 0)]) (def_J0) (Nat.le_of_ble_eq_true rfl) (Nat.le_of_ble_eq_true rfl) (fun o1 => ?_)
  refine yy_dup C dJ4_toString_0e30d_3 (pc' := 4) rfl rfl ?_
  refine yy_aload_n C 0 dJ4_toString_0e30d_4 (pc' := 5) rfl rfl rfl ?_
  refine yc_v (yr_I C (n := 1) (As := [.ref (sb)]) (rest := [.ref (o1)]) lk_J4_137 cd_J0_init_81219 im_J0_init_81219 rfl (mJ0_init_81219 l G B0 o1 sb x b F h) ⟨by decide, by decide⟩ ⟨by decide, by decide⟩ rfl rfl (Nat.le_of_ble_eq_true rfl) dJ4_toString_0e30d_5) (pc' := 8) rfl (fun u1 hw1 => ?_)
  subst hQ
  exact ye_r C hr (Or.inl ⟨_, rfl⟩) (o1, u1.1, u1.2) dJ4_toString_0e30d_8 rfl (by decide) (by decide) hw1

abbrev rJ1_equals_b5fdf : Room := { frames := 0, cells := 0, slots := 0, locals := 0 }
set_option maxHeartbeats 4000000 in
set_option maxRecDepth 100000 in
theorem mJ1_equals_b5fdf (l : Launch) (G : gG) (B0 : Nat) (a1 a2 n_ : Nat) (f g : Nat → Int32) (F : va_W) (hn : n_ ≤ 1000) (he : ∀ j, j < n_ → f j = g j) : Met l yJ1_equals_b5fdf (Cond.code yJ1_equals_b5fdf cJ1_equals_b5fdf 3 (some .boolean) :: WG) rJ1_equals_b5fdf (va_Pc [.ref (a1), .ref (a2)] (PR G B0 (((a1, .inl (G.2.2.2.1, n_, .inl f)) :: (a2, .inl (G.2.2.2.1, n_, .inl g)) :: F)))) (va_Qi (fun (r : Int32) (_ : Unit) => r = nI 1) (fun (_ : Unit) (t_ : State) => va_P G.1 vwCl (((a1, .inl (G.2.2.2.1, n_, .inl f)) :: (a2, .inl (G.2.2.2.1, n_, .inl g)) :: F)) t_.heap ∧ va_D (fun q => B0 ≤ q) (((a1, .inl (G.2.2.2.1, n_, .inl f)) :: (a2, .inl (G.2.2.2.1, n_, .inl g)) :: F))) (fun q => B0 ≤ q)) rJ1_equals_b5fdf.cells rJ1_equals_b5fdf.slots (fun q => B0 ≤ q) := by
  refine met_of RJ1 [(0, .ref (a1)), (1, .ref (a2))] rfl (by decide) (Nat.le_of_ble_eq_true rfl) rfl ?_
  intro p e s m args below meth c C hr hnm
  refine yq ?_
  intro QQ hQ
  refine yy_aload_n C 0 dJ1_equals_b5fdf_0 (pc' := 1) rfl rfl rfl ?_
  refine yy_alenB C 0 dJ1_equals_b5fdf_1 (pc' := 2) rfl rfl ?_
  refine yy_aload_n C 1 dJ1_equals_b5fdf_2 (pc' := 3) rfl rfl rfl ?_
  refine yy_alenB C 1 dJ1_equals_b5fdf_3 (pc' := 4) rfl rfl ?_
  refine yn_icmp_ne C (by omega) (by omega) dJ1_equals_b5fdf_4 (pc' := 7) rfl (tgt := 34) (by decide) (fun c_4 => ?_) (fun c_4 => ?_)
  · skip
    exact absurd rfl c_4
  · skip
    refine yy_iconst C (v := (nI 0)) dJ1_equals_b5fdf_7 (pc' := 8) rfl (by decide) ?_
    refine yy_istore_n C (L' := [(2, .int (nI 0)), (0, .ref (a1)), (1, .ref (a2))]) dJ1_equals_b5fdf_8 (pc' := 9) rfl rfl (by decide) rfl ?_
    have lp_9 : ∀ (f_ : Nat) (i : Nat), (hi : i ≤ n_) → n_ - i < f_ → YY p l e rJ1_equals_b5fdf s m args below meth c G B0 3 QQ 9 [(2, .int (nI i)), (0, .ref (a1)), (1, .ref (a2))] [] (((a1, .inl (G.2.2.2.1, n_, .inl f)) :: (a2, .inl (G.2.2.2.1, n_, .inl g)) :: F)) 0 0 := by
      intro f_
      induction f_ with
      | zero => intro i hi hf_; exact absurd hf_ (Nat.not_lt_zero _)
      | succ f_ ih =>
        intro i hi hf_
        refine yy_iload_n C 0 dJ1_equals_b5fdf_9 (pc' := 10) rfl rfl rfl ?_
        refine yy_aload_n C 1 dJ1_equals_b5fdf_10 (pc' := 11) rfl rfl rfl ?_
        refine yy_alenB C 0 dJ1_equals_b5fdf_11 (pc' := 12) rfl rfl ?_
        refine yn_icmp_ge C (by omega) (by omega) dJ1_equals_b5fdf_12 (pc' := 15) rfl (tgt := 32) (by decide) (fun c_12 => ?_) (fun c_12 => ?_)
        · skip
          refine yy_iconst C (v := (nI 1)) dJ1_equals_b5fdf_32 (pc' := 33) rfl (by decide) ?_
          subst hQ
          exact ye_i C hr rfl () dJ1_equals_b5fdf_33 rfl (by decide) (by decide) rfl
        · skip
          refine yy_aload_n C 1 dJ1_equals_b5fdf_15 (pc' := 16) rfl rfl rfl ?_
          refine yy_iload_n C 0 dJ1_equals_b5fdf_16 (pc' := 17) rfl rfl rfl ?_
          refine yy_bald C 0 dJ1_equals_b5fdf_17 (pc' := 18) rfl rfl (by omega) (by omega) ?_
          refine yy_aload_n C 2 dJ1_equals_b5fdf_18 (pc' := 19) rfl rfl rfl ?_
          refine yy_iload_n C 0 dJ1_equals_b5fdf_19 (pc' := 20) rfl rfl rfl ?_
          refine yy_bald C 1 dJ1_equals_b5fdf_20 (pc' := 21) rfl rfl (by omega) (by omega) ?_
          refine yy_icmp_eq C dJ1_equals_b5fdf_21 (pc' := 24) rfl (tgt := 26) (by decide) (fun c_21 => ?_) (fun c_21 => ?_)
          · skip
            refine yy_iinc C (v := (nI (i + 1))) (L' := [(2, .int (nI (i + 1))), (0, .ref (a1)), (1, .ref (a2))]) 0 dJ1_equals_b5fdf_26 (pc' := 29) rfl rfl (nI_add i 1) (by decide) rfl ?_
            refine yy_goto C (tgt := 9) dJ1_equals_b5fdf_29 (by decide) ?_
            refine yy_loc [0, 1, 2] rfl ?_
            exact ih (i + 1) (by omega) (by omega)
          · skip
            exact absurd (he i (by omega)) c_21
    refine yy_loc (L' := [(2, .int (nI 0)), (0, .ref (a1)), (1, .ref (a2))]) [0, 1, 2] rfl ?_
    exact lp_9 (n_ + 1) 0 (Nat.zero_le _) (by omega)

abbrev rJ0_equals_9ea2d : Room := { frames := 1, cells := 0, slots := 0, locals := 22 }
set_option maxHeartbeats 4000000 in
set_option maxRecDepth 100000 in
theorem mJ0_equals_9ea2d (l : Launch) (G : gG) (B0 : Nat) (s1 v1 s2 v2 n_ : Nat) (f g : Nat → Int32) (F : va_W) (hn : n_ ≤ 1000) (he : ∀ j, j < n_ → f j = g j) : Met l yJ0_equals_9ea2d (Cond.code yJ0_equals_9ea2d cJ0_equals_9ea2d 3 (some .boolean) :: WG) rJ0_equals_9ea2d (va_Pc [.ref (s1), .ref (s2)] (PR G B0 (((s1, .inr (0, [.ref (v1), .int (nI 0), .int (nI 0), .int (nI 0)])) :: (v1, .inl (G.2.2.2.1, n_, .inl f)) :: (s2, .inr (0, [.ref (v2), .int (nI 0), .int (nI 0), .int (nI 0)])) :: (v2, .inl (G.2.2.2.1, n_, .inl g)) :: F)))) (va_Qi (fun (r : Int32) (_ : Unit) => r = nI 1) (fun (_ : Unit) (t_ : State) => va_P G.1 vwCl (((s1, .inr (0, [.ref (v1), .int (nI 0), .int (nI 0), .int (nI 0)])) :: (v1, .inl (G.2.2.2.1, n_, .inl f)) :: (s2, .inr (0, [.ref (v2), .int (nI 0), .int (nI 0), .int (nI 0)])) :: (v2, .inl (G.2.2.2.1, n_, .inl g)) :: F)) t_.heap ∧ va_D (fun q => B0 ≤ q) (((s1, .inr (0, [.ref (v1), .int (nI 0), .int (nI 0), .int (nI 0)])) :: (v1, .inl (G.2.2.2.1, n_, .inl f)) :: (s2, .inr (0, [.ref (v2), .int (nI 0), .int (nI 0), .int (nI 0)])) :: (v2, .inl (G.2.2.2.1, n_, .inl g)) :: F))) (fun q => B0 ≤ q)) rJ0_equals_9ea2d.cells rJ0_equals_9ea2d.slots (fun q => B0 ≤ q) := by
  refine met_of RJ0 [(0, .ref (s1)), (1, .ref (s2))] rfl (by decide) (Nat.le_of_ble_eq_true rfl) rfl ?_
  intro p e s m args below meth c C hr hnm
  refine yq ?_
  intro QQ hQ
  refine yy_aload_n C 0 dJ0_equals_9ea2d_0 (pc' := 1) rfl rfl rfl ?_
  refine yy_aload_n C 1 dJ0_equals_9ea2d_1 (pc' := 2) rfl rfl rfl ?_
  refine yy_acmpne C dJ0_equals_9ea2d_2 (pc' := 5) rfl (tgt := 7) (by decide) (fun c_2 => ?_) (fun c_2 => ?_)
  · skip
    refine yy_aload_n C 1 dJ0_equals_9ea2d_7 (pc' := 8) rfl rfl rfl ?_
    refine yy_inst C 2 rfl rfl cl_J0_10 dJ0_equals_9ea2d_8 (pc' := 11) rfl ?_
    refine yy_if_eq C dJ0_equals_9ea2d_11 (pc' := 14) rfl (tgt := 54) (by decide) (fun c_11 => ?_) (fun c_11 => ?_)
    · skip
      exact absurd c_11 (by decide)
    · skip
      refine yy_aload_n C 1 dJ0_equals_9ea2d_14 (pc' := 15) rfl rfl rfl ?_
      refine yy_chk C 2 rfl rfl cl_J0_10 dJ0_equals_9ea2d_15 (pc' := 18) rfl ?_
      refine yy_astore_n C (L' := [(2, .ref (s2)), (0, .ref (s1)), (1, .ref (s2))]) dJ0_equals_9ea2d_18 (pc' := 19) rfl rfl (by decide) rfl ?_
      refine yy_gets C (v := .int (nI 1)) (cSV C).1 sk_J0_38 rfl dJ0_equals_9ea2d_19 (pc' := 22) rfl ?_
      refine yy_if_eq C dJ0_equals_9ea2d_22 (pc' := 25) rfl (tgt := 36) (by decide) (fun c_22 => ?_) (fun c_22 => ?_)
      · skip
        exact absurd c_22 (by decide)
      · skip
        refine yy_aload_n C 1 dJ0_equals_9ea2d_25 (pc' := 26) rfl rfl rfl ?_
        refine yy_get C (v := .int (nI 0)) fk_J0_15 0 dJ0_equals_9ea2d_26 (pc' := 29) rfl rfl rfl ?_
        refine yy_aload_n C 0 dJ0_equals_9ea2d_29 (pc' := 30) rfl rfl rfl ?_
        refine yy_get C (v := .int (nI 0)) fk_J0_15 2 dJ0_equals_9ea2d_30 (pc' := 33) rfl rfl rfl ?_
        refine yn_icmp_ne C (by decide) (by decide) dJ0_equals_9ea2d_33 (pc' := 36) rfl (tgt := 54) (by decide) (fun c_33 => ?_) (fun c_33 => ?_)
        · skip
          exact absurd rfl c_33
        · skip
          refine yy_aload_n C 1 dJ0_equals_9ea2d_36 (pc' := 37) rfl rfl rfl ?_
          refine yy_get C (v := .ref (v1)) fk_J0_9 0 dJ0_equals_9ea2d_37 (pc' := 40) rfl rfl rfl ?_
          refine yy_aload_n C 0 dJ0_equals_9ea2d_40 (pc' := 41) rfl rfl rfl ?_
          refine yy_get C (v := .ref (v2)) fk_J0_9 2 dJ0_equals_9ea2d_41 (pc' := 44) rfl rfl rfl ?_
          refine yy_perm (w' := ((v1, .inl (G.2.2.2.1, n_, .inl f)) :: (v2, .inl (G.2.2.2.1, n_, .inl g)) :: (s1, .inr (0, [.ref (v1), .int (nI 0), .int (nI 0), .int (nI 0)])) :: (s2, .inr (0, [.ref (v2), .int (nI 0), .int (nI 0), .int (nI 0)])) :: F)) (pm_1_3_0_2 _ _ _ _ _) ?_
          refine yc_i (yr_S C (n := 2) (As := [.ref (v1), .ref (v2)]) (rest := []) lk_J0_541 cd_J1_equals_b5fdf st_J1_equals_b5fdf (mJ1_equals_b5fdf l G B0 v1 v2 n_ f g ((s1, .inr (0, [.ref (v1), .int (nI 0), .int (nI 0), .int (nI 0)])) :: (s2, .inr (0, [.ref (v2), .int (nI 0), .int (nI 0), .int (nI 0)])) :: F) hn he) ⟨by decide, by decide⟩ ⟨by decide, by decide⟩ rfl rfl (Nat.le_of_ble_eq_true rfl) dJ0_equals_9ea2d_44) (pc' := 47) rfl (fun r1 _ hw1 => ?_)
          subst hw1
          refine yy_if_eq C dJ0_equals_9ea2d_47 (pc' := 50) rfl (tgt := 54) (by decide) (fun c_47 => ?_) (fun c_47 => ?_)
          · skip
            exact absurd c_47 (by decide)
          · skip
            refine yy_iconst C (v := (nI 1)) dJ0_equals_9ea2d_50 (pc' := 51) rfl (by decide) ?_
            refine yy_goto C (tgt := 55) dJ0_equals_9ea2d_51 (by decide) ?_
            refine yy_perm (w' := ((s1, .inr (0, [.ref (v1), .int (nI 0), .int (nI 0), .int (nI 0)])) :: (v1, .inl (G.2.2.2.1, n_, .inl f)) :: (s2, .inr (0, [.ref (v2), .int (nI 0), .int (nI 0), .int (nI 0)])) :: (v2, .inl (G.2.2.2.1, n_, .inl g)) :: F)) (pm_2_0_3_1 _ _ _ _ _) ?_
            subst hQ
            exact ye_i C hr rfl () dJ0_equals_9ea2d_55 rfl (by decide) (by decide) rfl
  · skip
    refine yy_iconst C (v := (nI 1)) dJ0_equals_9ea2d_5 (pc' := 6) rfl (by decide) ?_
    subst hQ
    exact ye_i C hr rfl () dJ0_equals_9ea2d_6 rfl (by decide) (by decide) rfl
