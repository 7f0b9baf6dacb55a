theorem perm_at2 {α : Type} {x y : List α} (n : Nat) (is : List Nat) (hn : x.length = n) (hp : is.isPerm (List.range n) = true) (hy : is.filterMap (fun i => x[i]?) = y) : x.Perm y := perm_at is (by rw [hn]; exact hp) hy
def S0 : SA := (fun k => if k = 8 then 5 else 0, fun _ _ => 0, fun _ _ => 0)
theorem def_X0 : ∀ j, j < 3 → defaultValue (tyX0 j) = vp_V [.null, .null, .int (nI 0)] j := by
  intro j hj
  iterate 3 (rcases j with _ | j; · rfl)
  omega

theorem def_X1 : ∀ j, j < 6 → defaultValue (tyX1 j) = vp_V [.null, .null, .null, .null, .int (nI 0), .int (nI 0)] j := by
  intro j hj
  iterate 6 (rcases j with _ | j; · rfl)
  omega

theorem def_X2 : ∀ j, j < 3 → defaultValue (tyX2 j) = vp_V [.null, .null, .int (nI 0)] j := by
  intro j hj
  iterate 3 (rcases j with _ | j; · rfl)
  omega

theorem def_X3 : ∀ j, j < 5 → defaultValue (tyX3 j) = vp_V [.null, .null, .null, .null, .int (nI 0)] j := by
  intro j hj
  iterate 5 (rcases j with _ | j; · rfl)
  omega

theorem def_X4 : ∀ j, j < 4 → defaultValue (tyX4 j) = vp_V [.null, .null, .null, .int (nI 0)] j := by
  intro j hj
  iterate 4 (rcases j with _ | j; · rfl)
  omega

theorem def_X5 : ∀ j, j < 5 → defaultValue (tyX5 j) = vp_V [.null, .null, .null, .null, .int (nI 0)] j := by
  intro j hj
  iterate 5 (rcases j with _ | j; · rfl)
  omega

theorem def_X6 : ∀ j, j < 11 → defaultValue (tyX6 j) = vp_V [.null, .null, .null, .null, .null, .null, .null, .null, .int (nI 0), .int (nI 0), .long (lN 0)] j := by
  intro j hj
  iterate 11 (rcases j with _ | j; · rfl)
  omega
theorem permA_ {α : Type} (c0_ c1_ c2_ c3_ c4_ c5_ c6_ c7_ c8_ c9_ c10_ c11_ c12_ c13_ c14_ c15_ c16_ c17_ c18_ c19_ c20_ c21_ c22_ c23_ c24_ c25_ c26_ c27_ : α) : List.Perm [c0_, c1_, c2_, c3_, c4_, c5_, c6_, c7_, c8_, c9_, c10_, c11_, c12_, c13_, c14_, c15_, c16_, c17_, c18_, c19_, c20_, c21_, c22_, c23_, c24_, c25_, c26_, c27_] [c27_, c26_, c21_, c17_, c12_, c9_, c6_, c1_, c0_, c25_, c24_, c23_, c22_, c20_, c19_, c18_, c16_, c15_, c14_, c13_, c11_, c10_, c8_, c7_, c5_, c4_, c3_, c2_] := perm_at2 28 [27, 26, 21, 17, 12, 9, 6, 1, 0, 25, 24, 23, 22, 20, 19, 18, 16, 15, 14, 13, 11, 10, 8, 7, 5, 4, 3, 2] rfl (by decide +kernel) rfl
abbrev rX0_init : Room := { frames := 1, cells := 2, slots := 20, locals := 14 }
set_option maxHeartbeats 4000000 in
set_option maxRecDepth 100000 in
theorem mX0_init (l : Launch) (G : gG) (B0 : Nat) (o : Nat) (w : va_W) : Met l yX0_init (Cond.code yX0_init cX0_init 1 none :: WG) rX0_init (va_Pc [.ref o] (PR G B0 ((o, .inr (3, [.null, .null, .int (nI 0)])) :: w))) (va_Qv (fun (u : Nat → Nat) => True) (fun (u : Nat → Nat) (t_ : State) => va_P G.1 vwCl (((u 1, .inl (G.2.2.1, 10, .inr (.inl (fun _ => 0)))) :: (u 0, .inl (G.2.2.1, 10, .inr (.inl (fun _ => 0)))) :: (o, .inr (3, [.ref (u 0), .ref (u 1), .int (nI 0)])) :: w)) t_.heap ∧ va_D (fun q => B0 ≤ q) (((u 1, .inl (G.2.2.1, 10, .inr (.inl (fun _ => 0)))) :: (u 0, .inl (G.2.2.1, 10, .inr (.inl (fun _ => 0)))) :: (o, .inr (3, [.ref (u 0), .ref (u 1), .int (nI 0)])) :: w))) (fun q => B0 ≤ q)) rX0_init.cells rX0_init.slots (fun q => B0 ≤ q) := by
  refine met_of RX0 [(0, .ref (o))] rfl (by decide) (Nat.le_of_ble_eq_true rfl) rfl ?_
  intro p e s m args below meth c C hr hnm
  refine yq ?_
  intro QQ hQ
  refine yy_aload_n C 0 dX0_init_0 (pc' := 1) rfl rfl rfl ?_
  refine yy_objInit C ol_X0 im_obj cd_obj dX0_init_1 (pc' := 4) rfl (by decide) (by decide) ?_
  refine yy_aload_n C 0 dX0_init_4 (pc' := 5) rfl rfl rfl ?_
  refine yy_bipush C (v := (nI 10)) dX0_init_5 (pc' := 7) rfl (by decide) ?_
  refine yy_newaJ C (N := 10) ac_long dX0_init_7 (pc' := 9) rfl (by decide) (by decide) (Nat.le_of_ble_eq_true rfl) (Nat.le_of_ble_eq_true rfl) (fun q1 => ?_)
  refine yy_putF C (w' := ((q1, .inl (G.2.2.1, 10, .inr (.inl (fun _ => 0)))) :: (o, .inr (3, [.ref (q1), .null, .int (nI 0)])) :: w)) fk_X0_9 fpX0 rfl hnm rfl 1 dX0_init_9 (pc' := 12) rfl rfl rfl rfl (Nat.le_of_ble_eq_true rfl) rfl ?_
  refine yy_aload_n C 0 dX0_init_12 (pc' := 13) rfl rfl rfl ?_
  refine yy_bipush C (v := (nI 10)) dX0_init_13 (pc' := 15) rfl (by decide) ?_
  refine yy_newaJ C (N := 10) ac_long dX0_init_15 (pc' := 17) rfl (by decide) (by decide) (Nat.le_of_ble_eq_true rfl) (Nat.le_of_ble_eq_true rfl) (fun q2 => ?_)
  refine yy_putF C (w' := ((q2, .inl (G.2.2.1, 10, .inr (.inl (fun _ => 0)))) :: (q1, .inl (G.2.2.1, 10, .inr (.inl (fun _ => 0)))) :: (o, .inr (3, [.ref (q1), .ref (q2), .int (nI 0)])) :: w)) fk_X0_15 fpX0 rfl hnm rfl 2 dX0_init_17 (pc' := 20) rfl rfl rfl rfl (Nat.le_of_ble_eq_true rfl) rfl ?_
  subst hQ
  exact ye_v C hr (fun i_ => ([q1, q2] : List Nat).getD i_ 0) dX0_init_20 rfl (by decide) (by decide) trivial

abbrev rX1_init : Room := { frames := 1, cells := 4, slots := 128, locals := 14 }
set_option maxHeartbeats 4000000 in
set_option maxRecDepth 100000 in
theorem mX1_init (l : Launch) (G : gG) (B0 : Nat) (o : Nat) (w : va_W) : Met l yX1_init (Cond.code yX1_init cX1_init 1 none :: WG) rX1_init (va_Pc [.ref o] (PR G B0 ((o, .inr (4, [.null, .null, .null, .null, .int (nI 0), .int (nI 0)])) :: w))) (va_Qv (fun (u : Nat → Nat) => True) (fun (u : Nat → Nat) (t_ : State) => va_P G.1 vwCl (((u 3, .inl (G.2.1, 40, .inl (fun _ => 0))) :: (u 2, .inl (G.2.1, 40, .inl (fun _ => 0))) :: (u 1, .inl (G.2.1, 40, .inl (fun _ => 0))) :: (u 0, .inl (G.2.1, 8, .inl (fun _ => 0))) :: (o, .inr (4, [.ref (u 0), .ref (u 1), .ref (u 2), .ref (u 3), .int (nI 0), .int (nI 0)])) :: w)) t_.heap ∧ va_D (fun q => B0 ≤ q) (((u 3, .inl (G.2.1, 40, .inl (fun _ => 0))) :: (u 2, .inl (G.2.1, 40, .inl (fun _ => 0))) :: (u 1, .inl (G.2.1, 40, .inl (fun _ => 0))) :: (u 0, .inl (G.2.1, 8, .inl (fun _ => 0))) :: (o, .inr (4, [.ref (u 0), .ref (u 1), .ref (u 2), .ref (u 3), .int (nI 0), .int (nI 0)])) :: w))) (fun q => B0 ≤ q)) rX1_init.cells rX1_init.slots (fun q => B0 ≤ q) := by
  refine met_of RX1 [(0, .ref (o))] rfl (by decide) (Nat.le_of_ble_eq_true rfl) rfl ?_
  intro p e s m args below meth c C hr hnm
  refine yq ?_
  intro QQ hQ
  refine yy_aload_n C 0 dX1_init_0 (pc' := 1) rfl rfl rfl ?_
  refine yy_objInit C ol_X1 im_obj cd_obj dX1_init_1 (pc' := 4) rfl (by decide) (by decide) ?_
  refine yy_aload_n C 0 dX1_init_4 (pc' := 5) rfl rfl rfl ?_
  refine yy_bipush C (v := (nI 8)) dX1_init_5 (pc' := 7) rfl (by decide) ?_
  refine yy_newaI C (N := 8) ac_int dX1_init_7 (pc' := 9) rfl (by decide) (by decide) (Nat.le_of_ble_eq_true rfl) (Nat.le_of_ble_eq_true rfl) (fun q1 => ?_)
  refine yy_putF C (w' := ((q1, .inl (G.2.1, 8, .inl (fun _ => 0))) :: (o, .inr (4, [.ref (q1), .null, .null, .null, .int (nI 0), .int (nI 0)])) :: w)) fk_X1_9 fpX1 rfl hnm rfl 1 dX1_init_9 (pc' := 12) rfl rfl rfl rfl (Nat.le_of_ble_eq_true rfl) rfl ?_
  refine yy_aload_n C 0 dX1_init_12 (pc' := 13) rfl rfl rfl ?_
  refine yy_bipush C (v := (nI 40)) dX1_init_13 (pc' := 15) rfl (by decide) ?_
  refine yy_newaI C (N := 40) ac_int dX1_init_15 (pc' := 17) rfl (by decide) (by decide) (Nat.le_of_ble_eq_true rfl) (Nat.le_of_ble_eq_true rfl) (fun q2 => ?_)
  refine yy_putF C (w' := ((q2, .inl (G.2.1, 40, .inl (fun _ => 0))) :: (q1, .inl (G.2.1, 8, .inl (fun _ => 0))) :: (o, .inr (4, [.ref (q1), .ref (q2), .null, .null, .int (nI 0), .int (nI 0)])) :: w)) fk_X1_15 fpX1 rfl hnm rfl 2 dX1_init_17 (pc' := 20) rfl rfl rfl rfl (Nat.le_of_ble_eq_true rfl) rfl ?_
  refine yy_aload_n C 0 dX1_init_20 (pc' := 21) rfl rfl rfl ?_
  refine yy_bipush C (v := (nI 40)) dX1_init_21 (pc' := 23) rfl (by decide) ?_
  refine yy_newaI C (N := 40) ac_int dX1_init_23 (pc' := 25) rfl (by decide) (by decide) (Nat.le_of_ble_eq_true rfl) (Nat.le_of_ble_eq_true rfl) (fun q3 => ?_)
  refine yy_putF C (w' := ((q3, .inl (G.2.1, 40, .inl (fun _ => 0))) :: (q2, .inl (G.2.1, 40, .inl (fun _ => 0))) :: (q1, .inl (G.2.1, 8, .inl (fun _ => 0))) :: (o, .inr (4, [.ref (q1), .ref (q2), .ref (q3), .null, .int (nI 0), .int (nI 0)])) :: w)) fk_X1_18 fpX1 rfl hnm rfl 3 dX1_init_25 (pc' := 28) rfl rfl rfl rfl (Nat.le_of_ble_eq_true rfl) rfl ?_
  refine yy_aload_n C 0 dX1_init_28 (pc' := 29) rfl rfl rfl ?_
  refine yy_bipush C (v := (nI 40)) dX1_init_29 (pc' := 31) rfl (by decide) ?_
  refine yy_newaI C (N := 40) ac_int dX1_init_31 (pc' := 33) rfl (by decide) (by decide) (Nat.le_of_ble_eq_true rfl) (Nat.le_of_ble_eq_true rfl) (fun q4 => ?_)
  refine yy_putF C (w' := ((q4, .inl (G.2.1, 40, .inl (fun _ => 0))) :: (q3, .inl (G.2.1, 40, .inl (fun _ => 0))) :: (q2, .inl (G.2.1, 40, .inl (fun _ => 0))) :: (q1, .inl (G.2.1, 8, .inl (fun _ => 0))) :: (o, .inr (4, [.ref (q1), .ref (q2), .ref (q3), .ref (q4), .int (nI 0), .int (nI 0)])) :: w)) fk_X1_21 fpX1 rfl hnm rfl 4 dX1_init_33 (pc' := 36) rfl rfl rfl rfl (Nat.le_of_ble_eq_true rfl) rfl ?_
  subst hQ
  exact ye_v C hr (fun i_ => ([q1, q2, q3, q4] : List Nat).getD i_ 0) dX1_init_36 rfl (by decide) (by decide) trivial

abbrev rX2_init : Room := { frames := 1, cells := 2, slots := 400, locals := 14 }
set_option maxHeartbeats 4000000 in
set_option maxRecDepth 100000 in
theorem mX2_init (l : Launch) (G : gG) (B0 : Nat) (o : Nat) (w : va_W) : Met l yX2_init (Cond.code yX2_init cX2_init 1 none :: WG) rX2_init (va_Pc [.ref o] (PR G B0 ((o, .inr (5, [.null, .null, .int (nI 0)])) :: w))) (va_Qv (fun (u : Nat → Nat) => True) (fun (u : Nat → Nat) (t_ : State) => va_P G.1 vwCl (((u 1, .inl (G.2.1, 200, .inl (fun _ => 0))) :: (u 0, .inl (G.2.1, 200, .inl (fun _ => 0))) :: (o, .inr (5, [.ref (u 0), .ref (u 1), .int (nI 0)])) :: w)) t_.heap ∧ va_D (fun q => B0 ≤ q) (((u 1, .inl (G.2.1, 200, .inl (fun _ => 0))) :: (u 0, .inl (G.2.1, 200, .inl (fun _ => 0))) :: (o, .inr (5, [.ref (u 0), .ref (u 1), .int (nI 0)])) :: w))) (fun q => B0 ≤ q)) rX2_init.cells rX2_init.slots (fun q => B0 ≤ q) := by
  refine met_of RX2 [(0, .ref (o))] rfl (by decide) (Nat.le_of_ble_eq_true rfl) rfl ?_
  intro p e s m args below meth c C hr hnm
  refine yq ?_
  intro QQ hQ
  refine yy_aload_n C 0 dX2_init_0 (pc' := 1) rfl rfl rfl ?_
  refine yy_objInit C ol_X2 im_obj cd_obj dX2_init_1 (pc' := 4) rfl (by decide) (by decide) ?_
  refine yy_aload_n C 0 dX2_init_4 (pc' := 5) rfl rfl rfl ?_
  refine yy_sipush C (v := (nI 200)) dX2_init_5 (pc' := 8) rfl (by decide) ?_
  refine yy_newaI C (N := 200) ac_int dX2_init_8 (pc' := 10) rfl (by decide) (by decide) (Nat.le_of_ble_eq_true rfl) (Nat.le_of_ble_eq_true rfl) (fun q1 => ?_)
  refine yy_putF C (w' := ((q1, .inl (G.2.1, 200, .inl (fun _ => 0))) :: (o, .inr (5, [.ref (q1), .null, .int (nI 0)])) :: w)) fk_X2_9 fpX2 rfl hnm rfl 1 dX2_init_10 (pc' := 13) rfl rfl rfl rfl (Nat.le_of_ble_eq_true rfl) rfl ?_
  refine yy_aload_n C 0 dX2_init_13 (pc' := 14) rfl rfl rfl ?_
  refine yy_sipush C (v := (nI 200)) dX2_init_14 (pc' := 17) rfl (by decide) ?_
  refine yy_newaI C (N := 200) ac_int dX2_init_17 (pc' := 19) rfl (by decide) (by decide) (Nat.le_of_ble_eq_true rfl) (Nat.le_of_ble_eq_true rfl) (fun q2 => ?_)
  refine yy_putF C (w' := ((q2, .inl (G.2.1, 200, .inl (fun _ => 0))) :: (q1, .inl (G.2.1, 200, .inl (fun _ => 0))) :: (o, .inr (5, [.ref (q1), .ref (q2), .int (nI 0)])) :: w)) fk_X2_15 fpX2 rfl hnm rfl 2 dX2_init_19 (pc' := 22) rfl rfl rfl rfl (Nat.le_of_ble_eq_true rfl) rfl ?_
  subst hQ
  exact ye_v C hr (fun i_ => ([q1, q2] : List Nat).getD i_ 0) dX2_init_22 rfl (by decide) (by decide) trivial

abbrev rX3_init : Room := { frames := 1, cells := 4, slots := 80, locals := 14 }
set_option maxHeartbeats 4000000 in
set_option maxRecDepth 100000 in
theorem mX3_init (l : Launch) (G : gG) (B0 : Nat) (o : Nat) (w : va_W) : Met l yX3_init (Cond.code yX3_init cX3_init 1 none :: WG) rX3_init (va_Pc [.ref o] (PR G B0 ((o, .inr (6, [.null, .null, .null, .null, .int (nI 0)])) :: w))) (va_Qv (fun (u : Nat → Nat) => True) (fun (u : Nat → Nat) (t_ : State) => va_P G.1 vwCl (((u 3, .inl (G.2.1, 20, .inl (fun _ => 0))) :: (u 2, .inl (G.2.2.2.2, 20, .inl (fun _ => 0))) :: (u 1, .inl (G.2.1, 20, .inl (fun _ => 0))) :: (u 0, .inl (G.2.1, 20, .inl (fun _ => 0))) :: (o, .inr (6, [.ref (u 0), .ref (u 1), .ref (u 2), .ref (u 3), .int (nI 0)])) :: w)) t_.heap ∧ va_D (fun q => B0 ≤ q) (((u 3, .inl (G.2.1, 20, .inl (fun _ => 0))) :: (u 2, .inl (G.2.2.2.2, 20, .inl (fun _ => 0))) :: (u 1, .inl (G.2.1, 20, .inl (fun _ => 0))) :: (u 0, .inl (G.2.1, 20, .inl (fun _ => 0))) :: (o, .inr (6, [.ref (u 0), .ref (u 1), .ref (u 2), .ref (u 3), .int (nI 0)])) :: w))) (fun q => B0 ≤ q)) rX3_init.cells rX3_init.slots (fun q => B0 ≤ q) := by
  refine met_of RX3 [(0, .ref (o))] rfl (by decide) (Nat.le_of_ble_eq_true rfl) rfl ?_
  intro p e s m args below meth c C hr hnm
  refine yq ?_
  intro QQ hQ
  refine yy_aload_n C 0 dX3_init_0 (pc' := 1) rfl rfl rfl ?_
  refine yy_objInit C ol_X3 im_obj cd_obj dX3_init_1 (pc' := 4) rfl (by decide) (by decide) ?_
  refine yy_aload_n C 0 dX3_init_4 (pc' := 5) rfl rfl rfl ?_
  refine yy_bipush C (v := (nI 20)) dX3_init_5 (pc' := 7) rfl (by decide) ?_
  refine yy_newaI C (N := 20) ac_int dX3_init_7 (pc' := 9) rfl (by decide) (by decide) (Nat.le_of_ble_eq_true rfl) (Nat.le_of_ble_eq_true rfl) (fun q1 => ?_)
  refine yy_putF C (w' := ((q1, .inl (G.2.1, 20, .inl (fun _ => 0))) :: (o, .inr (6, [.ref (q1), .null, .null, .null, .int (nI 0)])) :: w)) fk_X3_9 fpX3 rfl hnm rfl 1 dX3_init_9 (pc' := 12) rfl rfl rfl rfl (Nat.le_of_ble_eq_true rfl) rfl ?_
  refine yy_aload_n C 0 dX3_init_12 (pc' := 13) rfl rfl rfl ?_
  refine yy_bipush C (v := (nI 20)) dX3_init_13 (pc' := 15) rfl (by decide) ?_
  refine yy_newaI C (N := 20) ac_int dX3_init_15 (pc' := 17) rfl (by decide) (by decide) (Nat.le_of_ble_eq_true rfl) (Nat.le_of_ble_eq_true rfl) (fun q2 => ?_)
  refine yy_putF C (w' := ((q2, .inl (G.2.1, 20, .inl (fun _ => 0))) :: (q1, .inl (G.2.1, 20, .inl (fun _ => 0))) :: (o, .inr (6, [.ref (q1), .ref (q2), .null, .null, .int (nI 0)])) :: w)) fk_X3_15 fpX3 rfl hnm rfl 2 dX3_init_17 (pc' := 20) rfl rfl rfl rfl (Nat.le_of_ble_eq_true rfl) rfl ?_
  refine yy_aload_n C 0 dX3_init_20 (pc' := 21) rfl rfl rfl ?_
  refine yy_bipush C (v := (nI 20)) dX3_init_21 (pc' := 23) rfl (by decide) ?_
  refine yy_newaC C (N := 20) ac_char dX3_init_23 (pc' := 25) rfl (by decide) (by decide) (Nat.le_of_ble_eq_true rfl) (Nat.le_of_ble_eq_true rfl) (fun q3 => ?_)
  refine yy_putF C (w' := ((q3, .inl (G.2.2.2.2, 20, .inl (fun _ => 0))) :: (q2, .inl (G.2.1, 20, .inl (fun _ => 0))) :: (q1, .inl (G.2.1, 20, .inl (fun _ => 0))) :: (o, .inr (6, [.ref (q1), .ref (q2), .ref (q3), .null, .int (nI 0)])) :: w)) fk_X3_18 fpX3 rfl hnm rfl 3 dX3_init_25 (pc' := 28) rfl rfl rfl rfl (Nat.le_of_ble_eq_true rfl) rfl ?_
  refine yy_aload_n C 0 dX3_init_28 (pc' := 29) rfl rfl rfl ?_
  refine yy_bipush C (v := (nI 20)) dX3_init_29 (pc' := 31) rfl (by decide) ?_
  refine yy_newaI C (N := 20) ac_int dX3_init_31 (pc' := 33) rfl (by decide) (by decide) (Nat.le_of_ble_eq_true rfl) (Nat.le_of_ble_eq_true rfl) (fun q4 => ?_)
  refine yy_putF C (w' := ((q4, .inl (G.2.1, 20, .inl (fun _ => 0))) :: (q3, .inl (G.2.2.2.2, 20, .inl (fun _ => 0))) :: (q2, .inl (G.2.1, 20, .inl (fun _ => 0))) :: (q1, .inl (G.2.1, 20, .inl (fun _ => 0))) :: (o, .inr (6, [.ref (q1), .ref (q2), .ref (q3), .ref (q4), .int (nI 0)])) :: w)) fk_X3_22 fpX3 rfl hnm rfl 4 dX3_init_33 (pc' := 36) rfl rfl rfl rfl (Nat.le_of_ble_eq_true rfl) rfl ?_
  subst hQ
  exact ye_v C hr (fun i_ => ([q1, q2, q3, q4] : List Nat).getD i_ 0) dX3_init_36 rfl (by decide) (by decide) trivial

abbrev rX4_init : Room := { frames := 1, cells := 3, slots := 24, locals := 14 }
set_option maxHeartbeats 4000000 in
set_option maxRecDepth 100000 in
theorem mX4_init (l : Launch) (G : gG) (B0 : Nat) (o : Nat) (w : va_W) : Met l yX4_init (Cond.code yX4_init cX4_init 1 none :: WG) rX4_init (va_Pc [.ref o] (PR G B0 ((o, .inr (7, [.null, .null, .null, .int (nI 0)])) :: w))) (va_Qv (fun (u : Nat → Nat) => True) (fun (u : Nat → Nat) (t_ : State) => va_P G.1 vwCl (((u 2, .inl (G.2.1, 8, .inl (fun _ => 0))) :: (u 1, .inl (G.2.1, 8, .inl (fun _ => 0))) :: (u 0, .inl (G.2.1, 8, .inl (fun _ => 0))) :: (o, .inr (7, [.ref (u 0), .ref (u 1), .ref (u 2), .int (nI 0)])) :: w)) t_.heap ∧ va_D (fun q => B0 ≤ q) (((u 2, .inl (G.2.1, 8, .inl (fun _ => 0))) :: (u 1, .inl (G.2.1, 8, .inl (fun _ => 0))) :: (u 0, .inl (G.2.1, 8, .inl (fun _ => 0))) :: (o, .inr (7, [.ref (u 0), .ref (u 1), .ref (u 2), .int (nI 0)])) :: w))) (fun q => B0 ≤ q)) rX4_init.cells rX4_init.slots (fun q => B0 ≤ q) := by
  refine met_of RX4 [(0, .ref (o))] rfl (by decide) (Nat.le_of_ble_eq_true rfl) rfl ?_
  intro p e s m args below meth c C hr hnm
  refine yq ?_
  intro QQ hQ
  refine yy_aload_n C 0 dX4_init_0 (pc' := 1) rfl rfl rfl ?_
  refine yy_objInit C ol_X4 im_obj cd_obj dX4_init_1 (pc' := 4) rfl (by decide) (by decide) ?_
  refine yy_aload_n C 0 dX4_init_4 (pc' := 5) rfl rfl rfl ?_
  refine yy_bipush C (v := (nI 8)) dX4_init_5 (pc' := 7) rfl (by decide) ?_
  refine yy_newaI C (N := 8) ac_int dX4_init_7 (pc' := 9) rfl (by decide) (by decide) (Nat.le_of_ble_eq_true rfl) (Nat.le_of_ble_eq_true rfl) (fun q1 => ?_)
  refine yy_putF C (w' := ((q1, .inl (G.2.1, 8, .inl (fun _ => 0))) :: (o, .inr (7, [.ref (q1), .null, .null, .int (nI 0)])) :: w)) fk_X4_9 fpX4 rfl hnm rfl 1 dX4_init_9 (pc' := 12) rfl rfl rfl rfl (Nat.le_of_ble_eq_true rfl) rfl ?_
  refine yy_aload_n C 0 dX4_init_12 (pc' := 13) rfl rfl rfl ?_
  refine yy_bipush C (v := (nI 8)) dX4_init_13 (pc' := 15) rfl (by decide) ?_
  refine yy_newaI C (N := 8) ac_int dX4_init_15 (pc' := 17) rfl (by decide) (by decide) (Nat.le_of_ble_eq_true rfl) (Nat.le_of_ble_eq_true rfl) (fun q2 => ?_)
  refine yy_putF C (w' := ((q2, .inl (G.2.1, 8, .inl (fun _ => 0))) :: (q1, .inl (G.2.1, 8, .inl (fun _ => 0))) :: (o, .inr (7, [.ref (q1), .ref (q2), .null, .int (nI 0)])) :: w)) fk_X4_15 fpX4 rfl hnm rfl 2 dX4_init_17 (pc' := 20) rfl rfl rfl rfl (Nat.le_of_ble_eq_true rfl) rfl ?_
  refine yy_aload_n C 0 dX4_init_20 (pc' := 21) rfl rfl rfl ?_
  refine yy_bipush C (v := (nI 8)) dX4_init_21 (pc' := 23) rfl (by decide) ?_
  refine yy_newaI C (N := 8) ac_int dX4_init_23 (pc' := 25) rfl (by decide) (by decide) (Nat.le_of_ble_eq_true rfl) (Nat.le_of_ble_eq_true rfl) (fun q3 => ?_)
  refine yy_putF C (w' := ((q3, .inl (G.2.1, 8, .inl (fun _ => 0))) :: (q2, .inl (G.2.1, 8, .inl (fun _ => 0))) :: (q1, .inl (G.2.1, 8, .inl (fun _ => 0))) :: (o, .inr (7, [.ref (q1), .ref (q2), .ref (q3), .int (nI 0)])) :: w)) fk_X4_18 fpX4 rfl hnm rfl 3 dX4_init_25 (pc' := 28) rfl rfl rfl rfl (Nat.le_of_ble_eq_true rfl) rfl ?_
  subst hQ
  exact ye_v C hr (fun i_ => ([q1, q2, q3] : List Nat).getD i_ 0) dX4_init_28 rfl (by decide) (by decide) trivial

abbrev rX5_init : Room := { frames := 1, cells := 4, slots := 48, locals := 14 }
set_option maxHeartbeats 4000000 in
set_option maxRecDepth 100000 in
theorem mX5_init (l : Launch) (G : gG) (B0 : Nat) (o : Nat) (w : va_W) : Met l yX5_init (Cond.code yX5_init cX5_init 1 none :: WG) rX5_init (va_Pc [.ref o] (PR G B0 ((o, .inr (8, [.null, .null, .null, .null, .int (nI 0)])) :: w))) (va_Qv (fun (u : Nat → Nat) => True) (fun (u : Nat → Nat) (t_ : State) => va_P G.1 vwCl (((u 3, .inl (G.2.1, 12, .inl (fun _ => 0))) :: (u 2, .inl (G.2.1, 12, .inl (fun _ => 0))) :: (u 1, .inl (G.2.1, 12, .inl (fun _ => 0))) :: (u 0, .inl (G.2.1, 12, .inl (fun _ => 0))) :: (o, .inr (8, [.ref (u 0), .ref (u 1), .ref (u 2), .ref (u 3), .int (nI 0)])) :: w)) t_.heap ∧ va_D (fun q => B0 ≤ q) (((u 3, .inl (G.2.1, 12, .inl (fun _ => 0))) :: (u 2, .inl (G.2.1, 12, .inl (fun _ => 0))) :: (u 1, .inl (G.2.1, 12, .inl (fun _ => 0))) :: (u 0, .inl (G.2.1, 12, .inl (fun _ => 0))) :: (o, .inr (8, [.ref (u 0), .ref (u 1), .ref (u 2), .ref (u 3), .int (nI 0)])) :: w))) (fun q => B0 ≤ q)) rX5_init.cells rX5_init.slots (fun q => B0 ≤ q) := by
  refine met_of RX5 [(0, .ref (o))] rfl (by decide) (Nat.le_of_ble_eq_true rfl) rfl ?_
  intro p e s m args below meth c C hr hnm
  refine yq ?_
  intro QQ hQ
  refine yy_aload_n C 0 dX5_init_0 (pc' := 1) rfl rfl rfl ?_
  refine yy_objInit C ol_X5 im_obj cd_obj dX5_init_1 (pc' := 4) rfl (by decide) (by decide) ?_
  refine yy_aload_n C 0 dX5_init_4 (pc' := 5) rfl rfl rfl ?_
  refine yy_bipush C (v := (nI 12)) dX5_init_5 (pc' := 7) rfl (by decide) ?_
  refine yy_newaI C (N := 12) ac_int dX5_init_7 (pc' := 9) rfl (by decide) (by decide) (Nat.le_of_ble_eq_true rfl) (Nat.le_of_ble_eq_true rfl) (fun q1 => ?_)
  refine yy_putF C (w' := ((q1, .inl (G.2.1, 12, .inl (fun _ => 0))) :: (o, .inr (8, [.ref (q1), .null, .null, .null, .int (nI 0)])) :: w)) fk_X5_9 fpX5 rfl hnm rfl 1 dX5_init_9 (pc' := 12) rfl rfl rfl rfl (Nat.le_of_ble_eq_true rfl) rfl ?_
  refine yy_aload_n C 0 dX5_init_12 (pc' := 13) rfl rfl rfl ?_
  refine yy_bipush C (v := (nI 12)) dX5_init_13 (pc' := 15) rfl (by decide) ?_
  refine yy_newaI C (N := 12) ac_int dX5_init_15 (pc' := 17) rfl (by decide) (by decide) (Nat.le_of_ble_eq_true rfl) (Nat.le_of_ble_eq_true rfl) (fun q2 => ?_)
  refine yy_putF C (w' := ((q2, .inl (G.2.1, 12, .inl (fun _ => 0))) :: (q1, .inl (G.2.1, 12, .inl (fun _ => 0))) :: (o, .inr (8, [.ref (q1), .ref (q2), .null, .null, .int (nI 0)])) :: w)) fk_X5_15 fpX5 rfl hnm rfl 2 dX5_init_17 (pc' := 20) rfl rfl rfl rfl (Nat.le_of_ble_eq_true rfl) rfl ?_
  refine yy_aload_n C 0 dX5_init_20 (pc' := 21) rfl rfl rfl ?_
  refine yy_bipush C (v := (nI 12)) dX5_init_21 (pc' := 23) rfl (by decide) ?_
  refine yy_newaI C (N := 12) ac_int dX5_init_23 (pc' := 25) rfl (by decide) (by decide) (Nat.le_of_ble_eq_true rfl) (Nat.le_of_ble_eq_true rfl) (fun q3 => ?_)
  refine yy_putF C (w' := ((q3, .inl (G.2.1, 12, .inl (fun _ => 0))) :: (q2, .inl (G.2.1, 12, .inl (fun _ => 0))) :: (q1, .inl (G.2.1, 12, .inl (fun _ => 0))) :: (o, .inr (8, [.ref (q1), .ref (q2), .ref (q3), .null, .int (nI 0)])) :: w)) fk_X5_18 fpX5 rfl hnm rfl 3 dX5_init_25 (pc' := 28) rfl rfl rfl rfl (Nat.le_of_ble_eq_true rfl) rfl ?_
  refine yy_aload_n C 0 dX5_init_28 (pc' := 29) rfl rfl rfl ?_
  refine yy_bipush C (v := (nI 12)) dX5_init_29 (pc' := 31) rfl (by decide) ?_
  refine yy_newaI C (N := 12) ac_int dX5_init_31 (pc' := 33) rfl (by decide) (by decide) (Nat.le_of_ble_eq_true rfl) (Nat.le_of_ble_eq_true rfl) (fun q4 => ?_)
  refine yy_putF C (w' := ((q4, .inl (G.2.1, 12, .inl (fun _ => 0))) :: (q3, .inl (G.2.1, 12, .inl (fun _ => 0))) :: (q2, .inl (G.2.1, 12, .inl (fun _ => 0))) :: (q1, .inl (G.2.1, 12, .inl (fun _ => 0))) :: (o, .inr (8, [.ref (q1), .ref (q2), .ref (q3), .ref (q4), .int (nI 0)])) :: w)) fk_X5_21 fpX5 rfl hnm rfl 4 dX5_init_33 (pc' := 36) rfl rfl rfl rfl (Nat.le_of_ble_eq_true rfl) rfl ?_
  subst hQ
  exact ye_v C hr (fun i_ => ([q1, q2, q3, q4] : List Nat).getD i_ 0) dX5_init_36 rfl (by decide) (by decide) trivial

abbrev rX6_init : Room := { frames := 2, cells := 27, slots := 736, locals := 34 }
set_option maxHeartbeats 4000000 in
set_option maxRecDepth 100000 in
theorem mX6_init (l : Launch) (G : gG) (B0 : Nat) (o : Nat) (w : va_W) : Met l yX6_init (Cond.code yX6_init cX6_init 1 none :: WG) rX6_init (va_Pc [.ref o] (PR G B0 ((o, .inr (9, [.null, .null, .null, .null, .null, .null, .null, .null, .int (nI 0), .int (nI 0), .long (lN 0)])) :: w))) (va_Qv (fun (u : Nat → Nat) => u 0 = o) (fun (u : Nat → Nat) (t_ : State) => va_P G.1 vwCl (wA G u S0 ++ w) t_.heap ∧ va_D (fun q => B0 ≤ q) (wA G u S0 ++ w)) (fun q => B0 ≤ q)) rX6_init.cells rX6_init.slots (fun q => B0 ≤ q) := by
  refine met_of RX6 [(0, .ref (o))] rfl (by decide) (Nat.le_of_ble_eq_true rfl) rfl ?_
  intro p e s m args below meth c C hr hnm
  refine yq ?_
  intro QQ hQ
  refine yy_aload_n C 0 dX6_init_0 (pc' := 1) rfl rfl rfl ?_
  refine yy_objInit C ol_X6 im_obj cd_obj dX6_init_1 (pc' := 4) rfl (by decide) (by decide) ?_
  refine yy_aload_n C 0 dX6_init_4 (pc' := 5) rfl rfl rfl ?_
  refine yy_new C inX1 (ci := 4) rfl fpX1 cl_X6_9 ia_X1 ii_X1 dX6_init_5 (pc' := 8) rfl (fs := [.null, .null, .null, .null, .int (nI 0), .int (nI 0)]) (def_X1) (Nat.le_of_ble_eq_true rfl) (Nat.le_of_ble_eq_true rfl) (fun o1 => ?_)
  refine yy_dup C dX6_init_8 (pc' := 9) rfl rfl ?_
  refine yc_v (yr_IN C (As := []) (rest := [.ref (o1), .ref (o)]) lk_X6_11 cd_X1_init im_X1_init rfl (mX1_init l G B0 o1 ((o, .inr (9, [.null, .null, .null, .null, .null, .null, .null, .null, .int (nI 0), .int (nI 0), .long (lN 0)])) :: w)) ⟨by decide, by decide⟩ ⟨by decide, by decide⟩ rfl rfl (Nat.le_of_ble_eq_true rfl) dX6_init_9) (pc' := 12) rfl (fun u1 _ => ?_)
  refine yy_putF C (w' := ((u1 3, .inl (G.2.1, 40, .inl (fun _ => 0))) :: (u1 2, .inl (G.2.1, 40, .inl (fun _ => 0))) :: (u1 1, .inl (G.2.1, 40, .inl (fun _ => 0))) :: (u1 0, .inl (G.2.1, 8, .inl (fun _ => 0))) :: (o1, .inr (4, [.ref (u1 0), .ref (u1 1), .ref (u1 2), .ref (u1 3), .int (nI 0), .int (nI 0)])) :: (o, .inr (9, [.ref (o1), .null, .null, .null, .null, .null, .null, .null, .int (nI 0), .int (nI 0), .long (lN 0)])) :: w)) fk_X6_12 fpX6 rfl hnm rfl 5 dX6_init_12 (pc' := 15) rfl rfl rfl rfl (Nat.le_of_ble_eq_true rfl) rfl ?_
  refine yy_aload_n C 0 dX6_init_15 (pc' := 16) rfl rfl rfl ?_
  refine yy_new C inX4 (ci := 7) rfl fpX4 cl_X6_16 ia_X4 ii_X4 dX6_init_16 (pc' := 19) rfl (fs := [.null, .null, .null, .int (nI 0)]) (def_X4) (Nat.le_of_ble_eq_true rfl) (Nat.le_of_ble_eq_true rfl) (fun o2 => ?_)
  refine yy_dup C dX6_init_19 (pc' := 20) rfl rfl ?_
  refine yc_v (yr_IN C (As := []) (rest := [.ref (o2), .ref (o)]) lk_X6_18 cd_X4_init im_X4_init rfl (mX4_init l G B0 o2 ((u1 3, .inl (G.2.1, 40, .inl (fun _ => 0))) :: (u1 2, .inl (G.2.1, 40, .inl (fun _ => 0))) :: (u1 1, .inl (G.2.1, 40, .inl (fun _ => 0))) :: (u1 0, .inl (G.2.1, 8, .inl (fun _ => 0))) :: (o1, .inr (4, [.ref (u1 0), .ref (u1 1), .ref (u1 2), .ref (u1 3), .int (nI 0), .int (nI 0)])) :: (o, .inr (9, [.ref (o1), .null, .null, .null, .null, .null, .null, .null, .int (nI 0), .int (nI 0), .long (lN 0)])) :: w)) ⟨by decide, by decide⟩ ⟨by decide, by decide⟩ rfl rfl (Nat.le_of_ble_eq_true rfl) dX6_init_20) (pc' := 23) rfl (fun u2 _ => ?_)
  refine yy_putF C (w' := ((u2 2, .inl (G.2.1, 8, .inl (fun _ => 0))) :: (u2 1, .inl (G.2.1, 8, .inl (fun _ => 0))) :: (u2 0, .inl (G.2.1, 8, .inl (fun _ => 0))) :: (o2, .inr (7, [.ref (u2 0), .ref (u2 1), .ref (u2 2), .int (nI 0)])) :: (u1 3, .inl (G.2.1, 40, .inl (fun _ => 0))) :: (u1 2, .inl (G.2.1, 40, .inl (fun _ => 0))) :: (u1 1, .inl (G.2.1, 40, .inl (fun _ => 0))) :: (u1 0, .inl (G.2.1, 8, .inl (fun _ => 0))) :: (o1, .inr (4, [.ref (u1 0), .ref (u1 1), .ref (u1 2), .ref (u1 3), .int (nI 0), .int (nI 0)])) :: (o, .inr (9, [.ref (o1), .ref (o2), .null, .null, .null, .null, .null, .null, .int (nI 0), .int (nI 0), .long (lN 0)])) :: w)) fk_X6_19 fpX6 rfl hnm rfl 9 dX6_init_23 (pc' := 26) rfl rfl rfl rfl (Nat.le_of_ble_eq_true rfl) rfl ?_
  refine yy_aload_n C 0 dX6_init_26 (pc' := 27) rfl rfl rfl ?_
  refine yy_new C inX5 (ci := 8) rfl fpX5 cl_X6_23 ia_X5 ii_X5 dX6_init_27 (pc' := 30) rfl (fs := [.null, .null, .null, .null, .int (nI 0)]) (def_X5) (Nat.le_of_ble_eq_true rfl) (Nat.le_of_ble_eq_true rfl) (fun o3 => ?_)
  refine yy_dup C dX6_init_30 (pc' := 31) rfl rfl ?_
  refine yc_v (yr_IN C (As := []) (rest := [.ref (o3), .ref (o)]) lk_X6_25 cd_X5_init im_X5_init rfl (mX5_init l G B0 o3 ((u2 2, .inl (G.2.1, 8, .inl (fun _ => 0))) :: (u2 1, .inl (G.2.1, 8, .inl (fun _ => 0))) :: (u2 0, .inl (G.2.1, 8, .inl (fun _ => 0))) :: (o2, .inr (7, [.ref (u2 0), .ref (u2 1), .ref (u2 2), .int (nI 0)])) :: (u1 3, .inl (G.2.1, 40, .inl (fun _ => 0))) :: (u1 2, .inl (G.2.1, 40, .inl (fun _ => 0))) :: (u1 1, .inl (G.2.1, 40, .inl (fun _ => 0))) :: (u1 0, .inl (G.2.1, 8, .inl (fun _ => 0))) :: (o1, .inr (4, [.ref (u1 0), .ref (u1 1), .ref (u1 2), .ref (u1 3), .int (nI 0), .int (nI 0)])) :: (o, .inr (9, [.ref (o1), .ref (o2), .null, .null, .null, .null, .null, .null, .int (nI 0), .int (nI 0), .long (lN 0)])) :: w)) ⟨by decide, by decide⟩ ⟨by decide, by decide⟩ rfl rfl (Nat.le_of_ble_eq_true rfl) dX6_init_31) (pc' := 34) rfl (fun u3 _ => ?_)
  refine yy_putF C (w' := ((u3 3, .inl (G.2.1, 12, .inl (fun _ => 0))) :: (u3 2, .inl (G.2.1, 12, .inl (fun _ => 0))) :: (u3 1, .inl (G.2.1, 12, .inl (fun _ => 0))) :: (u3 0, .inl (G.2.1, 12, .inl (fun _ => 0))) :: (o3, .inr (8, [.ref (u3 0), .ref (u3 1), .ref (u3 2), .ref (u3 3), .int (nI 0)])) :: (u2 2, .inl (G.2.1, 8, .inl (fun _ => 0))) :: (u2 1, .inl (G.2.1, 8, .inl (fun _ => 0))) :: (u2 0, .inl (G.2.1, 8, .inl (fun _ => 0))) :: (o2, .inr (7, [.ref (u2 0), .ref (u2 1), .ref (u2 2), .int (nI 0)])) :: (u1 3, .inl (G.2.1, 40, .inl (fun _ => 0))) :: (u1 2, .inl (G.2.1, 40, .inl (fun _ => 0))) :: (u1 1, .inl (G.2.1, 40, .inl (fun _ => 0))) :: (u1 0, .inl (G.2.1, 8, .inl (fun _ => 0))) :: (o1, .inr (4, [.ref (u1 0), .ref (u1 1), .ref (u1 2), .ref (u1 3), .int (nI 0), .int (nI 0)])) :: (o, .inr (9, [.ref (o1), .ref (o2), .ref (o3), .null, .null, .null, .null, .null, .int (nI 0), .int (nI 0), .long (lN 0)])) :: w)) fk_X6_26 fpX6 rfl hnm rfl 14 dX6_init_34 (pc' := 37) rfl rfl rfl rfl (Nat.le_of_ble_eq_true rfl) rfl ?_
  refine yy_aload_n C 0 dX6_init_37 (pc' := 38) rfl rfl rfl ?_
  refine yy_new C inX0 (ci := 3) rfl fpX0 cl_X6_30 ia_X0 ii_X0 dX6_init_38 (pc' := 41) rfl (fs := [.null, .null, .int (nI 0)]) (def_X0) (Nat.le_of_ble_eq_true rfl) (Nat.le_of_ble_eq_true rfl) (fun o4 => ?_)
  refine yy_dup C dX6_init_41 (pc' := 42) rfl rfl ?_
  refine yc_v (yr_IN C (As := []) (rest := [.ref (o4), .ref (o)]) lk_X6_32 cd_X0_init im_X0_init rfl (mX0_init l G B0 o4 ((u3 3, .inl (G.2.1, 12, .inl (fun _ => 0))) :: (u3 2, .inl (G.2.1, 12, .inl (fun _ => 0))) :: (u3 1, .inl (G.2.1, 12, .inl (fun _ => 0))) :: (u3 0, .inl (G.2.1, 12, .inl (fun _ => 0))) :: (o3, .inr (8, [.ref (u3 0), .ref (u3 1), .ref (u3 2), .ref (u3 3), .int (nI 0)])) :: (u2 2, .inl (G.2.1, 8, .inl (fun _ => 0))) :: (u2 1, .inl (G.2.1, 8, .inl (fun _ => 0))) :: (u2 0, .inl (G.2.1, 8, .inl (fun _ => 0))) :: (o2, .inr (7, [.ref (u2 0), .ref (u2 1), .ref (u2 2), .int (nI 0)])) :: (u1 3, .inl (G.2.1, 40, .inl (fun _ => 0))) :: (u1 2, .inl (G.2.1, 40, .inl (fun _ => 0))) :: (u1 1, .inl (G.2.1, 40, .inl (fun _ => 0))) :: (u1 0, .inl (G.2.1, 8, .inl (fun _ => 0))) :: (o1, .inr (4, [.ref (u1 0), .ref (u1 1), .ref (u1 2), .ref (u1 3), .int (nI 0), .int (nI 0)])) :: (o, .inr (9, [.ref (o1), .ref (o2), .ref (o3), .null, .null, .null, .null, .null, .int (nI 0), .int (nI 0), .long (lN 0)])) :: w)) ⟨by decide, by decide⟩ ⟨by decide, by decide⟩ rfl rfl (Nat.le_of_ble_eq_true rfl) dX6_init_42) (pc' := 45) rfl (fun u4 _ => ?_)
  refine yy_putF C (w' := ((u4 1, .inl (G.2.2.1, 10, .inr (.inl (fun _ => 0)))) :: (u4 0, .inl (G.2.2.1, 10, .inr (.inl (fun _ => 0)))) :: (o4, .inr (3, [.ref (u4 0), .ref (u4 1), .int (nI 0)])) :: (u3 3, .inl (G.2.1, 12, .inl (fun _ => 0))) :: (u3 2, .inl (G.2.1, 12, .inl (fun _ => 0))) :: (u3 1, .inl (G.2.1, 12, .inl (fun _ => 0))) :: (u3 0, .inl (G.2.1, 12, .inl (fun _ => 0))) :: (o3, .inr (8, [.ref (u3 0), .ref (u3 1), .ref (u3 2), .ref (u3 3), .int (nI 0)])) :: (u2 2, .inl (G.2.1, 8, .inl (fun _ => 0))) :: (u2 1, .inl (G.2.1, 8, .inl (fun _ => 0))) :: (u2 0, .inl (G.2.1, 8, .inl (fun _ => 0))) :: (o2, .inr (7, [.ref (u2 0), .ref (u2 1), .ref (u2 2), .int (nI 0)])) :: (u1 3, .inl (G.2.1, 40, .inl (fun _ => 0))) :: (u1 2, .inl (G.2.1, 40, .inl (fun _ => 0))) :: (u1 1, .inl (G.2.1, 40, .inl (fun _ => 0))) :: (u1 0, .inl (G.2.1, 8, .inl (fun _ => 0))) :: (o1, .inr (4, [.ref (u1 0), .ref (u1 1), .ref (u1 2), .ref (u1 3), .int (nI 0), .int (nI 0)])) :: (o, .inr (9, [.ref (o1), .ref (o2), .ref (o3), .ref (o4), .null, .null, .null, .null, .int (nI 0), .int (nI 0), .long (lN 0)])) :: w)) fk_X6_33 fpX6 rfl hnm rfl 17 dX6_init_45 (pc' := 48) rfl rfl rfl rfl (Nat.le_of_ble_eq_true rfl) rfl ?_
  refine yy_aload_n C 0 dX6_init_48 (pc' := 49) rfl rfl rfl ?_
  refine yy_new C inX2 (ci := 5) rfl fpX2 cl_X6_37 ia_X2 ii_X2 dX6_init_49 (pc' := 52) rfl (fs := [.null, .null, .int (nI 0)]) (def_X2) (Nat.le_of_ble_eq_true rfl) (Nat.le_of_ble_eq_true rfl) (fun o5 => ?_)
  refine yy_dup C dX6_init_52 (pc' := 53) rfl rfl ?_
  refine yc_v (yr_IN C (As := []) (rest := [.ref (o5), .ref (o)]) lk_X6_39 cd_X2_init im_X2_init rfl (mX2_init l G B0 o5 ((u4 1, .inl (G.2.2.1, 10, .inr (.inl (fun _ => 0)))) :: (u4 0, .inl (G.2.2.1, 10, .inr (.inl (fun _ => 0)))) :: (o4, .inr (3, [.ref (u4 0), .ref (u4 1), .int (nI 0)])) :: (u3 3, .inl (G.2.1, 12, .inl (fun _ => 0))) :: (u3 2, .inl (G.2.1, 12, .inl (fun _ => 0))) :: (u3 1, .inl (G.2.1, 12, .inl (fun _ => 0))) :: (u3 0, .inl (G.2.1, 12, .inl (fun _ => 0))) :: (o3, .inr (8, [.ref (u3 0), .ref (u3 1), .ref (u3 2), .ref (u3 3), .int (nI 0)])) :: (u2 2, .inl (G.2.1, 8, .inl (fun _ => 0))) :: (u2 1, .inl (G.2.1, 8, .inl (fun _ => 0))) :: (u2 0, .inl (G.2.1, 8, .inl (fun _ => 0))) :: (o2, .inr (7, [.ref (u2 0), .ref (u2 1), .ref (u2 2), .int (nI 0)])) :: (u1 3, .inl (G.2.1, 40, .inl (fun _ => 0))) :: (u1 2, .inl (G.2.1, 40, .inl (fun _ => 0))) :: (u1 1, .inl (G.2.1, 40, .inl (fun _ => 0))) :: (u1 0, .inl (G.2.1, 8, .inl (fun _ => 0))) :: (o1, .inr (4, [.ref (u1 0), .ref (u1 1), .ref (u1 2), .ref (u1 3), .int (nI 0), .int (nI 0)])) :: (o, .inr (9, [.ref (o1), .ref (o2), .ref (o3), .ref (o4), .null, .null, .null, .null, .int (nI 0), .int (nI 0), .long (lN 0)])) :: w)) ⟨by decide, by decide⟩ ⟨by decide, by decide⟩ rfl rfl (Nat.le_of_ble_eq_true rfl) dX6_init_53) (pc' := 56) rfl (fun u5 _ => ?_)
  refine yy_putF C (w' := ((u5 1, .inl (G.2.1, 200, .inl (fun _ => 0))) :: (u5 0, .inl (G.2.1, 200, .inl (fun _ => 0))) :: (o5, .inr (5, [.ref (u5 0), .ref (u5 1), .int (nI 0)])) :: (u4 1, .inl (G.2.2.1, 10, .inr (.inl (fun _ => 0)))) :: (u4 0, .inl (G.2.2.1, 10, .inr (.inl (fun _ => 0)))) :: (o4, .inr (3, [.ref (u4 0), .ref (u4 1), .int (nI 0)])) :: (u3 3, .inl (G.2.1, 12, .inl (fun _ => 0))) :: (u3 2, .inl (G.2.1, 12, .inl (fun _ => 0))) :: (u3 1, .inl (G.2.1, 12, .inl (fun _ => 0))) :: (u3 0, .inl (G.2.1, 12, .inl (fun _ => 0))) :: (o3, .inr (8, [.ref (u3 0), .ref (u3 1), .ref (u3 2), .ref (u3 3), .int (nI 0)])) :: (u2 2, .inl (G.2.1, 8, .inl (fun _ => 0))) :: (u2 1, .inl (G.2.1, 8, .inl (fun _ => 0))) :: (u2 0, .inl (G.2.1, 8, .inl (fun _ => 0))) :: (o2, .inr (7, [.ref (u2 0), .ref (u2 1), .ref (u2 2), .int (nI 0)])) :: (u1 3, .inl (G.2.1, 40, .inl (fun _ => 0))) :: (u1 2, .inl (G.2.1, 40, .inl (fun _ => 0))) :: (u1 1, .inl (G.2.1, 40, .inl (fun _ => 0))) :: (u1 0, .inl (G.2.1, 8, .inl (fun _ => 0))) :: (o1, .inr (4, [.ref (u1 0), .ref (u1 1), .ref (u1 2), .ref (u1 3), .int (nI 0), .int (nI 0)])) :: (o, .inr (9, [.ref (o1), .ref (o2), .ref (o3), .ref (o4), .ref (o5), .null, .null, .null, .int (nI 0), .int (nI 0), .long (lN 0)])) :: w)) fk_X6_40 fpX6 rfl hnm rfl 20 dX6_init_56 (pc' := 59) rfl rfl rfl rfl (Nat.le_of_ble_eq_true rfl) rfl ?_
  refine yy_aload_n C 0 dX6_init_59 (pc' := 60) rfl rfl rfl ?_
  refine yy_new C inX3 (ci := 6) rfl fpX3 cl_X6_44 ia_X3 ii_X3 dX6_init_60 (pc' := 63) rfl (fs := [.null, .null, .null, .null, .int (nI 0)]) (def_X3) (Nat.le_of_ble_eq_true rfl) (Nat.le_of_ble_eq_true rfl) (fun o6 => ?_)
  refine yy_dup C dX6_init_63 (pc' := 64) rfl rfl ?_
  refine yc_v (yr_IN C (As := []) (rest := [.ref (o6), .ref (o)]) lk_X6_46 cd_X3_init im_X3_init rfl (mX3_init l G B0 o6 ((u5 1, .inl (G.2.1, 200, .inl (fun _ => 0))) :: (u5 0, .inl (G.2.1, 200, .inl (fun _ => 0))) :: (o5, .inr (5, [.ref (u5 0), .ref (u5 1), .int (nI 0)])) :: (u4 1, .inl (G.2.2.1, 10, .inr (.inl (fun _ => 0)))) :: (u4 0, .inl (G.2.2.1, 10, .inr (.inl (fun _ => 0)))) :: (o4, .inr (3, [.ref (u4 0), .ref (u4 1), .int (nI 0)])) :: (u3 3, .inl (G.2.1, 12, .inl (fun _ => 0))) :: (u3 2, .inl (G.2.1, 12, .inl (fun _ => 0))) :: (u3 1, .inl (G.2.1, 12, .inl (fun _ => 0))) :: (u3 0, .inl (G.2.1, 12, .inl (fun _ => 0))) :: (o3, .inr (8, [.ref (u3 0), .ref (u3 1), .ref (u3 2), .ref (u3 3), .int (nI 0)])) :: (u2 2, .inl (G.2.1, 8, .inl (fun _ => 0))) :: (u2 1, .inl (G.2.1, 8, .inl (fun _ => 0))) :: (u2 0, .inl (G.2.1, 8, .inl (fun _ => 0))) :: (o2, .inr (7, [.ref (u2 0), .ref (u2 1), .ref (u2 2), .int (nI 0)])) :: (u1 3, .inl (G.2.1, 40, .inl (fun _ => 0))) :: (u1 2, .inl (G.2.1, 40, .inl (fun _ => 0))) :: (u1 1, .inl (G.2.1, 40, .inl (fun _ => 0))) :: (u1 0, .inl (G.2.1, 8, .inl (fun _ => 0))) :: (o1, .inr (4, [.ref (u1 0), .ref (u1 1), .ref (u1 2), .ref (u1 3), .int (nI 0), .int (nI 0)])) :: (o, .inr (9, [.ref (o1), .ref (o2), .ref (o3), .ref (o4), .ref (o5), .null, .null, .null, .int (nI 0), .int (nI 0), .long (lN 0)])) :: w)) ⟨by decide, by decide⟩ ⟨by decide, by decide⟩ rfl rfl (Nat.le_of_ble_eq_true rfl) dX6_init_64) (pc' := 67) rfl (fun u6 _ => ?_)
  refine yy_putF C (w' := ((u6 3, .inl (G.2.1, 20, .inl (fun _ => 0))) :: (u6 2, .inl (G.2.2.2.2, 20, .inl (fun _ => 0))) :: (u6 1, .inl (G.2.1, 20, .inl (fun _ => 0))) :: (u6 0, .inl (G.2.1, 20, .inl (fun _ => 0))) :: (o6, .inr (6, [.ref (u6 0), .ref (u6 1), .ref (u6 2), .ref (u6 3), .int (nI 0)])) :: (u5 1, .inl (G.2.1, 200, .inl (fun _ => 0))) :: (u5 0, .inl (G.2.1, 200, .inl (fun _ => 0))) :: (o5, .inr (5, [.ref (u5 0), .ref (u5 1), .int (nI 0)])) :: (u4 1, .inl (G.2.2.1, 10, .inr (.inl (fun _ => 0)))) :: (u4 0, .inl (G.2.2.1, 10, .inr (.inl (fun _ => 0)))) :: (o4, .inr (3, [.ref (u4 0), .ref (u4 1), .int (nI 0)])) :: (u3 3, .inl (G.2.1, 12, .inl (fun _ => 0))) :: (u3 2, .inl (G.2.1, 12, .inl (fun _ => 0))) :: (u3 1, .inl (G.2.1, 12, .inl (fun _ => 0))) :: (u3 0, .inl (G.2.1, 12, .inl (fun _ => 0))) :: (o3, .inr (8, [.ref (u3 0), .ref (u3 1), .ref (u3 2), .ref (u3 3), .int (nI 0)])) :: (u2 2, .inl (G.2.1, 8, .inl (fun _ => 0))) :: (u2 1, .inl (G.2.1, 8, .inl (fun _ => 0))) :: (u2 0, .inl (G.2.1, 8, .inl (fun _ => 0))) :: (o2, .inr (7, [.ref (u2 0), .ref (u2 1), .ref (u2 2), .int (nI 0)])) :: (u1 3, .inl (G.2.1, 40, .inl (fun _ => 0))) :: (u1 2, .inl (G.2.1, 40, .inl (fun _ => 0))) :: (u1 1, .inl (G.2.1, 40, .inl (fun _ => 0))) :: (u1 0, .inl (G.2.1, 8, .inl (fun _ => 0))) :: (o1, .inr (4, [.ref (u1 0), .ref (u1 1), .ref (u1 2), .ref (u1 3), .int (nI 0), .int (nI 0)])) :: (o, .inr (9, [.ref (o1), .ref (o2), .ref (o3), .ref (o4), .ref (o5), .ref (o6), .null, .null, .int (nI 0), .int (nI 0), .long (lN 0)])) :: w)) fk_X6_47 fpX6 rfl hnm rfl 25 dX6_init_67 (pc' := 70) rfl rfl rfl rfl (Nat.le_of_ble_eq_true rfl) rfl ?_
  refine yy_aload_n C 0 dX6_init_70 (pc' := 71) rfl rfl rfl ?_
  refine yy_iconst C (v := (nI 5)) dX6_init_71 (pc' := 72) rfl (by decide) ?_
  refine yy_newaJ C (N := 5) ac_long dX6_init_72 (pc' := 74) rfl (by decide) (by decide) (Nat.le_of_ble_eq_true rfl) (Nat.le_of_ble_eq_true rfl) (fun q1 => ?_)
  refine yy_putF C (w' := ((q1, .inl (G.2.2.1, 5, .inr (.inl (fun _ => 0)))) :: (u6 3, .inl (G.2.1, 20, .inl (fun _ => 0))) :: (u6 2, .inl (G.2.2.2.2, 20, .inl (fun _ => 0))) :: (u6 1, .inl (G.2.1, 20, .inl (fun _ => 0))) :: (u6 0, .inl (G.2.1, 20, .inl (fun _ => 0))) :: (o6, .inr (6, [.ref (u6 0), .ref (u6 1), .ref (u6 2), .ref (u6 3), .int (nI 0)])) :: (u5 1, .inl (G.2.1, 200, .inl (fun _ => 0))) :: (u5 0, .inl (G.2.1, 200, .inl (fun _ => 0))) :: (o5, .inr (5, [.ref (u5 0), .ref (u5 1), .int (nI 0)])) :: (u4 1, .inl (G.2.2.1, 10, .inr (.inl (fun _ => 0)))) :: (u4 0, .inl (G.2.2.1, 10, .inr (.inl (fun _ => 0)))) :: (o4, .inr (3, [.ref (u4 0), .ref (u4 1), .int (nI 0)])) :: (u3 3, .inl (G.2.1, 12, .inl (fun _ => 0))) :: (u3 2, .inl (G.2.1, 12, .inl (fun _ => 0))) :: (u3 1, .inl (G.2.1, 12, .inl (fun _ => 0))) :: (u3 0, .inl (G.2.1, 12, .inl (fun _ => 0))) :: (o3, .inr (8, [.ref (u3 0), .ref (u3 1), .ref (u3 2), .ref (u3 3), .int (nI 0)])) :: (u2 2, .inl (G.2.1, 8, .inl (fun _ => 0))) :: (u2 1, .inl (G.2.1, 8, .inl (fun _ => 0))) :: (u2 0, .inl (G.2.1, 8, .inl (fun _ => 0))) :: (o2, .inr (7, [.ref (u2 0), .ref (u2 1), .ref (u2 2), .int (nI 0)])) :: (u1 3, .inl (G.2.1, 40, .inl (fun _ => 0))) :: (u1 2, .inl (G.2.1, 40, .inl (fun _ => 0))) :: (u1 1, .inl (G.2.1, 40, .inl (fun _ => 0))) :: (u1 0, .inl (G.2.1, 8, .inl (fun _ => 0))) :: (o1, .inr (4, [.ref (u1 0), .ref (u1 1), .ref (u1 2), .ref (u1 3), .int (nI 0), .int (nI 0)])) :: (o, .inr (9, [.ref (o1), .ref (o2), .ref (o3), .ref (o4), .ref (o5), .ref (o6), .ref (q1), .null, .int (nI 0), .int (nI 0), .long (lN 0)])) :: w)) fk_X6_51 fpX6 rfl hnm rfl 26 dX6_init_74 (pc' := 77) rfl rfl rfl rfl (Nat.le_of_ble_eq_true rfl) rfl ?_
  refine yy_aload_n C 0 dX6_init_77 (pc' := 78) rfl rfl rfl ?_
  refine yy_iconst C (v := (nI 5)) dX6_init_78 (pc' := 79) rfl (by decide) ?_
  refine yy_newaI C (N := 5) ac_int dX6_init_79 (pc' := 81) rfl (by decide) (by decide) (Nat.le_of_ble_eq_true rfl) (Nat.le_of_ble_eq_true rfl) (fun q2 => ?_)
  refine yy_putF C (w' := ((q2, .inl (G.2.1, 5, .inl (fun _ => 0))) :: (q1, .inl (G.2.2.1, 5, .inr (.inl (fun _ => 0)))) :: (u6 3, .inl (G.2.1, 20, .inl (fun _ => 0))) :: (u6 2, .inl (G.2.2.2.2, 20, .inl (fun _ => 0))) :: (u6 1, .inl (G.2.1, 20, .inl (fun _ => 0))) :: (u6 0, .inl (G.2.1, 20, .inl (fun _ => 0))) :: (o6, .inr (6, [.ref (u6 0), .ref (u6 1), .ref (u6 2), .ref (u6 3), .int (nI 0)])) :: (u5 1, .inl (G.2.1, 200, .inl (fun _ => 0))) :: (u5 0, .inl (G.2.1, 200, .inl (fun _ => 0))) :: (o5, .inr (5, [.ref (u5 0), .ref (u5 1), .int (nI 0)])) :: (u4 1, .inl (G.2.2.1, 10, .inr (.inl (fun _ => 0)))) :: (u4 0, .inl (G.2.2.1, 10, .inr (.inl (fun _ => 0)))) :: (o4, .inr (3, [.ref (u4 0), .ref (u4 1), .int (nI 0)])) :: (u3 3, .inl (G.2.1, 12, .inl (fun _ => 0))) :: (u3 2, .inl (G.2.1, 12, .inl (fun _ => 0))) :: (u3 1, .inl (G.2.1, 12, .inl (fun _ => 0))) :: (u3 0, .inl (G.2.1, 12, .inl (fun _ => 0))) :: (o3, .inr (8, [.ref (u3 0), .ref (u3 1), .ref (u3 2), .ref (u3 3), .int (nI 0)])) :: (u2 2, .inl (G.2.1, 8, .inl (fun _ => 0))) :: (u2 1, .inl (G.2.1, 8, .inl (fun _ => 0))) :: (u2 0, .inl (G.2.1, 8, .inl (fun _ => 0))) :: (o2, .inr (7, [.ref (u2 0), .ref (u2 1), .ref (u2 2), .int (nI 0)])) :: (u1 3, .inl (G.2.1, 40, .inl (fun _ => 0))) :: (u1 2, .inl (G.2.1, 40, .inl (fun _ => 0))) :: (u1 1, .inl (G.2.1, 40, .inl (fun _ => 0))) :: (u1 0, .inl (G.2.1, 8, .inl (fun _ => 0))) :: (o1, .inr (4, [.ref (u1 0), .ref (u1 1), .ref (u1 2), .ref (u1 3), .int (nI 0), .int (nI 0)])) :: (o, .inr (9, [.ref (o1), .ref (o2), .ref (o3), .ref (o4), .ref (o5), .ref (o6), .ref (q1), .ref (q2), .int (nI 0), .int (nI 0), .long (lN 0)])) :: w)) fk_X6_55 fpX6 rfl hnm rfl 27 dX6_init_81 (pc' := 84) rfl rfl rfl rfl (Nat.le_of_ble_eq_true rfl) rfl ?_
  refine yy_aload_n C 0 dX6_init_84 (pc' := 85) rfl rfl rfl ?_
  refine yy_iconst C (v := (nI 5)) dX6_init_85 (pc' := 86) rfl (by decide) ?_
  refine yy_put C (w' := ((q2, .inl (G.2.1, 5, .inl (fun _ => 0))) :: (q1, .inl (G.2.2.1, 5, .inr (.inl (fun _ => 0)))) :: (u6 3, .inl (G.2.1, 20, .inl (fun _ => 0))) :: (u6 2, .inl (G.2.2.2.2, 20, .inl (fun _ => 0))) :: (u6 1, .inl (G.2.1, 20, .inl (fun _ => 0))) :: (u6 0, .inl (G.2.1, 20, .inl (fun _ => 0))) :: (o6, .inr (6, [.ref (u6 0), .ref (u6 1), .ref (u6 2), .ref (u6 3), .int (nI 0)])) :: (u5 1, .inl (G.2.1, 200, .inl (fun _ => 0))) :: (u5 0, .inl (G.2.1, 200, .inl (fun _ => 0))) :: (o5, .inr (5, [.ref (u5 0), .ref (u5 1), .int (nI 0)])) :: (u4 1, .inl (G.2.2.1, 10, .inr (.inl (fun _ => 0)))) :: (u4 0, .inl (G.2.2.1, 10, .inr (.inl (fun _ => 0)))) :: (o4, .inr (3, [.ref (u4 0), .ref (u4 1), .int (nI 0)])) :: (u3 3, .inl (G.2.1, 12, .inl (fun _ => 0))) :: (u3 2, .inl (G.2.1, 12, .inl (fun _ => 0))) :: (u3 1, .inl (G.2.1, 12, .inl (fun _ => 0))) :: (u3 0, .inl (G.2.1, 12, .inl (fun _ => 0))) :: (o3, .inr (8, [.ref (u3 0), .ref (u3 1), .ref (u3 2), .ref (u3 3), .int (nI 0)])) :: (u2 2, .inl (G.2.1, 8, .inl (fun _ => 0))) :: (u2 1, .inl (G.2.1, 8, .inl (fun _ => 0))) :: (u2 0, .inl (G.2.1, 8, .inl (fun _ => 0))) :: (o2, .inr (7, [.ref (u2 0), .ref (u2 1), .ref (u2 2), .int (nI 0)])) :: (u1 3, .inl (G.2.1, 40, .inl (fun _ => 0))) :: (u1 2, .inl (G.2.1, 40, .inl (fun _ => 0))) :: (u1 1, .inl (G.2.1, 40, .inl (fun _ => 0))) :: (u1 0, .inl (G.2.1, 8, .inl (fun _ => 0))) :: (o1, .inr (4, [.ref (u1 0), .ref (u1 1), .ref (u1 2), .ref (u1 3), .int (nI 0), .int (nI 0)])) :: (o, .inr (9, [.ref (o1), .ref (o2), .ref (o3), .ref (o4), .ref (o5), .ref (o6), .ref (q1), .ref (q2), .int (nI 5), .int (nI 0), .long (lN 0)])) :: w)) fk_X6_59 fpX6 rfl 27 dX6_init_86 (pc' := 89) rfl rfl rfl rfl (Nat.le_of_ble_eq_true rfl) rfl ?_
  obtain ⟨ad, had⟩ : ∃ ad : Nat → Nat, ad = (fun i_ => ([o, o1, o2, o3, o4, o5, o6, q1, q2, u1 0, u1 1, u1 2, u1 3, u2 0, u2 1, u2 2, u3 0, u3 1, u3 2, u3 3, u4 0, u4 1, u5 0, u5 1, u6 0, u6 1, u6 2, u6 3] : List Nat).getD i_ 0) := ⟨_, rfl⟩
  refine yy_perm (w' := wA G ad S0 ++ w) (by subst had; exact (List.Perm.append_right w (permA_ (q2, .inl (G.2.1, 5, .inl (fun _ => 0))) (q1, .inl (G.2.2.1, 5, .inr (.inl (fun _ => 0)))) (u6 3, .inl (G.2.1, 20, .inl (fun _ => 0))) (u6 2, .inl (G.2.2.2.2, 20, .inl (fun _ => 0))) (u6 1, .inl (G.2.1, 20, .inl (fun _ => 0))) (u6 0, .inl (G.2.1, 20, .inl (fun _ => 0))) (o6, .inr (6, [.ref (u6 0), .ref (u6 1), .ref (u6 2), .ref (u6 3), .int (nI 0)])) (u5 1, .inl (G.2.1, 200, .inl (fun _ => 0))) (u5 0, .inl (G.2.1, 200, .inl (fun _ => 0))) (o5, .inr (5, [.ref (u5 0), .ref (u5 1), .int (nI 0)])) (u4 1, .inl (G.2.2.1, 10, .inr (.inl (fun _ => 0)))) (u4 0, .inl (G.2.2.1, 10, .inr (.inl (fun _ => 0)))) (o4, .inr (3, [.ref (u4 0), .ref (u4 1), .int (nI 0)])) (u3 3, .inl (G.2.1, 12, .inl (fun _ => 0))) (u3 2, .inl (G.2.1, 12, .inl (fun _ => 0))) (u3 1, .inl (G.2.1, 12, .inl (fun _ => 0))) (u3 0, .inl (G.2.1, 12, .inl (fun _ => 0))) (o3, .inr (8, [.ref (u3 0), .ref (u3 1), .ref (u3 2), .ref (u3 3), .int (nI 0)])) (u2 2, .inl (G.2.1, 8, .inl (fun _ => 0))) (u2 1, .inl (G.2.1, 8, .inl (fun _ => 0))) (u2 0, .inl (G.2.1, 8, .inl (fun _ => 0))) (o2, .inr (7, [.ref (u2 0), .ref (u2 1), .ref (u2 2), .int (nI 0)])) (u1 3, .inl (G.2.1, 40, .inl (fun _ => 0))) (u1 2, .inl (G.2.1, 40, .inl (fun _ => 0))) (u1 1, .inl (G.2.1, 40, .inl (fun _ => 0))) (u1 0, .inl (G.2.1, 8, .inl (fun _ => 0))) (o1, .inr (4, [.ref (u1 0), .ref (u1 1), .ref (u1 2), .ref (u1 3), .int (nI 0), .int (nI 0)])) (o, .inr (9, [.ref (o1), .ref (o2), .ref (o3), .ref (o4), .ref (o5), .ref (o6), .ref (q1), .ref (q2), .int (nI 5), .int (nI 0), .long (lN 0)]))))) ?_
  subst hQ
  exact ye_v C hr ad dX6_init_89 rfl (by decide) (by decide) (by subst had; rfl)
