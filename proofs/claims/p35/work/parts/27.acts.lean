def acI (c : Nat) : Nat := if c = 1 ∨ c = 2 then 1 else 0
abbrev rL_acts : Room := { frames := 9, cells := 1, slots := 6, locals := 182 }
set_option maxHeartbeats 4000000 in
set_option maxRecDepth 100000 in
theorem mL_acts (l : Launch) (hl0 : l.stackTraces = false) (G : gG) (B0 : Nat) (ad : Nat → Nat) (F : va_W) (S : SA) (dr j n : Nat) (v : Int32) (hR : RI S) (hj : j < 256) (hn : n ≤ 40) : Met l yL_acts (Cond.code yL_acts cL_acts 8 (some .int) :: WG) rL_acts (va_Pc [.ref (ad 0), .int (nI j), .ref (dr), .int (nI n)] (PR G B0 (wA G ad S ++ ((dr, .inr (10, [.int v])) :: F)))) (va_Qi (fun (r : Int32) (u : SA × Int32) => AC (acI (j % 28)) S u.1 r) (fun (u : SA × Int32) (t_ : State) => va_P G.1 vwCl (wA G ad u.1 ++ ((dr, .inr (10, [.int (u.2)])) :: F)) t_.heap ∧ va_D (fun q => B0 ≤ q) (wA G ad u.1 ++ ((dr, .inr (10, [.int (u.2)])) :: F))) (fun q => B0 ≤ q)) rL_acts.cells rL_acts.slots (fun q => B0 ≤ q) := by
  refine met_of RL [(0, .ref (ad 0)), (1, .int (nI j)), (2, .ref (dr)), (3, .int (nI n))] rfl (by decide) (Nat.le_of_ble_eq_true rfl) rfl ?_
  intro p e s m args below meth c C hr hnm
  refine yq ?_
  intro QQ hQ
  refine yy_aload_n C 2 dL_acts_0 (pc' := 1) rfl rfl rfl ?_
  refine yy_bipush C (v := (nI 30)) dL_acts_1 (pc' := 3) rfl (by decide) ?_
  refine yy_perm (w' := (dr, .inr (10, [.int v])) :: (wA G ad S ++ F)) List.perm_middle ?_
  refine yc_i (yr_V C (As := [.int (nI 30)]) (rest := []) lk_L_115 cd_X7_next im_X7_next se_X7_next (mX7_next l G B0 dr (wA G ad S ++ F) v 30 (by decide)) ⟨by decide, by decide⟩ ⟨(show 0 + 0 ≤ 1 by omega), (show 0 + 0 ≤ 6 by omega)⟩ 0 rfl rfl rfl rfl (Nat.le_of_ble_eq_true rfl) dL_acts_3) (pc' := 6) rfl (fun r1 z1 hw1 => ?_)
  refine yy_perm (w' := wA G ad S ++ ((dr, .inr (10, [.int z1])) :: F)) List.perm_middle.symm ?_
  refine yy_if_ne C dL_acts_6 (pc' := 9) rfl (tgt := 13) (by decide) (fun c_6 => ?_) (fun c_6 => ?_)
  · skip
    refine yy_iconst C (v := (nI 0)) dL_acts_13 (pc' := 14) rfl (by decide) ?_
    refine yy_istore C (L' := [(4, .int (nI 0)), (0, .ref (ad 0)), (1, .int (nI j)), (2, .ref (dr)), (3, .int (nI n))]) dL_acts_14 (pc' := 16) rfl (by decide) rfl ?_
    refine yy_aload_n C 3 dL_acts_16 (pc' := 17) rfl rfl rfl ?_
    refine yy_iload_n C 4 dL_acts_17 (pc' := 18) rfl rfl rfl ?_
    refine yy_bipush C (v := (nI 40)) dL_acts_18 (pc' := 20) rfl (by decide) ?_
    refine yy_perm (w' := (dr, .inr (10, [.int z1])) :: (wA G ad S ++ F)) List.perm_middle ?_
    refine yc_i (yr_S C (As := [.ref (dr), .int (nI n), .int (nI 40)]) (rest := []) lk_L_125 cd_L_number st_L_number (mL_number l G B0 dr (wA G ad S ++ F) z1 n (nI 40) (by omega)) ⟨by decide, by decide⟩ ⟨(show 0 + 0 ≤ 1 by omega), (show 0 + 0 ≤ 6 by omega)⟩ rfl rfl (Nat.le_of_ble_eq_true rfl) dL_acts_20) (pc' := 23) rfl (fun r2 z2 _ => ?_)
    refine yy_perm (w' := wA G ad S ++ ((dr, .inr (10, [.int z2])) :: F)) List.perm_middle.symm ?_
    refine yy_istore C (L' := [(5, .int r2), (4, .int (nI 0)), (0, .ref (ad 0)), (1, .int (nI j)), (2, .ref (dr)), (3, .int (nI n))]) dL_acts_23 (pc' := 25) rfl (by decide) rfl ?_
    refine yy_iload_n C 3 dL_acts_25 (pc' := 26) rfl rfl rfl ?_
    refine yy_bipush C (v := (nI 28)) dL_acts_26 (pc' := 28) rfl (by decide) ?_
    refine yy_irem C (v := (nI (j % 28))) dL_acts_28 (pc' := 29) rfl (by decide) (pk_rem (by omega) (by decide) (by decide)) ?_
    obtain ⟨c_, hc_, e_⟩ : ∃ c_, c_ < 28 ∧ j % 28 = c_ := ⟨_, Nat.mod_lt _ (by decide), rfl⟩
    rw [e_] at hQ ⊢
    rcases (show c_ = 0 ∨ c_ = 1 ∨ c_ = 2 ∨ c_ = 3 ∨ c_ = 4 ∨ c_ = 5 ∨ c_ = 6 ∨ c_ = 7 ∨ c_ = 8 ∨ c_ = 9 ∨ c_ = 10 ∨ c_ = 11 ∨ c_ = 12 ∨ c_ = 13 ∨ c_ = 14 ∨ c_ = 15 ∨ c_ = 16 ∨ c_ = 17 ∨ c_ = 18 ∨ c_ = 19 ∨ c_ = 20 ∨ c_ = 21 ∨ c_ = 22 ∨ c_ = 23 ∨ c_ = 24 ∨ c_ = 25 ∨ c_ = 26 ∨ c_ = 27 by omega) with rfl | rfl | rfl | rfl | rfl | rfl | rfl | rfl | rfl | rfl | rfl | rfl | rfl | rfl | rfl | rfl | rfl | rfl | rfl | rfl | rfl | rfl | rfl | rfl | rfl | rfl | rfl | rfl
    · skip
      refine yy_tab C (tgt := 144) (off := 115) dL_acts_29 (by decide) (by decide) rfl (by decide) ?_
      refine yy_aload_n C 2 dL_acts_144 (pc' := 145) rfl rfl rfl ?_
      refine yc_i (yr_SW C (As := [.ref (ad 0)]) (rest := []) lk_L_131 cd_L_addDocument st_L_addDocument (mL_addDocument l hl0 G B0 ad ((dr, .inr (10, [.int z2])) :: F) S hR.1.1) ⟨by decide, by decide⟩ ⟨(show 0 + 1 ≤ 1 by omega), (show 0 + 6 ≤ 6 by omega)⟩ rfl rfl (Nat.le_of_ble_eq_true rfl) dL_acts_145) (pc' := 148) rfl (fun r3 u1 hw3 => ?_)
      refine yy_widen (cs2 := 1) (ss2 := 6) (show 0 + 1 ≤ 1 by omega) (show 0 + 6 ≤ 6 by omega) ?_
      subst hQ
      exact ye_i C hr (vp_nar_int _) (u1, z2) dL_acts_148 rfl (by decide) (by decide) (AB.ac hR (ab_addDocument hR.1 hw3))
    · skip
      refine yy_tab C (tgt := 149) (off := 120) dL_acts_29 (by decide) (by decide) rfl (by decide) ?_
      refine yy_aload_n C 2 dL_acts_149 (pc' := 150) rfl rfl rfl ?_
      refine yy_aload_n C 4 dL_acts_150 (pc' := 151) rfl rfl rfl ?_
      refine yy_iconst C (v := (nI 2)) dL_acts_151 (pc' := 152) rfl (by decide) ?_
      refine yy_bipush C (v := (nI 8)) dL_acts_152 (pc' := 154) rfl (by decide) ?_
      refine yy_perm (w' := (dr, .inr (10, [.int z2])) :: (wA G ad S ++ F)) List.perm_middle ?_
      refine yc_i (yr_S C (As := [.ref (dr), .int (nI 2), .int (nI 8)]) (rest := [.ref (ad 0)]) lk_L_125 cd_L_number st_L_number (mL_number l G B0 dr (wA G ad S ++ F) z2 2 (nI 8) (by decide)) ⟨by decide, by decide⟩ ⟨(show 0 + 0 ≤ 1 by omega), (show 0 + 0 ≤ 6 by omega)⟩ rfl rfl (Nat.le_of_ble_eq_true rfl) dL_acts_154) (pc' := 157) rfl (fun r3 z3 _ => ?_)
      refine yy_perm (w' := wA G ad S ++ ((dr, .inr (10, [.int z3])) :: F)) List.perm_middle.symm ?_
      refine yy_iload C 1 dL_acts_157 (pc' := 159) rfl rfl ?_
      refine yy_if_eq C dL_acts_159 (pc' := 162) rfl (tgt := 168) (by decide) (fun c_159 => ?_) (fun c_159 => ?_)
      · skip
        refine yy_aload_n C 4 dL_acts_168 (pc' := 169) rfl rfl rfl ?_
        refine yy_bipush C (v := (nI 60)) dL_acts_169 (pc' := 171) rfl (by decide) ?_
        refine yy_perm (w' := (dr, .inr (10, [.int z3])) :: (wA G ad S ++ F)) List.perm_middle ?_
        refine yc_i (yr_V C (As := [.int (nI 60)]) (rest := [.int r3, .ref (ad 0)]) lk_L_115 cd_X7_next im_X7_next se_X7_next (mX7_next l G B0 dr (wA G ad S ++ F) z3 60 (by decide)) ⟨by decide, by decide⟩ ⟨(show 0 + 0 ≤ 1 by omega), (show 0 + 0 ≤ 6 by omega)⟩ 0 rfl rfl rfl rfl (Nat.le_of_ble_eq_true rfl) dL_acts_171) (pc' := 174) rfl (fun r4 z4 hw4 => ?_)
        refine yy_perm (w' := wA G ad S ++ ((dr, .inr (10, [.int z4])) :: F)) List.perm_middle.symm ?_
        refine yc_i (yr_SW C (As := [.ref (ad 0), .int r3, .int r4]) (rest := []) lk_L_134 cd_L_addLine st_L_addLine (mL_addLine l hl0 G B0 ad ((dr, .inr (10, [.int z4])) :: F) S r3 r4 hR.1.1) ⟨by decide, by decide⟩ ⟨(show 0 + 1 ≤ 1 by omega), (show 0 + 6 ≤ 6 by omega)⟩ rfl rfl (Nat.le_of_ble_eq_true rfl) dL_acts_174) (pc' := 177) rfl (fun r5 u1 hw5 => ?_)
        refine yy_widen (cs2 := 1) (ss2 := 6) (show 0 + 1 ≤ 1 by omega) (show 0 + 6 ≤ 6 by omega) ?_
        subst hQ
        exact ye_i C hr (vp_nar_int _) (u1, z4) dL_acts_177 rfl (by decide) (by decide) (AB.ac hR (ab_addLine hR.1 hw5))
      · skip
        exact absurd c_159 (by decide)
    · skip
      refine yy_tab C (tgt := 149) (off := 120) dL_acts_29 (by decide) (by decide) rfl (by decide) ?_
      refine yy_aload_n C 2 dL_acts_149 (pc' := 150) rfl rfl rfl ?_
      refine yy_aload_n C 4 dL_acts_150 (pc' := 151) rfl rfl rfl ?_
      refine yy_iconst C (v := (nI 2)) dL_acts_151 (pc' := 152) rfl (by decide) ?_
      refine yy_bipush C (v := (nI 8)) dL_acts_152 (pc' := 154) rfl (by decide) ?_
      refine yy_perm (w' := (dr, .inr (10, [.int z2])) :: (wA G ad S ++ F)) List.perm_middle ?_
      refine yc_i (yr_S C (As := [.ref (dr), .int (nI 2), .int (nI 8)]) (rest := [.ref (ad 0)]) lk_L_125 cd_L_number st_L_number (mL_number l G B0 dr (wA G ad S ++ F) z2 2 (nI 8) (by decide)) ⟨by decide, by decide⟩ ⟨(show 0 + 0 ≤ 1 by omega), (show 0 + 0 ≤ 6 by omega)⟩ rfl rfl (Nat.le_of_ble_eq_true rfl) dL_acts_154) (pc' := 157) rfl (fun r3 z3 _ => ?_)
      refine yy_perm (w' := wA G ad S ++ ((dr, .inr (10, [.int z3])) :: F)) List.perm_middle.symm ?_
      refine yy_iload C 1 dL_acts_157 (pc' := 159) rfl rfl ?_
      refine yy_if_eq C dL_acts_159 (pc' := 162) rfl (tgt := 168) (by decide) (fun c_159 => ?_) (fun c_159 => ?_)
      · skip
        refine yy_aload_n C 4 dL_acts_168 (pc' := 169) rfl rfl rfl ?_
        refine yy_bipush C (v := (nI 60)) dL_acts_169 (pc' := 171) rfl (by decide) ?_
        refine yy_perm (w' := (dr, .inr (10, [.int z3])) :: (wA G ad S ++ F)) List.perm_middle ?_
        refine yc_i (yr_V C (As := [.int (nI 60)]) (rest := [.int r3, .ref (ad 0)]) lk_L_115 cd_X7_next im_X7_next se_X7_next (mX7_next l G B0 dr (wA G ad S ++ F) z3 60 (by decide)) ⟨by decide, by decide⟩ ⟨(show 0 + 0 ≤ 1 by omega), (show 0 + 0 ≤ 6 by omega)⟩ 0 rfl rfl rfl rfl (Nat.le_of_ble_eq_true rfl) dL_acts_171) (pc' := 174) rfl (fun r4 z4 hw4 => ?_)
        refine yy_perm (w' := wA G ad S ++ ((dr, .inr (10, [.int z4])) :: F)) List.perm_middle.symm ?_
        refine yc_i (yr_SW C (As := [.ref (ad 0), .int r3, .int r4]) (rest := []) lk_L_134 cd_L_addLine st_L_addLine (mL_addLine l hl0 G B0 ad ((dr, .inr (10, [.int z4])) :: F) S r3 r4 hR.1.1) ⟨by decide, by decide⟩ ⟨(show 0 + 1 ≤ 1 by omega), (show 0 + 6 ≤ 6 by omega)⟩ rfl rfl (Nat.le_of_ble_eq_true rfl) dL_acts_174) (pc' := 177) rfl (fun r5 u1 hw5 => ?_)
        refine yy_widen (cs2 := 1) (ss2 := 6) (show 0 + 1 ≤ 1 by omega) (show 0 + 6 ≤ 6 by omega) ?_
        subst hQ
        exact ye_i C hr (vp_nar_int _) (u1, z4) dL_acts_177 rfl (by decide) (by decide) (AB.ac hR (ab_addLine hR.1 hw5))
      · skip
        exact absurd c_159 (by decide)
    · skip
      refine yy_tab C (tgt := 178) (off := 149) dL_acts_29 (by decide) (by decide) rfl (by decide) ?_
      refine yy_aload_n C 2 dL_acts_178 (pc' := 179) rfl rfl rfl ?_
      refine yy_iload C 0 dL_acts_179 (pc' := 181) rfl rfl ?_
      refine yy_iload C 1 dL_acts_181 (pc' := 183) rfl rfl ?_
      refine yy_if_eq C dL_acts_183 (pc' := 186) rfl (tgt := 190) (by decide) (fun c_183 => ?_) (fun c_183 => ?_)
      · skip
        refine yy_aload_n C 4 dL_acts_190 (pc' := 191) rfl rfl rfl ?_
        refine yy_bipush C (v := (nI 60)) dL_acts_191 (pc' := 193) rfl (by decide) ?_
        refine yy_perm (w' := (dr, .inr (10, [.int z2])) :: (wA G ad S ++ F)) List.perm_middle ?_
        refine yc_i (yr_V C (As := [.int (nI 60)]) (rest := [.int r2, .ref (ad 0)]) lk_L_115 cd_X7_next im_X7_next se_X7_next (mX7_next l G B0 dr (wA G ad S ++ F) z2 60 (by decide)) ⟨by decide, by decide⟩ ⟨(show 0 + 0 ≤ 1 by omega), (show 0 + 0 ≤ 6 by omega)⟩ 0 rfl rfl rfl rfl (Nat.le_of_ble_eq_true rfl) dL_acts_193) (pc' := 196) rfl (fun r3 z3 hw3 => ?_)
        refine yy_perm (w' := wA G ad S ++ ((dr, .inr (10, [.int z3])) :: F)) List.perm_middle.symm ?_
        refine yc_i (yr_SW C (As := [.ref (ad 0), .int r2, .int r3]) (rest := []) lk_L_137 cd_L_rescan st_L_rescan (mL_rescan l hl0 G B0 ad ((dr, .inr (10, [.int z3])) :: F) S r2 r3 hR.1.1) ⟨by decide, by decide⟩ ⟨(show 0 + 1 ≤ 1 by omega), (show 0 + 6 ≤ 6 by omega)⟩ rfl rfl (Nat.le_of_ble_eq_true rfl) dL_acts_196) (pc' := 199) rfl (fun r4 u1 hw4 => ?_)
        refine yy_widen (cs2 := 1) (ss2 := 6) (show 0 + 1 ≤ 1 by omega) (show 0 + 6 ≤ 6 by omega) ?_
        subst hQ
        exact ye_i C hr (vp_nar_int _) (u1, z3) dL_acts_199 rfl (by decide) (by decide) (AB.ac hR (ab_rescan hR.1 hw4))
      · skip
        exact absurd c_183 (by decide)
    · skip
      refine yy_tab C (tgt := 178) (off := 149) dL_acts_29 (by decide) (by decide) rfl (by decide) ?_
      refine yy_aload_n C 2 dL_acts_178 (pc' := 179) rfl rfl rfl ?_
      refine yy_iload C 0 dL_acts_179 (pc' := 181) rfl rfl ?_
      refine yy_iload C 1 dL_acts_181 (pc' := 183) rfl rfl ?_
      refine yy_if_eq C dL_acts_183 (pc' := 186) rfl (tgt := 190) (by decide) (fun c_183 => ?_) (fun c_183 => ?_)
      · skip
        refine yy_aload_n C 4 dL_acts_190 (pc' := 191) rfl rfl rfl ?_
        refine yy_bipush C (v := (nI 60)) dL_acts_191 (pc' := 193) rfl (by decide) ?_
        refine yy_perm (w' := (dr, .inr (10, [.int z2])) :: (wA G ad S ++ F)) List.perm_middle ?_
        refine yc_i (yr_V C (As := [.int (nI 60)]) (rest := [.int r2, .ref (ad 0)]) lk_L_115 cd_X7_next im_X7_next se_X7_next (mX7_next l G B0 dr (wA G ad S ++ F) z2 60 (by decide)) ⟨by decide, by decide⟩ ⟨(show 0 + 0 ≤ 1 by omega), (show 0 + 0 ≤ 6 by omega)⟩ 0 rfl rfl rfl rfl (Nat.le_of_ble_eq_true rfl) dL_acts_193) (pc' := 196) rfl (fun r3 z3 hw3 => ?_)
        refine yy_perm (w' := wA G ad S ++ ((dr, .inr (10, [.int z3])) :: F)) List.perm_middle.symm ?_
        refine yc_i (yr_SW C (As := [.ref (ad 0), .int r2, .int r3]) (rest := []) lk_L_137 cd_L_rescan st_L_rescan (mL_rescan l hl0 G B0 ad ((dr, .inr (10, [.int z3])) :: F) S r2 r3 hR.1.1) ⟨by decide, by decide⟩ ⟨(show 0 + 1 ≤ 1 by omega), (show 0 + 6 ≤ 6 by omega)⟩ rfl rfl (Nat.le_of_ble_eq_true rfl) dL_acts_196) (pc' := 199) rfl (fun r4 u1 hw4 => ?_)
        refine yy_widen (cs2 := 1) (ss2 := 6) (show 0 + 1 ≤ 1 by omega) (show 0 + 6 ≤ 6 by omega) ?_
        subst hQ
        exact ye_i C hr (vp_nar_int _) (u1, z3) dL_acts_199 rfl (by decide) (by decide) (AB.ac hR (ab_rescan hR.1 hw4))
      · skip
        exact absurd c_183 (by decide)
    · skip
      refine yy_tab C (tgt := 200) (off := 171) dL_acts_29 (by decide) (by decide) rfl (by decide) ?_
      refine yy_aload_n C 4 dL_acts_200 (pc' := 201) rfl rfl rfl ?_
      refine yy_bipush C (v := (nI 50)) dL_acts_201 (pc' := 203) rfl (by decide) ?_
      refine yy_perm (w' := (dr, .inr (10, [.int z2])) :: (wA G ad S ++ F)) List.perm_middle ?_
      refine yc_i (yr_V C (As := [.int (nI 50)]) (rest := []) lk_L_115 cd_X7_next im_X7_next se_X7_next (mX7_next l G B0 dr (wA G ad S ++ F) z2 50 (by decide)) ⟨by decide, by decide⟩ ⟨(show 0 + 0 ≤ 1 by omega), (show 0 + 0 ≤ 6 by omega)⟩ 0 rfl rfl rfl rfl (Nat.le_of_ble_eq_true rfl) dL_acts_203) (pc' := 206) rfl (fun r3 z3 hw3 => ?_)
      refine yy_perm (w' := wA G ad S ++ ((dr, .inr (10, [.int z3])) :: F)) List.perm_middle.symm ?_
      refine yy_istore C (L' := [(6, .int r3), (5, .int r2), (4, .int (nI 0)), (0, .ref (ad 0)), (1, .int (nI j)), (2, .ref (dr)), (3, .int (nI n))]) dL_acts_206 (pc' := 208) rfl (by decide) rfl ?_
      refine yy_aload_n C 3 dL_acts_208 (pc' := 209) rfl rfl rfl ?_
      refine yy_iload C 0 dL_acts_209 (pc' := 211) rfl rfl ?_
      refine yy_iload C 0 dL_acts_211 (pc' := 213) rfl rfl ?_
      refine yy_aload_n C 5 dL_acts_213 (pc' := 214) rfl rfl rfl ?_
      refine yy_bipush C (v := (nI 9)) dL_acts_214 (pc' := 216) rfl (by decide) ?_
      refine yy_perm (w' := (dr, .inr (10, [.int z3])) :: (wA G ad S ++ F)) List.perm_middle ?_
      refine yc_i (yr_V C (As := [.int (nI 9)]) (rest := [.int r3, .int r3, .ref (ad 0)]) lk_L_115 cd_X7_next im_X7_next se_X7_next (mX7_next l G B0 dr (wA G ad S ++ F) z3 9 (by decide)) ⟨by decide, by decide⟩ ⟨(show 0 + 0 ≤ 1 by omega), (show 0 + 0 ≤ 6 by omega)⟩ 0 rfl rfl rfl rfl (Nat.le_of_ble_eq_true rfl) dL_acts_216) (pc' := 219) rfl (fun r4 z4 hw4 => ?_)
      refine yy_perm (w' := wA G ad S ++ ((dr, .inr (10, [.int z4])) :: F)) List.perm_middle.symm ?_
      refine yy_iadd C (v := (r3 + r4)) dL_acts_219 (pc' := 220) rfl rfl ?_
      refine yy_iload C 2 dL_acts_220 (pc' := 222) rfl rfl ?_
      refine yy_if_eq C dL_acts_222 (pc' := 225) rfl (tgt := 230) (by decide) (fun c_222 => ?_) (fun c_222 => ?_)
      · skip
        refine yy_iconst C (v := (nI 0)) dL_acts_230 (pc' := 231) rfl (by decide) ?_
        refine yy_isub C (v := ((r3 + r4) - (nI 0))) dL_acts_231 (pc' := 232) rfl rfl ?_
        refine yy_aload_n C 3 dL_acts_232 (pc' := 233) rfl rfl rfl ?_
        refine yc_i (yr_V C (As := []) (rest := [.int ((r3 + r4) - (nI 0)), .int r3, .ref (ad 0)]) lk_L_139 cd_X6_day im_X6_day se_X6_day (mX6_day l G B0 ad ((dr, .inr (10, [.int z4])) :: F) S hR.1.1) ⟨by decide, by decide⟩ ⟨(show 0 + 0 ≤ 1 by omega), (show 0 + 0 ≤ 6 by omega)⟩ 0 rfl rfl rfl rfl (Nat.le_of_ble_eq_true rfl) dL_acts_233) (pc' := 236) rfl (fun r5 _ hw5 => ?_)
        obtain rfl : r5 = nI (S.1 7) := hw5
        refine yy_aload_n C 5 dL_acts_236 (pc' := 237) rfl rfl rfl ?_
        refine yy_bipush C (v := (nI 12)) dL_acts_237 (pc' := 239) rfl (by decide) ?_
        refine yy_perm (w' := (dr, .inr (10, [.int z4])) :: (wA G ad S ++ F)) List.perm_middle ?_
        refine yc_i (yr_V C (As := [.int (nI 12)]) (rest := [.int (nI (S.1 7)), .int ((r3 + r4) - (nI 0)), .int r3, .ref (ad 0)]) lk_L_115 cd_X7_next im_X7_next se_X7_next (mX7_next l G B0 dr (wA G ad S ++ F) z4 12 (by decide)) ⟨by decide, by decide⟩ ⟨(show 0 + 0 ≤ 1 by omega), (show 0 + 0 ≤ 6 by omega)⟩ 0 rfl rfl rfl rfl (Nat.le_of_ble_eq_true rfl) dL_acts_239) (pc' := 242) rfl (fun r6 z5 hw6 => ?_)
        refine yy_perm (w' := wA G ad S ++ ((dr, .inr (10, [.int z5])) :: F)) List.perm_middle.symm ?_
        refine yy_iadd C (v := ((nI (S.1 7)) + r6)) dL_acts_242 (pc' := 243) rfl rfl ?_
        refine yc_i (yr_SW C (As := [.ref (ad 0), .int r3, .int ((r3 + r4) - (nI 0)), .int ((nI (S.1 7)) + r6)]) (rest := []) lk_L_142 cd_L_addRule st_L_addRule (mL_addRule l hl0 G B0 ad ((dr, .inr (10, [.int z5])) :: F) S r3 ((r3 + r4) - (nI 0)) ((nI (S.1 7)) + r6) hR.1.1) ⟨by decide, by decide⟩ ⟨(show 0 + 1 ≤ 1 by omega), (show 0 + 6 ≤ 6 by omega)⟩ rfl rfl (Nat.le_of_ble_eq_true rfl) dL_acts_243) (pc' := 246) rfl (fun r7 u1 hw7 => ?_)
        refine yy_widen (cs2 := 1) (ss2 := 6) (show 0 + 1 ≤ 1 by omega) (show 0 + 6 ≤ 6 by omega) ?_
        subst hQ
        exact ye_i C hr (vp_nar_int _) (u1, z5) dL_acts_246 rfl (by decide) (by decide) (AB.ac hR (ab_addRule hR.1 hw7))
      · skip
        exact absurd c_222 (by decide)
    · skip
      refine yy_tab C (tgt := 200) (off := 171) dL_acts_29 (by decide) (by decide) rfl (by decide) ?_
      refine yy_aload_n C 4 dL_acts_200 (pc' := 201) rfl rfl rfl ?_
      refine yy_bipush C (v := (nI 50)) dL_acts_201 (pc' := 203) rfl (by decide) ?_
      refine yy_perm (w' := (dr, .inr (10, [.int z2])) :: (wA G ad S ++ F)) List.perm_middle ?_
      refine yc_i (yr_V C (As := [.int (nI 50)]) (rest := []) lk_L_115 cd_X7_next im_X7_next se_X7_next (mX7_next l G B0 dr (wA G ad S ++ F) z2 50 (by decide)) ⟨by decide, by decide⟩ ⟨(show 0 + 0 ≤ 1 by omega), (show 0 + 0 ≤ 6 by omega)⟩ 0 rfl rfl rfl rfl (Nat.le_of_ble_eq_true rfl) dL_acts_203) (pc' := 206) rfl (fun r3 z3 hw3 => ?_)
      refine yy_perm (w' := wA G ad S ++ ((dr, .inr (10, [.int z3])) :: F)) List.perm_middle.symm ?_
      refine yy_istore C (L' := [(6, .int r3), (5, .int r2), (4, .int (nI 0)), (0, .ref (ad 0)), (1, .int (nI j)), (2, .ref (dr)), (3, .int (nI n))]) dL_acts_206 (pc' := 208) rfl (by decide) rfl ?_
      refine yy_aload_n C 3 dL_acts_208 (pc' := 209) rfl rfl rfl ?_
      refine yy_iload C 0 dL_acts_209 (pc' := 211) rfl rfl ?_
      refine yy_iload C 0 dL_acts_211 (pc' := 213) rfl rfl ?_
      refine yy_aload_n C 5 dL_acts_213 (pc' := 214) rfl rfl rfl ?_
      refine yy_bipush C (v := (nI 9)) dL_acts_214 (pc' := 216) rfl (by decide) ?_
      refine yy_perm (w' := (dr, .inr (10, [.int z3])) :: (wA G ad S ++ F)) List.perm_middle ?_
      refine yc_i (yr_V C (As := [.int (nI 9)]) (rest := [.int r3, .int r3, .ref (ad 0)]) lk_L_115 cd_X7_next im_X7_next se_X7_next (mX7_next l G B0 dr (wA G ad S ++ F) z3 9 (by decide)) ⟨by decide, by decide⟩ ⟨(show 0 + 0 ≤ 1 by omega), (show 0 + 0 ≤ 6 by omega)⟩ 0 rfl rfl rfl rfl (Nat.le_of_ble_eq_true rfl) dL_acts_216) (pc' := 219) rfl (fun r4 z4 hw4 => ?_)
      refine yy_perm (w' := wA G ad S ++ ((dr, .inr (10, [.int z4])) :: F)) List.perm_middle.symm ?_
      refine yy_iadd C (v := (r3 + r4)) dL_acts_219 (pc' := 220) rfl rfl ?_
      refine yy_iload C 2 dL_acts_220 (pc' := 222) rfl rfl ?_
      refine yy_if_eq C dL_acts_222 (pc' := 225) rfl (tgt := 230) (by decide) (fun c_222 => ?_) (fun c_222 => ?_)
      · skip
        refine yy_iconst C (v := (nI 0)) dL_acts_230 (pc' := 231) rfl (by decide) ?_
        refine yy_isub C (v := ((r3 + r4) - (nI 0))) dL_acts_231 (pc' := 232) rfl rfl ?_
        refine yy_aload_n C 3 dL_acts_232 (pc' := 233) rfl rfl rfl ?_
        refine yc_i (yr_V C (As := []) (rest := [.int ((r3 + r4) - (nI 0)), .int r3, .ref (ad 0)]) lk_L_139 cd_X6_day im_X6_day se_X6_day (mX6_day l G B0 ad ((dr, .inr (10, [.int z4])) :: F) S hR.1.1) ⟨by decide, by decide⟩ ⟨(show 0 + 0 ≤ 1 by omega), (show 0 + 0 ≤ 6 by omega)⟩ 0 rfl rfl rfl rfl (Nat.le_of_ble_eq_true rfl) dL_acts_233) (pc' := 236) rfl (fun r5 _ hw5 => ?_)
        obtain rfl : r5 = nI (S.1 7) := hw5
        refine yy_aload_n C 5 dL_acts_236 (pc' := 237) rfl rfl rfl ?_
        refine yy_bipush C (v := (nI 12)) dL_acts_237 (pc' := 239) rfl (by decide) ?_
        refine yy_perm (w' := (dr, .inr (10, [.int z4])) :: (wA G ad S ++ F)) List.perm_middle ?_
        refine yc_i (yr_V C (As := [.int (nI 12)]) (rest := [.int (nI (S.1 7)), .int ((r3 + r4) - (nI 0)), .int r3, .ref (ad 0)]) lk_L_115 cd_X7_next im_X7_next se_X7_next (mX7_next l G B0 dr (wA G ad S ++ F) z4 12 (by decide)) ⟨by decide, by decide⟩ ⟨(show 0 + 0 ≤ 1 by omega), (show 0 + 0 ≤ 6 by omega)⟩ 0 rfl rfl rfl rfl (Nat.le_of_ble_eq_true rfl) dL_acts_239) (pc' := 242) rfl (fun r6 z5 hw6 => ?_)
        refine yy_perm (w' := wA G ad S ++ ((dr, .inr (10, [.int z5])) :: F)) List.perm_middle.symm ?_
        refine yy_iadd C (v := ((nI (S.1 7)) + r6)) dL_acts_242 (pc' := 243) rfl rfl ?_
        refine yc_i (yr_SW C (As := [.ref (ad 0), .int r3, .int ((r3 + r4) - (nI 0)), .int ((nI (S.1 7)) + r6)]) (rest := []) lk_L_142 cd_L_addRule st_L_addRule (mL_addRule l hl0 G B0 ad ((dr, .inr (10, [.int z5])) :: F) S r3 ((r3 + r4) - (nI 0)) ((nI (S.1 7)) + r6) hR.1.1) ⟨by decide, by decide⟩ ⟨(show 0 + 1 ≤ 1 by omega), (show 0 + 6 ≤ 6 by omega)⟩ rfl rfl (Nat.le_of_ble_eq_true rfl) dL_acts_243) (pc' := 246) rfl (fun r7 u1 hw7 => ?_)
        refine yy_widen (cs2 := 1) (ss2 := 6) (show 0 + 1 ≤ 1 by omega) (show 0 + 6 ≤ 6 by omega) ?_
        subst hQ
        exact ye_i C hr (vp_nar_int _) (u1, z5) dL_acts_246 rfl (by decide) (by decide) (AB.ac hR (ab_addRule hR.1 hw7))
      · skip
        exact absurd c_222 (by decide)
    · skip
      refine yy_tab C (tgt := 247) (off := 218) dL_acts_29 (by decide) (by decide) rfl (by decide) ?_
      refine yy_aload_n C 4 dL_acts_247 (pc' := 248) rfl rfl rfl ?_
      refine yy_iconst C (v := (nI 5)) dL_acts_248 (pc' := 249) rfl (by decide) ?_
      refine yy_perm (w' := (dr, .inr (10, [.int z2])) :: (wA G ad S ++ F)) List.perm_middle ?_
      refine yc_i (yr_V C (As := [.int (nI 5)]) (rest := []) lk_L_115 cd_X7_next im_X7_next se_X7_next (mX7_next l G B0 dr (wA G ad S ++ F) z2 5 (by decide)) ⟨by decide, by decide⟩ ⟨(show 0 + 0 ≤ 1 by omega), (show 0 + 0 ≤ 6 by omega)⟩ 0 rfl rfl rfl rfl (Nat.le_of_ble_eq_true rfl) dL_acts_249) (pc' := 252) rfl (fun r3 z3 hw3 => ?_)
      refine yy_perm (w' := wA G ad S ++ ((dr, .inr (10, [.int z3])) :: F)) List.perm_middle.symm ?_
      refine yy_istore C (L' := [(7, .int r3), (5, .int r2), (4, .int (nI 0)), (0, .ref (ad 0)), (1, .int (nI j)), (2, .ref (dr)), (3, .int (nI n))]) dL_acts_252 (pc' := 254) rfl (by decide) rfl ?_
      refine yy_aload_n C 3 dL_acts_254 (pc' := 255) rfl rfl rfl ?_
      refine yy_aload_n C 5 dL_acts_255 (pc' := 256) rfl rfl rfl ?_
      refine yy_iconst C (v := (nI 2)) dL_acts_256 (pc' := 257) rfl (by decide) ?_
      refine yy_bipush C (v := (nI 8)) dL_acts_257 (pc' := 259) rfl (by decide) ?_
      refine yy_perm (w' := (dr, .inr (10, [.int z3])) :: (wA G ad S ++ F)) List.perm_middle ?_
      refine yc_i (yr_S C (As := [.ref (dr), .int (nI 2), .int (nI 8)]) (rest := [.ref (ad 0)]) lk_L_125 cd_L_number st_L_number (mL_number l G B0 dr (wA G ad S ++ F) z3 2 (nI 8) (by decide)) ⟨by decide, by decide⟩ ⟨(show 0 + 0 ≤ 1 by omega), (show 0 + 0 ≤ 6 by omega)⟩ rfl rfl (Nat.le_of_ble_eq_true rfl) dL_acts_259) (pc' := 262) rfl (fun r4 z4 _ => ?_)
      refine yy_perm (w' := wA G ad S ++ ((dr, .inr (10, [.int z4])) :: F)) List.perm_middle.symm ?_
      refine yy_iload C 0 dL_acts_262 (pc' := 264) rfl rfl ?_
      refine yy_iload C 0 dL_acts_264 (pc' := 266) rfl rfl ?_
      refine yy_aload_n C 5 dL_acts_266 (pc' := 267) rfl rfl rfl ?_
      refine yy_iconst C (v := (nI 3)) dL_acts_267 (pc' := 268) rfl (by decide) ?_
      refine yy_perm (w' := (dr, .inr (10, [.int z4])) :: (wA G ad S ++ F)) List.perm_middle ?_
      refine yc_i (yr_V C (As := [.int (nI 3)]) (rest := [.int r3, .int r3, .int r4, .ref (ad 0)]) lk_L_115 cd_X7_next im_X7_next se_X7_next (mX7_next l G B0 dr (wA G ad S ++ F) z4 3 (by decide)) ⟨by decide, by decide⟩ ⟨(show 0 + 0 ≤ 1 by omega), (show 0 + 0 ≤ 6 by omega)⟩ 0 rfl rfl rfl rfl (Nat.le_of_ble_eq_true rfl) dL_acts_268) (pc' := 271) rfl (fun r5 z5 hw5 => ?_)
      refine yy_perm (w' := wA G ad S ++ ((dr, .inr (10, [.int z5])) :: F)) List.perm_middle.symm ?_
      refine yy_iadd C (v := (r3 + r5)) dL_acts_271 (pc' := 272) rfl rfl ?_
      refine yy_iload C 2 dL_acts_272 (pc' := 274) rfl rfl ?_
      refine yy_if_eq C dL_acts_274 (pc' := 277) rfl (tgt := 286) (by decide) (fun c_274 => ?_) (fun c_274 => ?_)
      · skip
        refine yy_aload_n C 3 dL_acts_286 (pc' := 287) rfl rfl rfl ?_
        refine yc_i (yr_V C (As := []) (rest := [.int (r3 + r5), .int r3, .int r4, .ref (ad 0)]) lk_L_139 cd_X6_day im_X6_day se_X6_day (mX6_day l G B0 ad ((dr, .inr (10, [.int z5])) :: F) S hR.1.1) ⟨by decide, by decide⟩ ⟨(show 0 + 0 ≤ 1 by omega), (show 0 + 0 ≤ 6 by omega)⟩ 0 rfl rfl rfl rfl (Nat.le_of_ble_eq_true rfl) dL_acts_287) (pc' := 290) rfl (fun r6 _ hw6 => ?_)
        obtain rfl : r6 = nI (S.1 7) := hw6
        refine yy_aload_n C 5 dL_acts_290 (pc' := 291) rfl rfl rfl ?_
        refine yy_bipush C (v := (nI 12)) dL_acts_291 (pc' := 293) rfl (by decide) ?_
        refine yy_perm (w' := (dr, .inr (10, [.int z5])) :: (wA G ad S ++ F)) List.perm_middle ?_
        refine yc_i (yr_V C (As := [.int (nI 12)]) (rest := [.int (nI (S.1 7)), .int (r3 + r5), .int r3, .int r4, .ref (ad 0)]) lk_L_115 cd_X7_next im_X7_next se_X7_next (mX7_next l G B0 dr (wA G ad S ++ F) z5 12 (by decide)) ⟨by decide, by decide⟩ ⟨(show 0 + 0 ≤ 1 by omega), (show 0 + 0 ≤ 6 by omega)⟩ 0 rfl rfl rfl rfl (Nat.le_of_ble_eq_true rfl) dL_acts_293) (pc' := 296) rfl (fun r7 z6 hw7 => ?_)
        refine yy_perm (w' := wA G ad S ++ ((dr, .inr (10, [.int z6])) :: F)) List.perm_middle.symm ?_
        refine yy_iadd C (v := ((nI (S.1 7)) + r7)) dL_acts_296 (pc' := 297) rfl rfl ?_
        refine yc_i (yr_SW C (As := [.ref (ad 0), .int r4, .int r3, .int (r3 + r5), .int ((nI (S.1 7)) + r7)]) (rest := []) lk_L_145 cd_L_addSpan st_L_addSpan (mL_addSpan l hl0 G B0 ad ((dr, .inr (10, [.int z6])) :: F) S r4 r3 (r3 + r5) ((nI (S.1 7)) + r7) hR.1.1) ⟨by decide, by decide⟩ ⟨(show 0 + 1 ≤ 1 by omega), (show 0 + 6 ≤ 6 by omega)⟩ rfl rfl (Nat.le_of_ble_eq_true rfl) dL_acts_297) (pc' := 300) rfl (fun r8 u1 hw8 => ?_)
        refine yy_widen (cs2 := 1) (ss2 := 6) (show 0 + 1 ≤ 1 by omega) (show 0 + 6 ≤ 6 by omega) ?_
        subst hQ
        exact ye_i C hr (vp_nar_int _) (u1, z6) dL_acts_300 rfl (by decide) (by decide) (AB.ac hR (ab_addSpan hR.1 hw8))
      · skip
        exact absurd c_274 (by decide)
    · skip
      refine yy_tab C (tgt := 247) (off := 218) dL_acts_29 (by decide) (by decide) rfl (by decide) ?_
      refine yy_aload_n C 4 dL_acts_247 (pc' := 248) rfl rfl rfl ?_
      refine yy_iconst C (v := (nI 5)) dL_acts_248 (pc' := 249) rfl (by decide) ?_
      refine yy_perm (w' := (dr, .inr (10, [.int z2])) :: (wA G ad S ++ F)) List.perm_middle ?_
      refine yc_i (yr_V C (As := [.int (nI 5)]) (rest := []) lk_L_115 cd_X7_next im_X7_next se_X7_next (mX7_next l G B0 dr (wA G ad S ++ F) z2 5 (by decide)) ⟨by decide, by decide⟩ ⟨(show 0 + 0 ≤ 1 by omega), (show 0 + 0 ≤ 6 by omega)⟩ 0 rfl rfl rfl rfl (Nat.le_of_ble_eq_true rfl) dL_acts_249) (pc' := 252) rfl (fun r3 z3 hw3 => ?_)
      refine yy_perm (w' := wA G ad S ++ ((dr, .inr (10, [.int z3])) :: F)) List.perm_middle.symm ?_
      refine yy_istore C (L' := [(7, .int r3), (5, .int r2), (4, .int (nI 0)), (0, .ref (ad 0)), (1, .int (nI j)), (2, .ref (dr)), (3, .int (nI n))]) dL_acts_252 (pc' := 254) rfl (by decide) rfl ?_
      refine yy_aload_n C 3 dL_acts_254 (pc' := 255) rfl rfl rfl ?_
      refine yy_aload_n C 5 dL_acts_255 (pc' := 256) rfl rfl rfl ?_
      refine yy_iconst C (v := (nI 2)) dL_acts_256 (pc' := 257) rfl (by decide) ?_
      refine yy_bipush C (v := (nI 8)) dL_acts_257 (pc' := 259) rfl (by decide) ?_
      refine yy_perm (w' := (dr, .inr (10, [.int z3])) :: (wA G ad S ++ F)) List.perm_middle ?_
      refine yc_i (yr_S C (As := [.ref (dr), .int (nI 2), .int (nI 8)]) (rest := [.ref (ad 0)]) lk_L_125 cd_L_number st_L_number (mL_number l G B0 dr (wA G ad S ++ F) z3 2 (nI 8) (by decide)) ⟨by decide, by decide⟩ ⟨(show 0 + 0 ≤ 1 by omega), (show 0 + 0 ≤ 6 by omega)⟩ rfl rfl (Nat.le_of_ble_eq_true rfl) dL_acts_259) (pc' := 262) rfl (fun r4 z4 _ => ?_)
      refine yy_perm (w' := wA G ad S ++ ((dr, .inr (10, [.int z4])) :: F)) List.perm_middle.symm ?_
      refine yy_iload C 0 dL_acts_262 (pc' := 264) rfl rfl ?_
      refine yy_iload C 0 dL_acts_264 (pc' := 266) rfl rfl ?_
      refine yy_aload_n C 5 dL_acts_266 (pc' := 267) rfl rfl rfl ?_
      refine yy_iconst C (v := (nI 3)) dL_acts_267 (pc' := 268) rfl (by decide) ?_
      refine yy_perm (w' := (dr, .inr (10, [.int z4])) :: (wA G ad S ++ F)) List.perm_middle ?_
      refine yc_i (yr_V C (As := [.int (nI 3)]) (rest := [.int r3, .int r3, .int r4, .ref (ad 0)]) lk_L_115 cd_X7_next im_X7_next se_X7_next (mX7_next l G B0 dr (wA G ad S ++ F) z4 3 (by decide)) ⟨by decide, by decide⟩ ⟨(show 0 + 0 ≤ 1 by omega), (show 0 + 0 ≤ 6 by omega)⟩ 0 rfl rfl rfl rfl (Nat.le_of_ble_eq_true rfl) dL_acts_268) (pc' := 271) rfl (fun r5 z5 hw5 => ?_)
      refine yy_perm (w' := wA G ad S ++ ((dr, .inr (10, [.int z5])) :: F)) List.perm_middle.symm ?_
      refine yy_iadd C (v := (r3 + r5)) dL_acts_271 (pc' := 272) rfl rfl ?_
      refine yy_iload C 2 dL_acts_272 (pc' := 274) rfl rfl ?_
      refine yy_if_eq C dL_acts_274 (pc' := 277) rfl (tgt := 286) (by decide) (fun c_274 => ?_) (fun c_274 => ?_)
      · skip
        refine yy_aload_n C 3 dL_acts_286 (pc' := 287) rfl rfl rfl ?_
        refine yc_i (yr_V C (As := []) (rest := [.int (r3 + r5), .int r3, .int r4, .ref (ad 0)]) lk_L_139 cd_X6_day im_X6_day se_X6_day (mX6_day l G B0 ad ((dr, .inr (10, [.int z5])) :: F) S hR.1.1) ⟨by decide, by decide⟩ ⟨(show 0 + 0 ≤ 1 by omega), (show 0 + 0 ≤ 6 by omega)⟩ 0 rfl rfl rfl rfl (Nat.le_of_ble_eq_true rfl) dL_acts_287) (pc' := 290) rfl (fun r6 _ hw6 => ?_)
        obtain rfl : r6 = nI (S.1 7) := hw6
        refine yy_aload_n C 5 dL_acts_290 (pc' := 291) rfl rfl rfl ?_
        refine yy_bipush C (v := (nI 12)) dL_acts_291 (pc' := 293) rfl (by decide) ?_
        refine yy_perm (w' := (dr, .inr (10, [.int z5])) :: (wA G ad S ++ F)) List.perm_middle ?_
        refine yc_i (yr_V C (As := [.int (nI 12)]) (rest := [.int (nI (S.1 7)), .int (r3 + r5), .int r3, .int r4, .ref (ad 0)]) lk_L_115 cd_X7_next im_X7_next se_X7_next (mX7_next l G B0 dr (wA G ad S ++ F) z5 12 (by decide)) ⟨by decide, by decide⟩ ⟨(show 0 + 0 ≤ 1 by omega), (show 0 + 0 ≤ 6 by omega)⟩ 0 rfl rfl rfl rfl (Nat.le_of_ble_eq_true rfl) dL_acts_293) (pc' := 296) rfl (fun r7 z6 hw7 => ?_)
        refine yy_perm (w' := wA G ad S ++ ((dr, .inr (10, [.int z6])) :: F)) List.perm_middle.symm ?_
        refine yy_iadd C (v := ((nI (S.1 7)) + r7)) dL_acts_296 (pc' := 297) rfl rfl ?_
        refine yc_i (yr_SW C (As := [.ref (ad 0), .int r4, .int r3, .int (r3 + r5), .int ((nI (S.1 7)) + r7)]) (rest := []) lk_L_145 cd_L_addSpan st_L_addSpan (mL_addSpan l hl0 G B0 ad ((dr, .inr (10, [.int z6])) :: F) S r4 r3 (r3 + r5) ((nI (S.1 7)) + r7) hR.1.1) ⟨by decide, by decide⟩ ⟨(show 0 + 1 ≤ 1 by omega), (show 0 + 6 ≤ 6 by omega)⟩ rfl rfl (Nat.le_of_ble_eq_true rfl) dL_acts_297) (pc' := 300) rfl (fun r8 u1 hw8 => ?_)
        refine yy_widen (cs2 := 1) (ss2 := 6) (show 0 + 1 ≤ 1 by omega) (show 0 + 6 ≤ 6 by omega) ?_
        subst hQ
        exact ye_i C hr (vp_nar_int _) (u1, z6) dL_acts_300 rfl (by decide) (by decide) (AB.ac hR (ab_addSpan hR.1 hw8))
      · skip
        exact absurd c_274 (by decide)
    · skip
      refine yy_tab C (tgt := 301) (off := 272) dL_acts_29 (by decide) (by decide) rfl (by decide) ?_
      refine yy_aload_n C 2 dL_acts_301 (pc' := 302) rfl rfl rfl ?_
      refine yy_aload_n C 4 dL_acts_302 (pc' := 303) rfl rfl rfl ?_
      refine yy_iconst C (v := (nI 4)) dL_acts_303 (pc' := 304) rfl (by decide) ?_
      refine yy_bipush C (v := (nI 12)) dL_acts_304 (pc' := 306) rfl (by decide) ?_
      refine yy_perm (w' := (dr, .inr (10, [.int z2])) :: (wA G ad S ++ F)) List.perm_middle ?_
      refine yc_i (yr_S C (As := [.ref (dr), .int (nI 4), .int (nI 12)]) (rest := [.ref (ad 0)]) lk_L_125 cd_L_number st_L_number (mL_number l G B0 dr (wA G ad S ++ F) z2 4 (nI 12) (by decide)) ⟨by decide, by decide⟩ ⟨(show 0 + 0 ≤ 1 by omega), (show 0 + 0 ≤ 6 by omega)⟩ rfl rfl (Nat.le_of_ble_eq_true rfl) dL_acts_306) (pc' := 309) rfl (fun r3 z3 _ => ?_)
      refine yy_perm (w' := wA G ad S ++ ((dr, .inr (10, [.int z3])) :: F)) List.perm_middle.symm ?_
      refine yc_i (yr_SW C (As := [.ref (ad 0), .int r3]) (rest := []) lk_L_148 cd_L_lift st_L_lift (mL_lift l hl0 G B0 ad ((dr, .inr (10, [.int z3])) :: F) S r3 hR.1.1) ⟨by decide, by decide⟩ ⟨(show 0 + 1 ≤ 1 by omega), (show 0 + 6 ≤ 6 by omega)⟩ rfl rfl (Nat.le_of_ble_eq_true rfl) dL_acts_309) (pc' := 312) rfl (fun r4 u1 hw4 => ?_)
      refine yy_widen (cs2 := 1) (ss2 := 6) (show 0 + 1 ≤ 1 by omega) (show 0 + 6 ≤ 6 by omega) ?_
      subst hQ
      exact ye_i C hr (vp_nar_int _) (u1, z3) dL_acts_312 rfl (by decide) (by decide) (AB.ac hR (ab_lift hR.1 hw4))
    · skip
      refine yy_tab C (tgt := 313) (off := 284) dL_acts_29 (by decide) (by decide) rfl (by decide) ?_
      refine yy_aload_n C 2 dL_acts_313 (pc' := 314) rfl rfl rfl ?_
      refine yy_iload C 0 dL_acts_314 (pc' := 316) rfl rfl ?_
      refine yy_aload_n C 4 dL_acts_316 (pc' := 317) rfl rfl rfl ?_
      refine yy_iload_n C 5 dL_acts_317 (pc' := 318) rfl rfl rfl ?_
      refine yy_bipush C (v := (nI 40)) dL_acts_318 (pc' := 320) rfl (by decide) ?_
      refine yy_perm (w' := (dr, .inr (10, [.int z2])) :: (wA G ad S ++ F)) List.perm_middle ?_
      refine yc_i (yr_S C (As := [.ref (dr), .int (nI n), .int (nI 40)]) (rest := [.int r2, .ref (ad 0)]) lk_L_125 cd_L_number st_L_number (mL_number l G B0 dr (wA G ad S ++ F) z2 n (nI 40) (by omega)) ⟨by decide, by decide⟩ ⟨(show 0 + 0 ≤ 1 by omega), (show 0 + 0 ≤ 6 by omega)⟩ rfl rfl (Nat.le_of_ble_eq_true rfl) dL_acts_320) (pc' := 323) rfl (fun r3 z3 _ => ?_)
      refine yy_perm (w' := wA G ad S ++ ((dr, .inr (10, [.int z3])) :: F)) List.perm_middle.symm ?_
      refine yy_aload_n C 4 dL_acts_323 (pc' := 324) rfl rfl rfl ?_
      refine yy_iload_n C 5 dL_acts_324 (pc' := 325) rfl rfl rfl ?_
      refine yy_bipush C (v := (nI 40)) dL_acts_325 (pc' := 327) rfl (by decide) ?_
      refine yy_perm (w' := (dr, .inr (10, [.int z3])) :: (wA G ad S ++ F)) List.perm_middle ?_
      refine yc_i (yr_S C (As := [.ref (dr), .int (nI n), .int (nI 40)]) (rest := [.int r3, .int r2, .ref (ad 0)]) lk_L_125 cd_L_number st_L_number (mL_number l G B0 dr (wA G ad S ++ F) z3 n (nI 40) (by omega)) ⟨by decide, by decide⟩ ⟨(show 0 + 0 ≤ 1 by omega), (show 0 + 0 ≤ 6 by omega)⟩ rfl rfl (Nat.le_of_ble_eq_true rfl) dL_acts_327) (pc' := 330) rfl (fun r4 z4 _ => ?_)
      refine yy_perm (w' := wA G ad S ++ ((dr, .inr (10, [.int z4])) :: F)) List.perm_middle.symm ?_
      refine yc_i (yr_SW C (As := [.ref (ad 0), .int r2, .int r3, .int r4]) (rest := []) lk_L_151 cd_L_addJoin st_L_addJoin (mL_addJoin l hl0 G B0 ad ((dr, .inr (10, [.int z4])) :: F) S r2 r3 r4 hR.1.1) ⟨by decide, by decide⟩ ⟨(show 0 + 1 ≤ 1 by omega), (show 0 + 6 ≤ 6 by omega)⟩ rfl rfl (Nat.le_of_ble_eq_true rfl) dL_acts_330) (pc' := 333) rfl (fun r5 u1 hw5 => ?_)
      refine yy_widen (cs2 := 1) (ss2 := 6) (show 0 + 1 ≤ 1 by omega) (show 0 + 6 ≤ 6 by omega) ?_
      subst hQ
      exact ye_i C hr (vp_nar_int _) (u1, z4) dL_acts_333 rfl (by decide) (by decide) (AB.ac hR (ab_addJoin hR.1 hw5))
    · skip
      refine yy_tab C (tgt := 313) (off := 284) dL_acts_29 (by decide) (by decide) rfl (by decide) ?_
      refine yy_aload_n C 2 dL_acts_313 (pc' := 314) rfl rfl rfl ?_
      refine yy_iload C 0 dL_acts_314 (pc' := 316) rfl rfl ?_
      refine yy_aload_n C 4 dL_acts_316 (pc' := 317) rfl rfl rfl ?_
      refine yy_iload_n C 5 dL_acts_317 (pc' := 318) rfl rfl rfl ?_
      refine yy_bipush C (v := (nI 40)) dL_acts_318 (pc' := 320) rfl (by decide) ?_
      refine yy_perm (w' := (dr, .inr (10, [.int z2])) :: (wA G ad S ++ F)) List.perm_middle ?_
      refine yc_i (yr_S C (As := [.ref (dr), .int (nI n), .int (nI 40)]) (rest := [.int r2, .ref (ad 0)]) lk_L_125 cd_L_number st_L_number (mL_number l G B0 dr (wA G ad S ++ F) z2 n (nI 40) (by omega)) ⟨by decide, by decide⟩ ⟨(show 0 + 0 ≤ 1 by omega), (show 0 + 0 ≤ 6 by omega)⟩ rfl rfl (Nat.le_of_ble_eq_true rfl) dL_acts_320) (pc' := 323) rfl (fun r3 z3 _ => ?_)
      refine yy_perm (w' := wA G ad S ++ ((dr, .inr (10, [.int z3])) :: F)) List.perm_middle.symm ?_
      refine yy_aload_n C 4 dL_acts_323 (pc' := 324) rfl rfl rfl ?_
      refine yy_iload_n C 5 dL_acts_324 (pc' := 325) rfl rfl rfl ?_
      refine yy_bipush C (v := (nI 40)) dL_acts_325 (pc' := 327) rfl (by decide) ?_
      refine yy_perm (w' := (dr, .inr (10, [.int z3])) :: (wA G ad S ++ F)) List.perm_middle ?_
      refine yc_i (yr_S C (As := [.ref (dr), .int (nI n), .int (nI 40)]) (rest := [.int r3, .int r2, .ref (ad 0)]) lk_L_125 cd_L_number st_L_number (mL_number l G B0 dr (wA G ad S ++ F) z3 n (nI 40) (by omega)) ⟨by decide, by decide⟩ ⟨(show 0 + 0 ≤ 1 by omega), (show 0 + 0 ≤ 6 by omega)⟩ rfl rfl (Nat.le_of_ble_eq_true rfl) dL_acts_327) (pc' := 330) rfl (fun r4 z4 _ => ?_)
      refine yy_perm (w' := wA G ad S ++ ((dr, .inr (10, [.int z4])) :: F)) List.perm_middle.symm ?_
      refine yc_i (yr_SW C (As := [.ref (ad 0), .int r2, .int r3, .int r4]) (rest := []) lk_L_151 cd_L_addJoin st_L_addJoin (mL_addJoin l hl0 G B0 ad ((dr, .inr (10, [.int z4])) :: F) S r2 r3 r4 hR.1.1) ⟨by decide, by decide⟩ ⟨(show 0 + 1 ≤ 1 by omega), (show 0 + 6 ≤ 6 by omega)⟩ rfl rfl (Nat.le_of_ble_eq_true rfl) dL_acts_330) (pc' := 333) rfl (fun r5 u1 hw5 => ?_)
      refine yy_widen (cs2 := 1) (ss2 := 6) (show 0 + 1 ≤ 1 by omega) (show 0 + 6 ≤ 6 by omega) ?_
      subst hQ
      exact ye_i C hr (vp_nar_int _) (u1, z4) dL_acts_333 rfl (by decide) (by decide) (AB.ac hR (ab_addJoin hR.1 hw5))
    · skip
      refine yy_tab C (tgt := 313) (off := 284) dL_acts_29 (by decide) (by decide) rfl (by decide) ?_
      refine yy_aload_n C 2 dL_acts_313 (pc' := 314) rfl rfl rfl ?_
      refine yy_iload C 0 dL_acts_314 (pc' := 316) rfl rfl ?_
      refine yy_aload_n C 4 dL_acts_316 (pc' := 317) rfl rfl rfl ?_
      refine yy_iload_n C 5 dL_acts_317 (pc' := 318) rfl rfl rfl ?_
      refine yy_bipush C (v := (nI 40)) dL_acts_318 (pc' := 320) rfl (by decide) ?_
      refine yy_perm (w' := (dr, .inr (10, [.int z2])) :: (wA G ad S ++ F)) List.perm_middle ?_
      refine yc_i (yr_S C (As := [.ref (dr), .int (nI n), .int (nI 40)]) (rest := [.int r2, .ref (ad 0)]) lk_L_125 cd_L_number st_L_number (mL_number l G B0 dr (wA G ad S ++ F) z2 n (nI 40) (by omega)) ⟨by decide, by decide⟩ ⟨(show 0 + 0 ≤ 1 by omega), (show 0 + 0 ≤ 6 by omega)⟩ rfl rfl (Nat.le_of_ble_eq_true rfl) dL_acts_320) (pc' := 323) rfl (fun r3 z3 _ => ?_)
      refine yy_perm (w' := wA G ad S ++ ((dr, .inr (10, [.int z3])) :: F)) List.perm_middle.symm ?_
      refine yy_aload_n C 4 dL_acts_323 (pc' := 324) rfl rfl rfl ?_
      refine yy_iload_n C 5 dL_acts_324 (pc' := 325) rfl rfl rfl ?_
      refine yy_bipush C (v := (nI 40)) dL_acts_325 (pc' := 327) rfl (by decide) ?_
      refine yy_perm (w' := (dr, .inr (10, [.int z3])) :: (wA G ad S ++ F)) List.perm_middle ?_
      refine yc_i (yr_S C (As := [.ref (dr), .int (nI n), .int (nI 40)]) (rest := [.int r3, .int r2, .ref (ad 0)]) lk_L_125 cd_L_number st_L_number (mL_number l G B0 dr (wA G ad S ++ F) z3 n (nI 40) (by omega)) ⟨by decide, by decide⟩ ⟨(show 0 + 0 ≤ 1 by omega), (show 0 + 0 ≤ 6 by omega)⟩ rfl rfl (Nat.le_of_ble_eq_true rfl) dL_acts_327) (pc' := 330) rfl (fun r4 z4 _ => ?_)
      refine yy_perm (w' := wA G ad S ++ ((dr, .inr (10, [.int z4])) :: F)) List.perm_middle.symm ?_
      refine yc_i (yr_SW C (As := [.ref (ad 0), .int r2, .int r3, .int r4]) (rest := []) lk_L_151 cd_L_addJoin st_L_addJoin (mL_addJoin l hl0 G B0 ad ((dr, .inr (10, [.int z4])) :: F) S r2 r3 r4 hR.1.1) ⟨by decide, by decide⟩ ⟨(show 0 + 1 ≤ 1 by omega), (show 0 + 6 ≤ 6 by omega)⟩ rfl rfl (Nat.le_of_ble_eq_true rfl) dL_acts_330) (pc' := 333) rfl (fun r5 u1 hw5 => ?_)
      refine yy_widen (cs2 := 1) (ss2 := 6) (show 0 + 1 ≤ 1 by omega) (show 0 + 6 ≤ 6 by omega) ?_
      subst hQ
      exact ye_i C hr (vp_nar_int _) (u1, z4) dL_acts_333 rfl (by decide) (by decide) (AB.ac hR (ab_addJoin hR.1 hw5))
    · skip
      refine yy_tab C (tgt := 334) (off := 305) dL_acts_29 (by decide) (by decide) rfl (by decide) ?_
      refine yy_aload_n C 2 dL_acts_334 (pc' := 335) rfl rfl rfl ?_
      refine yy_aload_n C 4 dL_acts_335 (pc' := 336) rfl rfl rfl ?_
      refine yy_iconst C (v := (nI 3)) dL_acts_336 (pc' := 337) rfl (by decide) ?_
      refine yy_iconst C (v := (nI 5)) dL_acts_337 (pc' := 338) rfl (by decide) ?_
      refine yy_perm (w' := (dr, .inr (10, [.int z2])) :: (wA G ad S ++ F)) List.perm_middle ?_
      refine yc_i (yr_S C (As := [.ref (dr), .int (nI 3), .int (nI 5)]) (rest := [.ref (ad 0)]) lk_L_125 cd_L_number st_L_number (mL_number l G B0 dr (wA G ad S ++ F) z2 3 (nI 5) (by decide)) ⟨by decide, by decide⟩ ⟨(show 0 + 0 ≤ 1 by omega), (show 0 + 0 ≤ 6 by omega)⟩ rfl rfl (Nat.le_of_ble_eq_true rfl) dL_acts_338) (pc' := 341) rfl (fun r3 z3 _ => ?_)
      refine yy_perm (w' := wA G ad S ++ ((dr, .inr (10, [.int z3])) :: F)) List.perm_middle.symm ?_
      refine yy_aload_n C 4 dL_acts_341 (pc' := 342) rfl rfl rfl ?_
      refine yy_iconst C (v := (nI 2)) dL_acts_342 (pc' := 343) rfl (by decide) ?_
      refine yy_bipush C (v := (nI 8)) dL_acts_343 (pc' := 345) rfl (by decide) ?_
      refine yy_perm (w' := (dr, .inr (10, [.int z3])) :: (wA G ad S ++ F)) List.perm_middle ?_
      refine yc_i (yr_S C (As := [.ref (dr), .int (nI 2), .int (nI 8)]) (rest := [.int r3, .ref (ad 0)]) lk_L_125 cd_L_number st_L_number (mL_number l G B0 dr (wA G ad S ++ F) z3 2 (nI 8) (by decide)) ⟨by decide, by decide⟩ ⟨(show 0 + 0 ≤ 1 by omega), (show 0 + 0 ≤ 6 by omega)⟩ rfl rfl (Nat.le_of_ble_eq_true rfl) dL_acts_345) (pc' := 348) rfl (fun r4 z4 _ => ?_)
      refine yy_perm (w' := wA G ad S ++ ((dr, .inr (10, [.int z4])) :: F)) List.perm_middle.symm ?_
      refine yc_i (yr_SW C (As := [.ref (ad 0), .int r3, .int r4]) (rest := []) lk_L_153 cd_L_request st_L_request (mL_request l hl0 G B0 ad ((dr, .inr (10, [.int z4])) :: F) S r3 r4 hR.1.1) ⟨by decide, by decide⟩ ⟨(show 0 + 1 ≤ 1 by omega), (show 0 + 6 ≤ 6 by omega)⟩ rfl rfl (Nat.le_of_ble_eq_true rfl) dL_acts_348) (pc' := 351) rfl (fun r5 u1 hw5 => ?_)
      refine yy_widen (cs2 := 1) (ss2 := 6) (show 0 + 1 ≤ 1 by omega) (show 0 + 6 ≤ 6 by omega) ?_
      subst hQ
      exact ye_i C hr (vp_nar_int _) (u1, z4) dL_acts_351 rfl (by decide) (by decide) (AB.ac hR (ab_request hR.1 hw5))
    · skip
      refine yy_tab C (tgt := 334) (off := 305) dL_acts_29 (by decide) (by decide) rfl (by decide) ?_
      refine yy_aload_n C 2 dL_acts_334 (pc' := 335) rfl rfl rfl ?_
      refine yy_aload_n C 4 dL_acts_335 (pc' := 336) rfl rfl rfl ?_
      refine yy_iconst C (v := (nI 3)) dL_acts_336 (pc' := 337) rfl (by decide) ?_
      refine yy_iconst C (v := (nI 5)) dL_acts_337 (pc' := 338) rfl (by decide) ?_
      refine yy_perm (w' := (dr, .inr (10, [.int z2])) :: (wA G ad S ++ F)) List.perm_middle ?_
      refine yc_i (yr_S C (As := [.ref (dr), .int (nI 3), .int (nI 5)]) (rest := [.ref (ad 0)]) lk_L_125 cd_L_number st_L_number (mL_number l G B0 dr (wA G ad S ++ F) z2 3 (nI 5) (by decide)) ⟨by decide, by decide⟩ ⟨(show 0 + 0 ≤ 1 by omega), (show 0 + 0 ≤ 6 by omega)⟩ rfl rfl (Nat.le_of_ble_eq_true rfl) dL_acts_338) (pc' := 341) rfl (fun r3 z3 _ => ?_)
      refine yy_perm (w' := wA G ad S ++ ((dr, .inr (10, [.int z3])) :: F)) List.perm_middle.symm ?_
      refine yy_aload_n C 4 dL_acts_341 (pc' := 342) rfl rfl rfl ?_
      refine yy_iconst C (v := (nI 2)) dL_acts_342 (pc' := 343) rfl (by decide) ?_
      refine yy_bipush C (v := (nI 8)) dL_acts_343 (pc' := 345) rfl (by decide) ?_
      refine yy_perm (w' := (dr, .inr (10, [.int z3])) :: (wA G ad S ++ F)) List.perm_middle ?_
      refine yc_i (yr_S C (As := [.ref (dr), .int (nI 2), .int (nI 8)]) (rest := [.int r3, .ref (ad 0)]) lk_L_125 cd_L_number st_L_number (mL_number l G B0 dr (wA G ad S ++ F) z3 2 (nI 8) (by decide)) ⟨by decide, by decide⟩ ⟨(show 0 + 0 ≤ 1 by omega), (show 0 + 0 ≤ 6 by omega)⟩ rfl rfl (Nat.le_of_ble_eq_true rfl) dL_acts_345) (pc' := 348) rfl (fun r4 z4 _ => ?_)
      refine yy_perm (w' := wA G ad S ++ ((dr, .inr (10, [.int z4])) :: F)) List.perm_middle.symm ?_
      refine yc_i (yr_SW C (As := [.ref (ad 0), .int r3, .int r4]) (rest := []) lk_L_153 cd_L_request st_L_request (mL_request l hl0 G B0 ad ((dr, .inr (10, [.int z4])) :: F) S r3 r4 hR.1.1) ⟨by decide, by decide⟩ ⟨(show 0 + 1 ≤ 1 by omega), (show 0 + 6 ≤ 6 by omega)⟩ rfl rfl (Nat.le_of_ble_eq_true rfl) dL_acts_348) (pc' := 351) rfl (fun r5 u1 hw5 => ?_)
      refine yy_widen (cs2 := 1) (ss2 := 6) (show 0 + 1 ≤ 1 by omega) (show 0 + 6 ≤ 6 by omega) ?_
      subst hQ
      exact ye_i C hr (vp_nar_int _) (u1, z4) dL_acts_351 rfl (by decide) (by decide) (AB.ac hR (ab_request hR.1 hw5))
    · skip
      refine yy_tab C (tgt := 334) (off := 305) dL_acts_29 (by decide) (by decide) rfl (by decide) ?_
      refine yy_aload_n C 2 dL_acts_334 (pc' := 335) rfl rfl rfl ?_
      refine yy_aload_n C 4 dL_acts_335 (pc' := 336) rfl rfl rfl ?_
      refine yy_iconst C (v := (nI 3)) dL_acts_336 (pc' := 337) rfl (by decide) ?_
      refine yy_iconst C (v := (nI 5)) dL_acts_337 (pc' := 338) rfl (by decide) ?_
      refine yy_perm (w' := (dr, .inr (10, [.int z2])) :: (wA G ad S ++ F)) List.perm_middle ?_
      refine yc_i (yr_S C (As := [.ref (dr), .int (nI 3), .int (nI 5)]) (rest := [.ref (ad 0)]) lk_L_125 cd_L_number st_L_number (mL_number l G B0 dr (wA G ad S ++ F) z2 3 (nI 5) (by decide)) ⟨by decide, by decide⟩ ⟨(show 0 + 0 ≤ 1 by omega), (show 0 + 0 ≤ 6 by omega)⟩ rfl rfl (Nat.le_of_ble_eq_true rfl) dL_acts_338) (pc' := 341) rfl (fun r3 z3 _ => ?_)
      refine yy_perm (w' := wA G ad S ++ ((dr, .inr (10, [.int z3])) :: F)) List.perm_middle.symm ?_
      refine yy_aload_n C 4 dL_acts_341 (pc' := 342) rfl rfl rfl ?_
      refine yy_iconst C (v := (nI 2)) dL_acts_342 (pc' := 343) rfl (by decide) ?_
      refine yy_bipush C (v := (nI 8)) dL_acts_343 (pc' := 345) rfl (by decide) ?_
      refine yy_perm (w' := (dr, .inr (10, [.int z3])) :: (wA G ad S ++ F)) List.perm_middle ?_
      refine yc_i (yr_S C (As := [.ref (dr), .int (nI 2), .int (nI 8)]) (rest := [.int r3, .ref (ad 0)]) lk_L_125 cd_L_number st_L_number (mL_number l G B0 dr (wA G ad S ++ F) z3 2 (nI 8) (by decide)) ⟨by decide, by decide⟩ ⟨(show 0 + 0 ≤ 1 by omega), (show 0 + 0 ≤ 6 by omega)⟩ rfl rfl (Nat.le_of_ble_eq_true rfl) dL_acts_345) (pc' := 348) rfl (fun r4 z4 _ => ?_)
      refine yy_perm (w' := wA G ad S ++ ((dr, .inr (10, [.int z4])) :: F)) List.perm_middle.symm ?_
      refine yc_i (yr_SW C (As := [.ref (ad 0), .int r3, .int r4]) (rest := []) lk_L_153 cd_L_request st_L_request (mL_request l hl0 G B0 ad ((dr, .inr (10, [.int z4])) :: F) S r3 r4 hR.1.1) ⟨by decide, by decide⟩ ⟨(show 0 + 1 ≤ 1 by omega), (show 0 + 6 ≤ 6 by omega)⟩ rfl rfl (Nat.le_of_ble_eq_true rfl) dL_acts_348) (pc' := 351) rfl (fun r5 u1 hw5 => ?_)
      refine yy_widen (cs2 := 1) (ss2 := 6) (show 0 + 1 ≤ 1 by omega) (show 0 + 6 ≤ 6 by omega) ?_
      subst hQ
      exact ye_i C hr (vp_nar_int _) (u1, z4) dL_acts_351 rfl (by decide) (by decide) (AB.ac hR (ab_request hR.1 hw5))
    · skip
      refine yy_tab C (tgt := 334) (off := 305) dL_acts_29 (by decide) (by decide) rfl (by decide) ?_
      refine yy_aload_n C 2 dL_acts_334 (pc' := 335) rfl rfl rfl ?_
      refine yy_aload_n C 4 dL_acts_335 (pc' := 336) rfl rfl rfl ?_
      refine yy_iconst C (v := (nI 3)) dL_acts_336 (pc' := 337) rfl (by decide) ?_
      refine yy_iconst C (v := (nI 5)) dL_acts_337 (pc' := 338) rfl (by decide) ?_
      refine yy_perm (w' := (dr, .inr (10, [.int z2])) :: (wA G ad S ++ F)) List.perm_middle ?_
      refine yc_i (yr_S C (As := [.ref (dr), .int (nI 3), .int (nI 5)]) (rest := [.ref (ad 0)]) lk_L_125 cd_L_number st_L_number (mL_number l G B0 dr (wA G ad S ++ F) z2 3 (nI 5) (by decide)) ⟨by decide, by decide⟩ ⟨(show 0 + 0 ≤ 1 by omega), (show 0 + 0 ≤ 6 by omega)⟩ rfl rfl (Nat.le_of_ble_eq_true rfl) dL_acts_338) (pc' := 341) rfl (fun r3 z3 _ => ?_)
      refine yy_perm (w' := wA G ad S ++ ((dr, .inr (10, [.int z3])) :: F)) List.perm_middle.symm ?_
      refine yy_aload_n C 4 dL_acts_341 (pc' := 342) rfl rfl rfl ?_
      refine yy_iconst C (v := (nI 2)) dL_acts_342 (pc' := 343) rfl (by decide) ?_
      refine yy_bipush C (v := (nI 8)) dL_acts_343 (pc' := 345) rfl (by decide) ?_
      refine yy_perm (w' := (dr, .inr (10, [.int z3])) :: (wA G ad S ++ F)) List.perm_middle ?_
      refine yc_i (yr_S C (As := [.ref (dr), .int (nI 2), .int (nI 8)]) (rest := [.int r3, .ref (ad 0)]) lk_L_125 cd_L_number st_L_number (mL_number l G B0 dr (wA G ad S ++ F) z3 2 (nI 8) (by decide)) ⟨by decide, by decide⟩ ⟨(show 0 + 0 ≤ 1 by omega), (show 0 + 0 ≤ 6 by omega)⟩ rfl rfl (Nat.le_of_ble_eq_true rfl) dL_acts_345) (pc' := 348) rfl (fun r4 z4 _ => ?_)
      refine yy_perm (w' := wA G ad S ++ ((dr, .inr (10, [.int z4])) :: F)) List.perm_middle.symm ?_
      refine yc_i (yr_SW C (As := [.ref (ad 0), .int r3, .int r4]) (rest := []) lk_L_153 cd_L_request st_L_request (mL_request l hl0 G B0 ad ((dr, .inr (10, [.int z4])) :: F) S r3 r4 hR.1.1) ⟨by decide, by decide⟩ ⟨(show 0 + 1 ≤ 1 by omega), (show 0 + 6 ≤ 6 by omega)⟩ rfl rfl (Nat.le_of_ble_eq_true rfl) dL_acts_348) (pc' := 351) rfl (fun r5 u1 hw5 => ?_)
      refine yy_widen (cs2 := 1) (ss2 := 6) (show 0 + 1 ≤ 1 by omega) (show 0 + 6 ≤ 6 by omega) ?_
      subst hQ
      exact ye_i C hr (vp_nar_int _) (u1, z4) dL_acts_351 rfl (by decide) (by decide) (AB.ac hR (ab_request hR.1 hw5))
    · skip
      refine yy_tab C (tgt := 352) (off := 323) dL_acts_29 (by decide) (by decide) rfl (by decide) ?_
      refine yy_aload_n C 2 dL_acts_352 (pc' := 353) rfl rfl rfl ?_
      refine yy_aload_n C 4 dL_acts_353 (pc' := 354) rfl rfl rfl ?_
      refine yy_iconst C (v := (nI 5)) dL_acts_354 (pc' := 355) rfl (by decide) ?_
      refine yy_bipush C (v := (nI 20)) dL_acts_355 (pc' := 357) rfl (by decide) ?_
      refine yy_perm (w' := (dr, .inr (10, [.int z2])) :: (wA G ad S ++ F)) List.perm_middle ?_
      refine yc_i (yr_S C (As := [.ref (dr), .int (nI 5), .int (nI 20)]) (rest := [.ref (ad 0)]) lk_L_125 cd_L_number st_L_number (mL_number l G B0 dr (wA G ad S ++ F) z2 5 (nI 20) (by decide)) ⟨by decide, by decide⟩ ⟨(show 0 + 0 ≤ 1 by omega), (show 0 + 0 ≤ 6 by omega)⟩ rfl rfl (Nat.le_of_ble_eq_true rfl) dL_acts_357) (pc' := 360) rfl (fun r3 z3 _ => ?_)
      refine yy_perm (w' := wA G ad S ++ ((dr, .inr (10, [.int z3])) :: F)) List.perm_middle.symm ?_
      refine yc_i (yr_SW C (As := [.ref (ad 0), .int r3]) (rest := []) lk_L_155 cd_L_answer st_L_answer (mL_answer l hl0 G B0 ad ((dr, .inr (10, [.int z3])) :: F) S r3 hR.1.1 hR.1.2.1) ⟨by decide, by decide⟩ ⟨(show 0 + 1 ≤ 1 by omega), (show 0 + 6 ≤ 6 by omega)⟩ rfl rfl (Nat.le_of_ble_eq_true rfl) dL_acts_360) (pc' := 363) rfl (fun r4 u1 hw4 => ?_)
      refine yy_widen (cs2 := 1) (ss2 := 6) (show 0 + 1 ≤ 1 by omega) (show 0 + 6 ≤ 6 by omega) ?_
      subst hQ
      exact ye_i C hr (vp_nar_int _) (u1, z3) dL_acts_363 rfl (by decide) (by decide) (AB.ac hR (ab_answer hR.1 hw4))
    · skip
      refine yy_tab C (tgt := 352) (off := 323) dL_acts_29 (by decide) (by decide) rfl (by decide) ?_
      refine yy_aload_n C 2 dL_acts_352 (pc' := 353) rfl rfl rfl ?_
      refine yy_aload_n C 4 dL_acts_353 (pc' := 354) rfl rfl rfl ?_
      refine yy_iconst C (v := (nI 5)) dL_acts_354 (pc' := 355) rfl (by decide) ?_
      refine yy_bipush C (v := (nI 20)) dL_acts_355 (pc' := 357) rfl (by decide) ?_
      refine yy_perm (w' := (dr, .inr (10, [.int z2])) :: (wA G ad S ++ F)) List.perm_middle ?_
      refine yc_i (yr_S C (As := [.ref (dr), .int (nI 5), .int (nI 20)]) (rest := [.ref (ad 0)]) lk_L_125 cd_L_number st_L_number (mL_number l G B0 dr (wA G ad S ++ F) z2 5 (nI 20) (by decide)) ⟨by decide, by decide⟩ ⟨(show 0 + 0 ≤ 1 by omega), (show 0 + 0 ≤ 6 by omega)⟩ rfl rfl (Nat.le_of_ble_eq_true rfl) dL_acts_357) (pc' := 360) rfl (fun r3 z3 _ => ?_)
      refine yy_perm (w' := wA G ad S ++ ((dr, .inr (10, [.int z3])) :: F)) List.perm_middle.symm ?_
      refine yc_i (yr_SW C (As := [.ref (ad 0), .int r3]) (rest := []) lk_L_155 cd_L_answer st_L_answer (mL_answer l hl0 G B0 ad ((dr, .inr (10, [.int z3])) :: F) S r3 hR.1.1 hR.1.2.1) ⟨by decide, by decide⟩ ⟨(show 0 + 1 ≤ 1 by omega), (show 0 + 6 ≤ 6 by omega)⟩ rfl rfl (Nat.le_of_ble_eq_true rfl) dL_acts_360) (pc' := 363) rfl (fun r4 u1 hw4 => ?_)
      refine yy_widen (cs2 := 1) (ss2 := 6) (show 0 + 1 ≤ 1 by omega) (show 0 + 6 ≤ 6 by omega) ?_
      subst hQ
      exact ye_i C hr (vp_nar_int _) (u1, z3) dL_acts_363 rfl (by decide) (by decide) (AB.ac hR (ab_answer hR.1 hw4))
    · skip
      refine yy_tab C (tgt := 352) (off := 323) dL_acts_29 (by decide) (by decide) rfl (by decide) ?_
      refine yy_aload_n C 2 dL_acts_352 (pc' := 353) rfl rfl rfl ?_
      refine yy_aload_n C 4 dL_acts_353 (pc' := 354) rfl rfl rfl ?_
      refine yy_iconst C (v := (nI 5)) dL_acts_354 (pc' := 355) rfl (by decide) ?_
      refine yy_bipush C (v := (nI 20)) dL_acts_355 (pc' := 357) rfl (by decide) ?_
      refine yy_perm (w' := (dr, .inr (10, [.int z2])) :: (wA G ad S ++ F)) List.perm_middle ?_
      refine yc_i (yr_S C (As := [.ref (dr), .int (nI 5), .int (nI 20)]) (rest := [.ref (ad 0)]) lk_L_125 cd_L_number st_L_number (mL_number l G B0 dr (wA G ad S ++ F) z2 5 (nI 20) (by decide)) ⟨by decide, by decide⟩ ⟨(show 0 + 0 ≤ 1 by omega), (show 0 + 0 ≤ 6 by omega)⟩ rfl rfl (Nat.le_of_ble_eq_true rfl) dL_acts_357) (pc' := 360) rfl (fun r3 z3 _ => ?_)
      refine yy_perm (w' := wA G ad S ++ ((dr, .inr (10, [.int z3])) :: F)) List.perm_middle.symm ?_
      refine yc_i (yr_SW C (As := [.ref (ad 0), .int r3]) (rest := []) lk_L_155 cd_L_answer st_L_answer (mL_answer l hl0 G B0 ad ((dr, .inr (10, [.int z3])) :: F) S r3 hR.1.1 hR.1.2.1) ⟨by decide, by decide⟩ ⟨(show 0 + 1 ≤ 1 by omega), (show 0 + 6 ≤ 6 by omega)⟩ rfl rfl (Nat.le_of_ble_eq_true rfl) dL_acts_360) (pc' := 363) rfl (fun r4 u1 hw4 => ?_)
      refine yy_widen (cs2 := 1) (ss2 := 6) (show 0 + 1 ≤ 1 by omega) (show 0 + 6 ≤ 6 by omega) ?_
      subst hQ
      exact ye_i C hr (vp_nar_int _) (u1, z3) dL_acts_363 rfl (by decide) (by decide) (AB.ac hR (ab_answer hR.1 hw4))
    · skip
      refine yy_tab C (tgt := 352) (off := 323) dL_acts_29 (by decide) (by decide) rfl (by decide) ?_
      refine yy_aload_n C 2 dL_acts_352 (pc' := 353) rfl rfl rfl ?_
      refine yy_aload_n C 4 dL_acts_353 (pc' := 354) rfl rfl rfl ?_
      refine yy_iconst C (v := (nI 5)) dL_acts_354 (pc' := 355) rfl (by decide) ?_
      refine yy_bipush C (v := (nI 20)) dL_acts_355 (pc' := 357) rfl (by decide) ?_
      refine yy_perm (w' := (dr, .inr (10, [.int z2])) :: (wA G ad S ++ F)) List.perm_middle ?_
      refine yc_i (yr_S C (As := [.ref (dr), .int (nI 5), .int (nI 20)]) (rest := [.ref (ad 0)]) lk_L_125 cd_L_number st_L_number (mL_number l G B0 dr (wA G ad S ++ F) z2 5 (nI 20) (by decide)) ⟨by decide, by decide⟩ ⟨(show 0 + 0 ≤ 1 by omega), (show 0 + 0 ≤ 6 by omega)⟩ rfl rfl (Nat.le_of_ble_eq_true rfl) dL_acts_357) (pc' := 360) rfl (fun r3 z3 _ => ?_)
      refine yy_perm (w' := wA G ad S ++ ((dr, .inr (10, [.int z3])) :: F)) List.perm_middle.symm ?_
      refine yc_i (yr_SW C (As := [.ref (ad 0), .int r3]) (rest := []) lk_L_155 cd_L_answer st_L_answer (mL_answer l hl0 G B0 ad ((dr, .inr (10, [.int z3])) :: F) S r3 hR.1.1 hR.1.2.1) ⟨by decide, by decide⟩ ⟨(show 0 + 1 ≤ 1 by omega), (show 0 + 6 ≤ 6 by omega)⟩ rfl rfl (Nat.le_of_ble_eq_true rfl) dL_acts_360) (pc' := 363) rfl (fun r4 u1 hw4 => ?_)
      refine yy_widen (cs2 := 1) (ss2 := 6) (show 0 + 1 ≤ 1 by omega) (show 0 + 6 ≤ 6 by omega) ?_
      subst hQ
      exact ye_i C hr (vp_nar_int _) (u1, z3) dL_acts_363 rfl (by decide) (by decide) (AB.ac hR (ab_answer hR.1 hw4))
    · skip
      refine yy_tab C (tgt := 364) (off := 335) dL_acts_29 (by decide) (by decide) rfl (by decide) ?_
      refine yy_aload_n C 2 dL_acts_364 (pc' := 365) rfl rfl rfl ?_
      refine yy_aload_n C 4 dL_acts_365 (pc' := 366) rfl rfl rfl ?_
      refine yy_iconst C (v := (nI 5)) dL_acts_366 (pc' := 367) rfl (by decide) ?_
      refine yy_bipush C (v := (nI 20)) dL_acts_367 (pc' := 369) rfl (by decide) ?_
      refine yy_perm (w' := (dr, .inr (10, [.int z2])) :: (wA G ad S ++ F)) List.perm_middle ?_
      refine yc_i (yr_S C (As := [.ref (dr), .int (nI 5), .int (nI 20)]) (rest := [.ref (ad 0)]) lk_L_125 cd_L_number st_L_number (mL_number l G B0 dr (wA G ad S ++ F) z2 5 (nI 20) (by decide)) ⟨by decide, by decide⟩ ⟨(show 0 + 0 ≤ 1 by omega), (show 0 + 0 ≤ 6 by omega)⟩ rfl rfl (Nat.le_of_ble_eq_true rfl) dL_acts_369) (pc' := 372) rfl (fun r3 z3 _ => ?_)
      refine yy_perm (w' := wA G ad S ++ ((dr, .inr (10, [.int z3])) :: F)) List.perm_middle.symm ?_
      refine yc_i (yr_SW C (As := [.ref (ad 0), .int r3]) (rest := []) lk_L_157 cd_L_withdraw st_L_withdraw (mL_withdraw l hl0 G B0 ad ((dr, .inr (10, [.int z3])) :: F) S r3 hR.1.1) ⟨by decide, by decide⟩ ⟨(show 0 + 1 ≤ 1 by omega), (show 0 + 6 ≤ 6 by omega)⟩ rfl rfl (Nat.le_of_ble_eq_true rfl) dL_acts_372) (pc' := 375) rfl (fun r4 u1 hw4 => ?_)
      refine yy_widen (cs2 := 1) (ss2 := 6) (show 0 + 1 ≤ 1 by omega) (show 0 + 6 ≤ 6 by omega) ?_
      subst hQ
      exact ye_i C hr (vp_nar_int _) (u1, z3) dL_acts_375 rfl (by decide) (by decide) (AB.ac hR (ab_withdraw hR.1 hw4))
    · skip
      refine yy_tab C (tgt := 376) (off := 347) dL_acts_29 (by decide) (by decide) rfl (by decide) ?_
      refine yy_aload_n C 2 dL_acts_376 (pc' := 377) rfl rfl rfl ?_
      refine yy_iload C 1 dL_acts_377 (pc' := 379) rfl rfl ?_
      refine yy_if_eq C dL_acts_379 (pc' := 382) rfl (tgt := 387) (by decide) (fun c_379 => ?_) (fun c_379 => ?_)
      · skip
        refine yy_aload_n C 4 dL_acts_387 (pc' := 388) rfl rfl rfl ?_
        refine yy_bipush C (v := (nI 12)) dL_acts_388 (pc' := 390) rfl (by decide) ?_
        refine yy_perm (w' := (dr, .inr (10, [.int z2])) :: (wA G ad S ++ F)) List.perm_middle ?_
        refine yc_i (yr_V C (As := [.int (nI 12)]) (rest := [.ref (ad 0)]) lk_L_115 cd_X7_next im_X7_next se_X7_next (mX7_next l G B0 dr (wA G ad S ++ F) z2 12 (by decide)) ⟨by decide, by decide⟩ ⟨(show 0 + 0 ≤ 1 by omega), (show 0 + 0 ≤ 6 by omega)⟩ 0 rfl rfl rfl rfl (Nat.le_of_ble_eq_true rfl) dL_acts_390) (pc' := 393) rfl (fun r3 z3 hw3 => ?_)
        refine yy_perm (w' := wA G ad S ++ ((dr, .inr (10, [.int z3])) :: F)) List.perm_middle.symm ?_
        refine yc_i (yr_SW C (As := [.ref (ad 0), .int r3]) (rest := []) lk_L_159 cd_L_setPrice st_L_setPrice (mL_setPrice l hl0 G B0 ad ((dr, .inr (10, [.int z3])) :: F) S r3 hR.1.1) ⟨by decide, by decide⟩ ⟨(show 0 + 1 ≤ 1 by omega), (show 0 + 6 ≤ 6 by omega)⟩ rfl rfl (Nat.le_of_ble_eq_true rfl) dL_acts_393) (pc' := 396) rfl (fun r4 u1 hw4 => ?_)
        refine yy_widen (cs2 := 1) (ss2 := 6) (show 0 + 1 ≤ 1 by omega) (show 0 + 6 ≤ 6 by omega) ?_
        subst hQ
        exact ye_i C hr (vp_nar_int _) (u1, z3) dL_acts_396 rfl (by decide) (by decide) (AB.ac hR (ab_setPrice hR.1 hw4))
      · skip
        exact absurd c_379 (by decide)
    · skip
      refine yy_tab C (tgt := 397) (off := 368) dL_acts_29 (by decide) (by decide) rfl (by decide) ?_
      refine yy_aload_n C 2 dL_acts_397 (pc' := 398) rfl rfl rfl ?_
      refine yy_aload_n C 4 dL_acts_398 (pc' := 399) rfl rfl rfl ?_
      refine yy_iconst C (v := (nI 3)) dL_acts_399 (pc' := 400) rfl (by decide) ?_
      refine yy_iconst C (v := (nI 5)) dL_acts_400 (pc' := 401) rfl (by decide) ?_
      refine yy_perm (w' := (dr, .inr (10, [.int z2])) :: (wA G ad S ++ F)) List.perm_middle ?_
      refine yc_i (yr_S C (As := [.ref (dr), .int (nI 3), .int (nI 5)]) (rest := [.ref (ad 0)]) lk_L_125 cd_L_number st_L_number (mL_number l G B0 dr (wA G ad S ++ F) z2 3 (nI 5) (by decide)) ⟨by decide, by decide⟩ ⟨(show 0 + 0 ≤ 1 by omega), (show 0 + 0 ≤ 6 by omega)⟩ rfl rfl (Nat.le_of_ble_eq_true rfl) dL_acts_401) (pc' := 404) rfl (fun r3 z3 _ => ?_)
      refine yy_perm (w' := wA G ad S ++ ((dr, .inr (10, [.int z3])) :: F)) List.perm_middle.symm ?_
      refine yy_iconst C (v := (nI 1)) dL_acts_404 (pc' := 405) rfl (by decide) ?_
      refine yy_aload_n C 4 dL_acts_405 (pc' := 406) rfl rfl rfl ?_
      refine yy_bipush C (v := (nI 30)) dL_acts_406 (pc' := 408) rfl (by decide) ?_
      refine yy_perm (w' := (dr, .inr (10, [.int z3])) :: (wA G ad S ++ F)) List.perm_middle ?_
      refine yc_i (yr_V C (As := [.int (nI 30)]) (rest := [.int (nI 1), .int r3, .ref (ad 0)]) lk_L_115 cd_X7_next im_X7_next se_X7_next (mX7_next l G B0 dr (wA G ad S ++ F) z3 30 (by decide)) ⟨by decide, by decide⟩ ⟨(show 0 + 0 ≤ 1 by omega), (show 0 + 0 ≤ 6 by omega)⟩ 0 rfl rfl rfl rfl (Nat.le_of_ble_eq_true rfl) dL_acts_408) (pc' := 411) rfl (fun r4 z4 hw4 => ?_)
      refine yy_perm (w' := wA G ad S ++ ((dr, .inr (10, [.int z4])) :: F)) List.perm_middle.symm ?_
      refine yy_iadd C (v := ((nI 1) + r4)) dL_acts_411 (pc' := 412) rfl rfl ?_
      refine yc_i (yr_SW C (As := [.ref (ad 0), .int r3, .int ((nI 1) + r4)]) (rest := []) lk_L_161 cd_L_pay st_L_pay (mL_pay l hl0 G B0 ad ((dr, .inr (10, [.int z4])) :: F) S r3 ((nI 1) + r4) hR.1.1) ⟨by decide, by decide⟩ ⟨(show 0 + 1 ≤ 1 by omega), (show 0 + 6 ≤ 6 by omega)⟩ rfl rfl (Nat.le_of_ble_eq_true rfl) dL_acts_412) (pc' := 415) rfl (fun r5 u1 hw5 => ?_)
      refine yy_widen (cs2 := 1) (ss2 := 6) (show 0 + 1 ≤ 1 by omega) (show 0 + 6 ≤ 6 by omega) ?_
      subst hQ
      exact ye_i C hr (vp_nar_int _) (u1, z4) dL_acts_415 rfl (by decide) (by decide) (AB.ac hR (ab_pay hR.1 hw5))
    · skip
      refine yy_tab C (tgt := 397) (off := 368) dL_acts_29 (by decide) (by decide) rfl (by decide) ?_
      refine yy_aload_n C 2 dL_acts_397 (pc' := 398) rfl rfl rfl ?_
      refine yy_aload_n C 4 dL_acts_398 (pc' := 399) rfl rfl rfl ?_
      refine yy_iconst C (v := (nI 3)) dL_acts_399 (pc' := 400) rfl (by decide) ?_
      refine yy_iconst C (v := (nI 5)) dL_acts_400 (pc' := 401) rfl (by decide) ?_
      refine yy_perm (w' := (dr, .inr (10, [.int z2])) :: (wA G ad S ++ F)) List.perm_middle ?_
      refine yc_i (yr_S C (As := [.ref (dr), .int (nI 3), .int (nI 5)]) (rest := [.ref (ad 0)]) lk_L_125 cd_L_number st_L_number (mL_number l G B0 dr (wA G ad S ++ F) z2 3 (nI 5) (by decide)) ⟨by decide, by decide⟩ ⟨(show 0 + 0 ≤ 1 by omega), (show 0 + 0 ≤ 6 by omega)⟩ rfl rfl (Nat.le_of_ble_eq_true rfl) dL_acts_401) (pc' := 404) rfl (fun r3 z3 _ => ?_)
      refine yy_perm (w' := wA G ad S ++ ((dr, .inr (10, [.int z3])) :: F)) List.perm_middle.symm ?_
      refine yy_iconst C (v := (nI 1)) dL_acts_404 (pc' := 405) rfl (by decide) ?_
      refine yy_aload_n C 4 dL_acts_405 (pc' := 406) rfl rfl rfl ?_
      refine yy_bipush C (v := (nI 30)) dL_acts_406 (pc' := 408) rfl (by decide) ?_
      refine yy_perm (w' := (dr, .inr (10, [.int z3])) :: (wA G ad S ++ F)) List.perm_middle ?_
      refine yc_i (yr_V C (As := [.int (nI 30)]) (rest := [.int (nI 1), .int r3, .ref (ad 0)]) lk_L_115 cd_X7_next im_X7_next se_X7_next (mX7_next l G B0 dr (wA G ad S ++ F) z3 30 (by decide)) ⟨by decide, by decide⟩ ⟨(show 0 + 0 ≤ 1 by omega), (show 0 + 0 ≤ 6 by omega)⟩ 0 rfl rfl rfl rfl (Nat.le_of_ble_eq_true rfl) dL_acts_408) (pc' := 411) rfl (fun r4 z4 hw4 => ?_)
      refine yy_perm (w' := wA G ad S ++ ((dr, .inr (10, [.int z4])) :: F)) List.perm_middle.symm ?_
      refine yy_iadd C (v := ((nI 1) + r4)) dL_acts_411 (pc' := 412) rfl rfl ?_
      refine yc_i (yr_SW C (As := [.ref (ad 0), .int r3, .int ((nI 1) + r4)]) (rest := []) lk_L_161 cd_L_pay st_L_pay (mL_pay l hl0 G B0 ad ((dr, .inr (10, [.int z4])) :: F) S r3 ((nI 1) + r4) hR.1.1) ⟨by decide, by decide⟩ ⟨(show 0 + 1 ≤ 1 by omega), (show 0 + 6 ≤ 6 by omega)⟩ rfl rfl (Nat.le_of_ble_eq_true rfl) dL_acts_412) (pc' := 415) rfl (fun r5 u1 hw5 => ?_)
      refine yy_widen (cs2 := 1) (ss2 := 6) (show 0 + 1 ≤ 1 by omega) (show 0 + 6 ≤ 6 by omega) ?_
      subst hQ
      exact ye_i C hr (vp_nar_int _) (u1, z4) dL_acts_415 rfl (by decide) (by decide) (AB.ac hR (ab_pay hR.1 hw5))
    · skip
      refine yy_tabO C (tgt := 416) dL_acts_29 (by decide) (by decide) (by decide) ?_
      refine yy_aload_n C 2 dL_acts_416 (pc' := 417) rfl rfl rfl ?_
      refine yy_iload C 1 dL_acts_417 (pc' := 419) rfl rfl ?_
      refine yy_if_eq C dL_acts_419 (pc' := 422) rfl (tgt := 427) (by decide) (fun c_419 => ?_) (fun c_419 => ?_)
      · skip
        refine yy_iconst C (v := (nI 1)) dL_acts_427 (pc' := 428) rfl (by decide) ?_
        refine yy_aload_n C 4 dL_acts_428 (pc' := 429) rfl rfl rfl ?_
        refine yy_bipush C (v := (nI 9)) dL_acts_429 (pc' := 431) rfl (by decide) ?_
        refine yy_perm (w' := (dr, .inr (10, [.int z2])) :: (wA G ad S ++ F)) List.perm_middle ?_
        refine yc_i (yr_V C (As := [.int (nI 9)]) (rest := [.int (nI 1), .ref (ad 0)]) lk_L_115 cd_X7_next im_X7_next se_X7_next (mX7_next l G B0 dr (wA G ad S ++ F) z2 9 (by decide)) ⟨by decide, by decide⟩ ⟨(show 0 + 0 ≤ 1 by omega), (show 0 + 0 ≤ 6 by omega)⟩ 0 rfl rfl rfl rfl (Nat.le_of_ble_eq_true rfl) dL_acts_431) (pc' := 434) rfl (fun r3 z3 hw3 => ?_)
        refine yy_perm (w' := wA G ad S ++ ((dr, .inr (10, [.int z3])) :: F)) List.perm_middle.symm ?_
        refine yy_iadd C (v := ((nI 1) + r3)) dL_acts_434 (pc' := 435) rfl rfl ?_
        refine yc_i (yr_SW C (As := [.ref (ad 0), .int ((nI 1) + r3)]) (rest := []) lk_L_163 cd_L_pass st_L_pass (mL_pass l hl0 G B0 ad ((dr, .inr (10, [.int z3])) :: F) S ((nI 1) + r3) hR.1.1) ⟨by decide, by decide⟩ ⟨(show 0 + 1 ≤ 1 by omega), (show 0 + 6 ≤ 6 by omega)⟩ rfl rfl (Nat.le_of_ble_eq_true rfl) dL_acts_435) (pc' := 438) rfl (fun r4 u1 hw4 => ?_)
        refine yy_widen (cs2 := 1) (ss2 := 6) (show 0 + 1 ≤ 1 by omega) (show 0 + 6 ≤ 6 by omega) ?_
        subst hQ
        exact ye_i C hr (vp_nar_int _) (u1, z3) dL_acts_438 rfl (by decide) (by decide) (AB.ac hR (ab_pass hR.1 hw4))
      · skip
        exact absurd c_419 (by decide)
    · skip
      refine yy_tabO C (tgt := 416) dL_acts_29 (by decide) (by decide) (by decide) ?_
      refine yy_aload_n C 2 dL_acts_416 (pc' := 417) rfl rfl rfl ?_
      refine yy_iload C 1 dL_acts_417 (pc' := 419) rfl rfl ?_
      refine yy_if_eq C dL_acts_419 (pc' := 422) rfl (tgt := 427) (by decide) (fun c_419 => ?_) (fun c_419 => ?_)
      · skip
        refine yy_iconst C (v := (nI 1)) dL_acts_427 (pc' := 428) rfl (by decide) ?_
        refine yy_aload_n C 4 dL_acts_428 (pc' := 429) rfl rfl rfl ?_
        refine yy_bipush C (v := (nI 9)) dL_acts_429 (pc' := 431) rfl (by decide) ?_
        refine yy_perm (w' := (dr, .inr (10, [.int z2])) :: (wA G ad S ++ F)) List.perm_middle ?_
        refine yc_i (yr_V C (As := [.int (nI 9)]) (rest := [.int (nI 1), .ref (ad 0)]) lk_L_115 cd_X7_next im_X7_next se_X7_next (mX7_next l G B0 dr (wA G ad S ++ F) z2 9 (by decide)) ⟨by decide, by decide⟩ ⟨(show 0 + 0 ≤ 1 by omega), (show 0 + 0 ≤ 6 by omega)⟩ 0 rfl rfl rfl rfl (Nat.le_of_ble_eq_true rfl) dL_acts_431) (pc' := 434) rfl (fun r3 z3 hw3 => ?_)
        refine yy_perm (w' := wA G ad S ++ ((dr, .inr (10, [.int z3])) :: F)) List.perm_middle.symm ?_
        refine yy_iadd C (v := ((nI 1) + r3)) dL_acts_434 (pc' := 435) rfl rfl ?_
        refine yc_i (yr_SW C (As := [.ref (ad 0), .int ((nI 1) + r3)]) (rest := []) lk_L_163 cd_L_pass st_L_pass (mL_pass l hl0 G B0 ad ((dr, .inr (10, [.int z3])) :: F) S ((nI 1) + r3) hR.1.1) ⟨by decide, by decide⟩ ⟨(show 0 + 1 ≤ 1 by omega), (show 0 + 6 ≤ 6 by omega)⟩ rfl rfl (Nat.le_of_ble_eq_true rfl) dL_acts_435) (pc' := 438) rfl (fun r4 u1 hw4 => ?_)
        refine yy_widen (cs2 := 1) (ss2 := 6) (show 0 + 1 ≤ 1 by omega) (show 0 + 6 ≤ 6 by omega) ?_
        subst hQ
        exact ye_i C hr (vp_nar_int _) (u1, z3) dL_acts_438 rfl (by decide) (by decide) (AB.ac hR (ab_pass hR.1 hw4))
      · skip
        exact absurd c_419 (by decide)
    · skip
      refine yy_tabO C (tgt := 416) dL_acts_29 (by decide) (by decide) (by decide) ?_
      refine yy_aload_n C 2 dL_acts_416 (pc' := 417) rfl rfl rfl ?_
      refine yy_iload C 1 dL_acts_417 (pc' := 419) rfl rfl ?_
      refine yy_if_eq C dL_acts_419 (pc' := 422) rfl (tgt := 427) (by decide) (fun c_419 => ?_) (fun c_419 => ?_)
      · skip
        refine yy_iconst C (v := (nI 1)) dL_acts_427 (pc' := 428) rfl (by decide) ?_
        refine yy_aload_n C 4 dL_acts_428 (pc' := 429) rfl rfl rfl ?_
        refine yy_bipush C (v := (nI 9)) dL_acts_429 (pc' := 431) rfl (by decide) ?_
        refine yy_perm (w' := (dr, .inr (10, [.int z2])) :: (wA G ad S ++ F)) List.perm_middle ?_
        refine yc_i (yr_V C (As := [.int (nI 9)]) (rest := [.int (nI 1), .ref (ad 0)]) lk_L_115 cd_X7_next im_X7_next se_X7_next (mX7_next l G B0 dr (wA G ad S ++ F) z2 9 (by decide)) ⟨by decide, by decide⟩ ⟨(show 0 + 0 ≤ 1 by omega), (show 0 + 0 ≤ 6 by omega)⟩ 0 rfl rfl rfl rfl (Nat.le_of_ble_eq_true rfl) dL_acts_431) (pc' := 434) rfl (fun r3 z3 hw3 => ?_)
        refine yy_perm (w' := wA G ad S ++ ((dr, .inr (10, [.int z3])) :: F)) List.perm_middle.symm ?_
        refine yy_iadd C (v := ((nI 1) + r3)) dL_acts_434 (pc' := 435) rfl rfl ?_
        refine yc_i (yr_SW C (As := [.ref (ad 0), .int ((nI 1) + r3)]) (rest := []) lk_L_163 cd_L_pass st_L_pass (mL_pass l hl0 G B0 ad ((dr, .inr (10, [.int z3])) :: F) S ((nI 1) + r3) hR.1.1) ⟨by decide, by decide⟩ ⟨(show 0 + 1 ≤ 1 by omega), (show 0 + 6 ≤ 6 by omega)⟩ rfl rfl (Nat.le_of_ble_eq_true rfl) dL_acts_435) (pc' := 438) rfl (fun r4 u1 hw4 => ?_)
        refine yy_widen (cs2 := 1) (ss2 := 6) (show 0 + 1 ≤ 1 by omega) (show 0 + 6 ≤ 6 by omega) ?_
        subst hQ
        exact ye_i C hr (vp_nar_int _) (u1, z3) dL_acts_438 rfl (by decide) (by decide) (AB.ac hR (ab_pass hR.1 hw4))
      · skip
        exact absurd c_419 (by decide)
  · skip
    refine yy_iconst C (v := (nI 1)) dL_acts_9 (pc' := 10) rfl (by decide) ?_
    refine yy_goto C (tgt := 14) dL_acts_10 (by decide) ?_
    refine yy_istore C (L' := [(4, .int (nI 1)), (0, .ref (ad 0)), (1, .int (nI j)), (2, .ref (dr)), (3, .int (nI n))]) dL_acts_14 (pc' := 16) rfl (by decide) rfl ?_
    refine yy_aload_n C 3 dL_acts_16 (pc' := 17) rfl rfl rfl ?_
    refine yy_iload_n C 4 dL_acts_17 (pc' := 18) rfl rfl rfl ?_
    refine yy_bipush C (v := (nI 40)) dL_acts_18 (pc' := 20) rfl (by decide) ?_
    refine yy_perm (w' := (dr, .inr (10, [.int z1])) :: (wA G ad S ++ F)) List.perm_middle ?_
    refine yc_i (yr_S C (As := [.ref (dr), .int (nI n), .int (nI 40)]) (rest := []) lk_L_125 cd_L_number st_L_number (mL_number l G B0 dr (wA G ad S ++ F) z1 n (nI 40) (by omega)) ⟨by decide, by decide⟩ ⟨(show 0 + 0 ≤ 1 by omega), (show 0 + 0 ≤ 6 by omega)⟩ rfl rfl (Nat.le_of_ble_eq_true rfl) dL_acts_20) (pc' := 23) rfl (fun r2 z2 _ => ?_)
    refine yy_perm (w' := wA G ad S ++ ((dr, .inr (10, [.int z2])) :: F)) List.perm_middle.symm ?_
    refine yy_istore C (L' := [(5, .int r2), (4, .int (nI 1)), (0, .ref (ad 0)), (1, .int (nI j)), (2, .ref (dr)), (3, .int (nI n))]) dL_acts_23 (pc' := 25) rfl (by decide) rfl ?_
    refine yy_iload_n C 3 dL_acts_25 (pc' := 26) rfl rfl rfl ?_
    refine yy_bipush C (v := (nI 28)) dL_acts_26 (pc' := 28) rfl (by decide) ?_
    refine yy_irem C (v := (nI (j % 28))) dL_acts_28 (pc' := 29) rfl (by decide) (pk_rem (by omega) (by decide) (by decide)) ?_
    obtain ⟨c_, hc_, e_⟩ : ∃ c_, c_ < 28 ∧ j % 28 = c_ := ⟨_, Nat.mod_lt _ (by decide), rfl⟩
    rw [e_] at hQ ⊢
    rcases (show c_ = 0 ∨ c_ = 1 ∨ c_ = 2 ∨ c_ = 3 ∨ c_ = 4 ∨ c_ = 5 ∨ c_ = 6 ∨ c_ = 7 ∨ c_ = 8 ∨ c_ = 9 ∨ c_ = 10 ∨ c_ = 11 ∨ c_ = 12 ∨ c_ = 13 ∨ c_ = 14 ∨ c_ = 15 ∨ c_ = 16 ∨ c_ = 17 ∨ c_ = 18 ∨ c_ = 19 ∨ c_ = 20 ∨ c_ = 21 ∨ c_ = 22 ∨ c_ = 23 ∨ c_ = 24 ∨ c_ = 25 ∨ c_ = 26 ∨ c_ = 27 by omega) with rfl | rfl | rfl | rfl | rfl | rfl | rfl | rfl | rfl | rfl | rfl | rfl | rfl | rfl | rfl | rfl | rfl | rfl | rfl | rfl | rfl | rfl | rfl | rfl | rfl | rfl | rfl | rfl
    · skip
      refine yy_tab C (tgt := 144) (off := 115) dL_acts_29 (by decide) (by decide) rfl (by decide) ?_
      refine yy_aload_n C 2 dL_acts_144 (pc' := 145) rfl rfl rfl ?_
      refine yc_i (yr_SW C (As := [.ref (ad 0)]) (rest := []) lk_L_131 cd_L_addDocument st_L_addDocument (mL_addDocument l hl0 G B0 ad ((dr, .inr (10, [.int z2])) :: F) S hR.1.1) ⟨by decide, by decide⟩ ⟨(show 0 + 1 ≤ 1 by omega), (show 0 + 6 ≤ 6 by omega)⟩ rfl rfl (Nat.le_of_ble_eq_true rfl) dL_acts_145) (pc' := 148) rfl (fun r3 u1 hw3 => ?_)
      refine yy_widen (cs2 := 1) (ss2 := 6) (show 0 + 1 ≤ 1 by omega) (show 0 + 6 ≤ 6 by omega) ?_
      subst hQ
      exact ye_i C hr (vp_nar_int _) (u1, z2) dL_acts_148 rfl (by decide) (by decide) (AB.ac hR (ab_addDocument hR.1 hw3))
    · skip
      refine yy_tab C (tgt := 149) (off := 120) dL_acts_29 (by decide) (by decide) rfl (by decide) ?_
      refine yy_aload_n C 2 dL_acts_149 (pc' := 150) rfl rfl rfl ?_
      refine yy_aload_n C 4 dL_acts_150 (pc' := 151) rfl rfl rfl ?_
      refine yy_iconst C (v := (nI 2)) dL_acts_151 (pc' := 152) rfl (by decide) ?_
      refine yy_bipush C (v := (nI 8)) dL_acts_152 (pc' := 154) rfl (by decide) ?_
      refine yy_perm (w' := (dr, .inr (10, [.int z2])) :: (wA G ad S ++ F)) List.perm_middle ?_
      refine yc_i (yr_S C (As := [.ref (dr), .int (nI 2), .int (nI 8)]) (rest := [.ref (ad 0)]) lk_L_125 cd_L_number st_L_number (mL_number l G B0 dr (wA G ad S ++ F) z2 2 (nI 8) (by decide)) ⟨by decide, by decide⟩ ⟨(show 0 + 0 ≤ 1 by omega), (show 0 + 0 ≤ 6 by omega)⟩ rfl rfl (Nat.le_of_ble_eq_true rfl) dL_acts_154) (pc' := 157) rfl (fun r3 z3 _ => ?_)
      refine yy_perm (w' := wA G ad S ++ ((dr, .inr (10, [.int z3])) :: F)) List.perm_middle.symm ?_
      refine yy_iload C 1 dL_acts_157 (pc' := 159) rfl rfl ?_
      refine yy_if_eq C dL_acts_159 (pc' := 162) rfl (tgt := 168) (by decide) (fun c_159 => ?_) (fun c_159 => ?_)
      · skip
        exact absurd c_159 (by decide)
      · skip
        refine yy_sipush C (v := (nI 10000)) dL_acts_162 (pc' := 165) rfl (by decide) ?_
        refine yy_goto C (tgt := 174) dL_acts_165 (by decide) ?_
        refine yc_i (yr_SW C (As := [.ref (ad 0), .int r3, .int (nI 10000)]) (rest := []) lk_L_134 cd_L_addLine st_L_addLine (mL_addLine l hl0 G B0 ad ((dr, .inr (10, [.int z3])) :: F) S r3 (nI 10000) hR.1.1) ⟨by decide, by decide⟩ ⟨(show 0 + 1 ≤ 1 by omega), (show 0 + 6 ≤ 6 by omega)⟩ rfl rfl (Nat.le_of_ble_eq_true rfl) dL_acts_174) (pc' := 177) rfl (fun r4 u1 hw4 => ?_)
        refine yy_widen (cs2 := 1) (ss2 := 6) (show 0 + 1 ≤ 1 by omega) (show 0 + 6 ≤ 6 by omega) ?_
        subst hQ
        exact ye_i C hr (vp_nar_int _) (u1, z3) dL_acts_177 rfl (by decide) (by decide) (AB.ac hR (ab_addLine hR.1 hw4))
    · skip
      refine yy_tab C (tgt := 149) (off := 120) dL_acts_29 (by decide) (by decide) rfl (by decide) ?_
      refine yy_aload_n C 2 dL_acts_149 (pc' := 150) rfl rfl rfl ?_
      refine yy_aload_n C 4 dL_acts_150 (pc' := 151) rfl rfl rfl ?_
      refine yy_iconst C (v := (nI 2)) dL_acts_151 (pc' := 152) rfl (by decide) ?_
      refine yy_bipush C (v := (nI 8)) dL_acts_152 (pc' := 154) rfl (by decide) ?_
      refine yy_perm (w' := (dr, .inr (10, [.int z2])) :: (wA G ad S ++ F)) List.perm_middle ?_
      refine yc_i (yr_S C (As := [.ref (dr), .int (nI 2), .int (nI 8)]) (rest := [.ref (ad 0)]) lk_L_125 cd_L_number st_L_number (mL_number l G B0 dr (wA G ad S ++ F) z2 2 (nI 8) (by decide)) ⟨by decide, by decide⟩ ⟨(show 0 + 0 ≤ 1 by omega), (show 0 + 0 ≤ 6 by omega)⟩ rfl rfl (Nat.le_of_ble_eq_true rfl) dL_acts_154) (pc' := 157) rfl (fun r3 z3 _ => ?_)
      refine yy_perm (w' := wA G ad S ++ ((dr, .inr (10, [.int z3])) :: F)) List.perm_middle.symm ?_
      refine yy_iload C 1 dL_acts_157 (pc' := 159) rfl rfl ?_
      refine yy_if_eq C dL_acts_159 (pc' := 162) rfl (tgt := 168) (by decide) (fun c_159 => ?_) (fun c_159 => ?_)
      · skip
        exact absurd c_159 (by decide)
      · skip
        refine yy_sipush C (v := (nI 10000)) dL_acts_162 (pc' := 165) rfl (by decide) ?_
        refine yy_goto C (tgt := 174) dL_acts_165 (by decide) ?_
        refine yc_i (yr_SW C (As := [.ref (ad 0), .int r3, .int (nI 10000)]) (rest := []) lk_L_134 cd_L_addLine st_L_addLine (mL_addLine l hl0 G B0 ad ((dr, .inr (10, [.int z3])) :: F) S r3 (nI 10000) hR.1.1) ⟨by decide, by decide⟩ ⟨(show 0 + 1 ≤ 1 by omega), (show 0 + 6 ≤ 6 by omega)⟩ rfl rfl (Nat.le_of_ble_eq_true rfl) dL_acts_174) (pc' := 177) rfl (fun r4 u1 hw4 => ?_)
        refine yy_widen (cs2 := 1) (ss2 := 6) (show 0 + 1 ≤ 1 by omega) (show 0 + 6 ≤ 6 by omega) ?_
        subst hQ
        exact ye_i C hr (vp_nar_int _) (u1, z3) dL_acts_177 rfl (by decide) (by decide) (AB.ac hR (ab_addLine hR.1 hw4))
    · skip
      refine yy_tab C (tgt := 178) (off := 149) dL_acts_29 (by decide) (by decide) rfl (by decide) ?_
      refine yy_aload_n C 2 dL_acts_178 (pc' := 179) rfl rfl rfl ?_
      refine yy_iload C 0 dL_acts_179 (pc' := 181) rfl rfl ?_
      refine yy_iload C 1 dL_acts_181 (pc' := 183) rfl rfl ?_
      refine yy_if_eq C dL_acts_183 (pc' := 186) rfl (tgt := 190) (by decide) (fun c_183 => ?_) (fun c_183 => ?_)
      · skip
        exact absurd c_183 (by decide)
      · skip
        refine yy_iconst C (v := (-1)) dL_acts_186 (pc' := 187) rfl (by decide) ?_
        refine yy_goto C (tgt := 196) dL_acts_187 (by decide) ?_
        refine yc_i (yr_SW C (As := [.ref (ad 0), .int r2, .int (-1)]) (rest := []) lk_L_137 cd_L_rescan st_L_rescan (mL_rescan l hl0 G B0 ad ((dr, .inr (10, [.int z2])) :: F) S r2 (-1) hR.1.1) ⟨by decide, by decide⟩ ⟨(show 0 + 1 ≤ 1 by omega), (show 0 + 6 ≤ 6 by omega)⟩ rfl rfl (Nat.le_of_ble_eq_true rfl) dL_acts_196) (pc' := 199) rfl (fun r3 u1 hw3 => ?_)
        refine yy_widen (cs2 := 1) (ss2 := 6) (show 0 + 1 ≤ 1 by omega) (show 0 + 6 ≤ 6 by omega) ?_
        subst hQ
        exact ye_i C hr (vp_nar_int _) (u1, z2) dL_acts_199 rfl (by decide) (by decide) (AB.ac hR (ab_rescan hR.1 hw3))
    · skip
      refine yy_tab C (tgt := 178) (off := 149) dL_acts_29 (by decide) (by decide) rfl (by decide) ?_
      refine yy_aload_n C 2 dL_acts_178 (pc' := 179) rfl rfl rfl ?_
      refine yy_iload C 0 dL_acts_179 (pc' := 181) rfl rfl ?_
      refine yy_iload C 1 dL_acts_181 (pc' := 183) rfl rfl ?_
      refine yy_if_eq C dL_acts_183 (pc' := 186) rfl (tgt := 190) (by decide) (fun c_183 => ?_) (fun c_183 => ?_)
      · skip
        exact absurd c_183 (by decide)
      · skip
        refine yy_iconst C (v := (-1)) dL_acts_186 (pc' := 187) rfl (by decide) ?_
        refine yy_goto C (tgt := 196) dL_acts_187 (by decide) ?_
        refine yc_i (yr_SW C (As := [.ref (ad 0), .int r2, .int (-1)]) (rest := []) lk_L_137 cd_L_rescan st_L_rescan (mL_rescan l hl0 G B0 ad ((dr, .inr (10, [.int z2])) :: F) S r2 (-1) hR.1.1) ⟨by decide, by decide⟩ ⟨(show 0 + 1 ≤ 1 by omega), (show 0 + 6 ≤ 6 by omega)⟩ rfl rfl (Nat.le_of_ble_eq_true rfl) dL_acts_196) (pc' := 199) rfl (fun r3 u1 hw3 => ?_)
        refine yy_widen (cs2 := 1) (ss2 := 6) (show 0 + 1 ≤ 1 by omega) (show 0 + 6 ≤ 6 by omega) ?_
        subst hQ
        exact ye_i C hr (vp_nar_int _) (u1, z2) dL_acts_199 rfl (by decide) (by decide) (AB.ac hR (ab_rescan hR.1 hw3))
    · skip
      refine yy_tab C (tgt := 200) (off := 171) dL_acts_29 (by decide) (by decide) rfl (by decide) ?_
      refine yy_aload_n C 4 dL_acts_200 (pc' := 201) rfl rfl rfl ?_
      refine yy_bipush C (v := (nI 50)) dL_acts_201 (pc' := 203) rfl (by decide) ?_
      refine yy_perm (w' := (dr, .inr (10, [.int z2])) :: (wA G ad S ++ F)) List.perm_middle ?_
      refine yc_i (yr_V C (As := [.int (nI 50)]) (rest := []) lk_L_115 cd_X7_next im_X7_next se_X7_next (mX7_next l G B0 dr (wA G ad S ++ F) z2 50 (by decide)) ⟨by decide, by decide⟩ ⟨(show 0 + 0 ≤ 1 by omega), (show 0 + 0 ≤ 6 by omega)⟩ 0 rfl rfl rfl rfl (Nat.le_of_ble_eq_true rfl) dL_acts_203) (pc' := 206) rfl (fun r3 z3 hw3 => ?_)
      refine yy_perm (w' := wA G ad S ++ ((dr, .inr (10, [.int z3])) :: F)) List.perm_middle.symm ?_
      refine yy_istore C (L' := [(6, .int r3), (5, .int r2), (4, .int (nI 1)), (0, .ref (ad 0)), (1, .int (nI j)), (2, .ref (dr)), (3, .int (nI n))]) dL_acts_206 (pc' := 208) rfl (by decide) rfl ?_
      refine yy_aload_n C 3 dL_acts_208 (pc' := 209) rfl rfl rfl ?_
      refine yy_iload C 0 dL_acts_209 (pc' := 211) rfl rfl ?_
      refine yy_iload C 0 dL_acts_211 (pc' := 213) rfl rfl ?_
      refine yy_aload_n C 5 dL_acts_213 (pc' := 214) rfl rfl rfl ?_
      refine yy_bipush C (v := (nI 9)) dL_acts_214 (pc' := 216) rfl (by decide) ?_
      refine yy_perm (w' := (dr, .inr (10, [.int z3])) :: (wA G ad S ++ F)) List.perm_middle ?_
      refine yc_i (yr_V C (As := [.int (nI 9)]) (rest := [.int r3, .int r3, .ref (ad 0)]) lk_L_115 cd_X7_next im_X7_next se_X7_next (mX7_next l G B0 dr (wA G ad S ++ F) z3 9 (by decide)) ⟨by decide, by decide⟩ ⟨(show 0 + 0 ≤ 1 by omega), (show 0 + 0 ≤ 6 by omega)⟩ 0 rfl rfl rfl rfl (Nat.le_of_ble_eq_true rfl) dL_acts_216) (pc' := 219) rfl (fun r4 z4 hw4 => ?_)
      refine yy_perm (w' := wA G ad S ++ ((dr, .inr (10, [.int z4])) :: F)) List.perm_middle.symm ?_
      refine yy_iadd C (v := (r3 + r4)) dL_acts_219 (pc' := 220) rfl rfl ?_
      refine yy_iload C 2 dL_acts_220 (pc' := 222) rfl rfl ?_
      refine yy_if_eq C dL_acts_222 (pc' := 225) rfl (tgt := 230) (by decide) (fun c_222 => ?_) (fun c_222 => ?_)
      · skip
        exact absurd c_222 (by decide)
      · skip
        refine yy_bipush C (v := (nI 9)) dL_acts_225 (pc' := 227) rfl (by decide) ?_
        refine yy_goto C (tgt := 231) dL_acts_227 (by decide) ?_
        refine yy_isub C (v := ((r3 + r4) - (nI 9))) dL_acts_231 (pc' := 232) rfl rfl ?_
        refine yy_aload_n C 3 dL_acts_232 (pc' := 233) rfl rfl rfl ?_
        refine yc_i (yr_V C (As := []) (rest := [.int ((r3 + r4) - (nI 9)), .int r3, .ref (ad 0)]) lk_L_139 cd_X6_day im_X6_day se_X6_day (mX6_day l G B0 ad ((dr, .inr (10, [.int z4])) :: F) S hR.1.1) ⟨by decide, by decide⟩ ⟨(show 0 + 0 ≤ 1 by omega), (show 0 + 0 ≤ 6 by omega)⟩ 0 rfl rfl rfl rfl (Nat.le_of_ble_eq_true rfl) dL_acts_233) (pc' := 236) rfl (fun r5 _ hw5 => ?_)
        obtain rfl : r5 = nI (S.1 7) := hw5
        refine yy_aload_n C 5 dL_acts_236 (pc' := 237) rfl rfl rfl ?_
        refine yy_bipush C (v := (nI 12)) dL_acts_237 (pc' := 239) rfl (by decide) ?_
        refine yy_perm (w' := (dr, .inr (10, [.int z4])) :: (wA G ad S ++ F)) List.perm_middle ?_
        refine yc_i (yr_V C (As := [.int (nI 12)]) (rest := [.int (nI (S.1 7)), .int ((r3 + r4) - (nI 9)), .int r3, .ref (ad 0)]) lk_L_115 cd_X7_next im_X7_next se_X7_next (mX7_next l G B0 dr (wA G ad S ++ F) z4 12 (by decide)) ⟨by decide, by decide⟩ ⟨(show 0 + 0 ≤ 1 by omega), (show 0 + 0 ≤ 6 by omega)⟩ 0 rfl rfl rfl rfl (Nat.le_of_ble_eq_true rfl) dL_acts_239) (pc' := 242) rfl (fun r6 z5 hw6 => ?_)
        refine yy_perm (w' := wA G ad S ++ ((dr, .inr (10, [.int z5])) :: F)) List.perm_middle.symm ?_
        refine yy_iadd C (v := ((nI (S.1 7)) + r6)) dL_acts_242 (pc' := 243) rfl rfl ?_
        refine yc_i (yr_SW C (As := [.ref (ad 0), .int r3, .int ((r3 + r4) - (nI 9)), .int ((nI (S.1 7)) + r6)]) (rest := []) lk_L_142 cd_L_addRule st_L_addRule (mL_addRule l hl0 G B0 ad ((dr, .inr (10, [.int z5])) :: F) S r3 ((r3 + r4) - (nI 9)) ((nI (S.1 7)) + r6) hR.1.1) ⟨by decide, by decide⟩ ⟨(show 0 + 1 ≤ 1 by omega), (show 0 + 6 ≤ 6 by omega)⟩ rfl rfl (Nat.le_of_ble_eq_true rfl) dL_acts_243) (pc' := 246) rfl (fun r7 u1 hw7 => ?_)
        refine yy_widen (cs2 := 1) (ss2 := 6) (show 0 + 1 ≤ 1 by omega) (show 0 + 6 ≤ 6 by omega) ?_
        subst hQ
        exact ye_i C hr (vp_nar_int _) (u1, z5) dL_acts_246 rfl (by decide) (by decide) (AB.ac hR (ab_addRule hR.1 hw7))
    · skip
      refine yy_tab C (tgt := 200) (off := 171) dL_acts_29 (by decide) (by decide) rfl (by decide) ?_
      refine yy_aload_n C 4 dL_acts_200 (pc' := 201) rfl rfl rfl ?_
      refine yy_bipush C (v := (nI 50)) dL_acts_201 (pc' := 203) rfl (by decide) ?_
      refine yy_perm (w' := (dr, .inr (10, [.int z2])) :: (wA G ad S ++ F)) List.perm_middle ?_
      refine yc_i (yr_V C (As := [.int (nI 50)]) (rest := []) lk_L_115 cd_X7_next im_X7_next se_X7_next (mX7_next l G B0 dr (wA G ad S ++ F) z2 50 (by decide)) ⟨by decide, by decide⟩ ⟨(show 0 + 0 ≤ 1 by omega), (show 0 + 0 ≤ 6 by omega)⟩ 0 rfl rfl rfl rfl (Nat.le_of_ble_eq_true rfl) dL_acts_203) (pc' := 206) rfl (fun r3 z3 hw3 => ?_)
      refine yy_perm (w' := wA G ad S ++ ((dr, .inr (10, [.int z3])) :: F)) List.perm_middle.symm ?_
      refine yy_istore C (L' := [(6, .int r3), (5, .int r2), (4, .int (nI 1)), (0, .ref (ad 0)), (1, .int (nI j)), (2, .ref (dr)), (3, .int (nI n))]) dL_acts_206 (pc' := 208) rfl (by decide) rfl ?_
      refine yy_aload_n C 3 dL_acts_208 (pc' := 209) rfl rfl rfl ?_
      refine yy_iload C 0 dL_acts_209 (pc' := 211) rfl rfl ?_
      refine yy_iload C 0 dL_acts_211 (pc' := 213) rfl rfl ?_
      refine yy_aload_n C 5 dL_acts_213 (pc' := 214) rfl rfl rfl ?_
      refine yy_bipush C (v := (nI 9)) dL_acts_214 (pc' := 216) rfl (by decide) ?_
      refine yy_perm (w' := (dr, .inr (10, [.int z3])) :: (wA G ad S ++ F)) List.perm_middle ?_
      refine yc_i (yr_V C (As := [.int (nI 9)]) (rest := [.int r3, .int r3, .ref (ad 0)]) lk_L_115 cd_X7_next im_X7_next se_X7_next (mX7_next l G B0 dr (wA G ad S ++ F) z3 9 (by decide)) ⟨by decide, by decide⟩ ⟨(show 0 + 0 ≤ 1 by omega), (show 0 + 0 ≤ 6 by omega)⟩ 0 rfl rfl rfl rfl (Nat.le_of_ble_eq_true rfl) dL_acts_216) (pc' := 219) rfl (fun r4 z4 hw4 => ?_)
      refine yy_perm (w' := wA G ad S ++ ((dr, .inr (10, [.int z4])) :: F)) List.perm_middle.symm ?_
      refine yy_iadd C (v := (r3 + r4)) dL_acts_219 (pc' := 220) rfl rfl ?_
      refine yy_iload C 2 dL_acts_220 (pc' := 222) rfl rfl ?_
      refine yy_if_eq C dL_acts_222 (pc' := 225) rfl (tgt := 230) (by decide) (fun c_222 => ?_) (fun c_222 => ?_)
      · skip
        exact absurd c_222 (by decide)
      · skip
        refine yy_bipush C (v := (nI 9)) dL_acts_225 (pc' := 227) rfl (by decide) ?_
        refine yy_goto C (tgt := 231) dL_acts_227 (by decide) ?_
        refine yy_isub C (v := ((r3 + r4) - (nI 9))) dL_acts_231 (pc' := 232) rfl rfl ?_
        refine yy_aload_n C 3 dL_acts_232 (pc' := 233) rfl rfl rfl ?_
        refine yc_i (yr_V C (As := []) (rest := [.int ((r3 + r4) - (nI 9)), .int r3, .ref (ad 0)]) lk_L_139 cd_X6_day im_X6_day se_X6_day (mX6_day l G B0 ad ((dr, .inr (10, [.int z4])) :: F) S hR.1.1) ⟨by decide, by decide⟩ ⟨(show 0 + 0 ≤ 1 by omega), (show 0 + 0 ≤ 6 by omega)⟩ 0 rfl rfl rfl rfl (Nat.le_of_ble_eq_true rfl) dL_acts_233) (pc' := 236) rfl (fun r5 _ hw5 => ?_)
        obtain rfl : r5 = nI (S.1 7) := hw5
        refine yy_aload_n C 5 dL_acts_236 (pc' := 237) rfl rfl rfl ?_
        refine yy_bipush C (v := (nI 12)) dL_acts_237 (pc' := 239) rfl (by decide) ?_
        refine yy_perm (w' := (dr, .inr (10, [.int z4])) :: (wA G ad S ++ F)) List.perm_middle ?_
        refine yc_i (yr_V C (As := [.int (nI 12)]) (rest := [.int (nI (S.1 7)), .int ((r3 + r4) - (nI 9)), .int r3, .ref (ad 0)]) lk_L_115 cd_X7_next im_X7_next se_X7_next (mX7_next l G B0 dr (wA G ad S ++ F) z4 12 (by decide)) ⟨by decide, by decide⟩ ⟨(show 0 + 0 ≤ 1 by omega), (show 0 + 0 ≤ 6 by omega)⟩ 0 rfl rfl rfl rfl (Nat.le_of_ble_eq_true rfl) dL_acts_239) (pc' := 242) rfl (fun r6 z5 hw6 => ?_)
        refine yy_perm (w' := wA G ad S ++ ((dr, .inr (10, [.int z5])) :: F)) List.perm_middle.symm ?_
        refine yy_iadd C (v := ((nI (S.1 7)) + r6)) dL_acts_242 (pc' := 243) rfl rfl ?_
        refine yc_i (yr_SW C (As := [.ref (ad 0), .int r3, .int ((r3 + r4) - (nI 9)), .int ((nI (S.1 7)) + r6)]) (rest := []) lk_L_142 cd_L_addRule st_L_addRule (mL_addRule l hl0 G B0 ad ((dr, .inr (10, [.int z5])) :: F) S r3 ((r3 + r4) - (nI 9)) ((nI (S.1 7)) + r6) hR.1.1) ⟨by decide, by decide⟩ ⟨(show 0 + 1 ≤ 1 by omega), (show 0 + 6 ≤ 6 by omega)⟩ rfl rfl (Nat.le_of_ble_eq_true rfl) dL_acts_243) (pc' := 246) rfl (fun r7 u1 hw7 => ?_)
        refine yy_widen (cs2 := 1) (ss2 := 6) (show 0 + 1 ≤ 1 by omega) (show 0 + 6 ≤ 6 by omega) ?_
        subst hQ
        exact ye_i C hr (vp_nar_int _) (u1, z5) dL_acts_246 rfl (by decide) (by decide) (AB.ac hR (ab_addRule hR.1 hw7))
    · skip
      refine yy_tab C (tgt := 247) (off := 218) dL_acts_29 (by decide) (by decide) rfl (by decide) ?_
      refine yy_aload_n C 4 dL_acts_247 (pc' := 248) rfl rfl rfl ?_
      refine yy_iconst C (v := (nI 5)) dL_acts_248 (pc' := 249) rfl (by decide) ?_
      refine yy_perm (w' := (dr, .inr (10, [.int z2])) :: (wA G ad S ++ F)) List.perm_middle ?_
      refine yc_i (yr_V C (As := [.int (nI 5)]) (rest := []) lk_L_115 cd_X7_next im_X7_next se_X7_next (mX7_next l G B0 dr (wA G ad S ++ F) z2 5 (by decide)) ⟨by decide, by decide⟩ ⟨(show 0 + 0 ≤ 1 by omega), (show 0 + 0 ≤ 6 by omega)⟩ 0 rfl rfl rfl rfl (Nat.le_of_ble_eq_true rfl) dL_acts_249) (pc' := 252) rfl (fun r3 z3 hw3 => ?_)
      refine yy_perm (w' := wA G ad S ++ ((dr, .inr (10, [.int z3])) :: F)) List.perm_middle.symm ?_
      refine yy_istore C (L' := [(7, .int r3), (5, .int r2), (4, .int (nI 1)), (0, .ref (ad 0)), (1, .int (nI j)), (2, .ref (dr)), (3, .int (nI n))]) dL_acts_252 (pc' := 254) rfl (by decide) rfl ?_
      refine yy_aload_n C 3 dL_acts_254 (pc' := 255) rfl rfl rfl ?_
      refine yy_aload_n C 5 dL_acts_255 (pc' := 256) rfl rfl rfl ?_
      refine yy_iconst C (v := (nI 2)) dL_acts_256 (pc' := 257) rfl (by decide) ?_
      refine yy_bipush C (v := (nI 8)) dL_acts_257 (pc' := 259) rfl (by decide) ?_
      refine yy_perm (w' := (dr, .inr (10, [.int z3])) :: (wA G ad S ++ F)) List.perm_middle ?_
      refine yc_i (yr_S C (As := [.ref (dr), .int (nI 2), .int (nI 8)]) (rest := [.ref (ad 0)]) lk_L_125 cd_L_number st_L_number (mL_number l G B0 dr (wA G ad S ++ F) z3 2 (nI 8) (by decide)) ⟨by decide, by decide⟩ ⟨(show 0 + 0 ≤ 1 by omega), (show 0 + 0 ≤ 6 by omega)⟩ rfl rfl (Nat.le_of_ble_eq_true rfl) dL_acts_259) (pc' := 262) rfl (fun r4 z4 _ => ?_)
      refine yy_perm (w' := wA G ad S ++ ((dr, .inr (10, [.int z4])) :: F)) List.perm_middle.symm ?_
      refine yy_iload C 0 dL_acts_262 (pc' := 264) rfl rfl ?_
      refine yy_iload C 0 dL_acts_264 (pc' := 266) rfl rfl ?_
      refine yy_aload_n C 5 dL_acts_266 (pc' := 267) rfl rfl rfl ?_
      refine yy_iconst C (v := (nI 3)) dL_acts_267 (pc' := 268) rfl (by decide) ?_
      refine yy_perm (w' := (dr, .inr (10, [.int z4])) :: (wA G ad S ++ F)) List.perm_middle ?_
      refine yc_i (yr_V C (As := [.int (nI 3)]) (rest := [.int r3, .int r3, .int r4, .ref (ad 0)]) lk_L_115 cd_X7_next im_X7_next se_X7_next (mX7_next l G B0 dr (wA G ad S ++ F) z4 3 (by decide)) ⟨by decide, by decide⟩ ⟨(show 0 + 0 ≤ 1 by omega), (show 0 + 0 ≤ 6 by omega)⟩ 0 rfl rfl rfl rfl (Nat.le_of_ble_eq_true rfl) dL_acts_268) (pc' := 271) rfl (fun r5 z5 hw5 => ?_)
      refine yy_perm (w' := wA G ad S ++ ((dr, .inr (10, [.int z5])) :: F)) List.perm_middle.symm ?_
      refine yy_iadd C (v := (r3 + r5)) dL_acts_271 (pc' := 272) rfl rfl ?_
      refine yy_iload C 2 dL_acts_272 (pc' := 274) rfl rfl ?_
      refine yy_if_eq C dL_acts_274 (pc' := 277) rfl (tgt := 286) (by decide) (fun c_274 => ?_) (fun c_274 => ?_)
      · skip
        exact absurd c_274 (by decide)
      · skip
        refine yy_aload_n C 3 dL_acts_277 (pc' := 278) rfl rfl rfl ?_
        refine yc_i (yr_V C (As := []) (rest := [.int (r3 + r5), .int r3, .int r4, .ref (ad 0)]) lk_L_139 cd_X6_day im_X6_day se_X6_day (mX6_day l G B0 ad ((dr, .inr (10, [.int z5])) :: F) S hR.1.1) ⟨by decide, by decide⟩ ⟨(show 0 + 0 ≤ 1 by omega), (show 0 + 0 ≤ 6 by omega)⟩ 0 rfl rfl rfl rfl (Nat.le_of_ble_eq_true rfl) dL_acts_278) (pc' := 281) rfl (fun r6 _ hw6 => ?_)
        obtain rfl : r6 = nI (S.1 7) := hw6
        refine yy_iconst C (v := (nI 1)) dL_acts_281 (pc' := 282) rfl (by decide) ?_
        refine yy_isub C (v := ((nI (S.1 7)) - (nI 1))) dL_acts_282 (pc' := 283) rfl rfl ?_
        refine yy_goto C (tgt := 297) dL_acts_283 (by decide) ?_
        refine yc_i (yr_SW C (As := [.ref (ad 0), .int r4, .int r3, .int (r3 + r5), .int ((nI (S.1 7)) - (nI 1))]) (rest := []) lk_L_145 cd_L_addSpan st_L_addSpan (mL_addSpan l hl0 G B0 ad ((dr, .inr (10, [.int z5])) :: F) S r4 r3 (r3 + r5) ((nI (S.1 7)) - (nI 1)) hR.1.1) ⟨by decide, by decide⟩ ⟨(show 0 + 1 ≤ 1 by omega), (show 0 + 6 ≤ 6 by omega)⟩ rfl rfl (Nat.le_of_ble_eq_true rfl) dL_acts_297) (pc' := 300) rfl (fun r7 u1 hw7 => ?_)
        refine yy_widen (cs2 := 1) (ss2 := 6) (show 0 + 1 ≤ 1 by omega) (show 0 + 6 ≤ 6 by omega) ?_
        subst hQ
        exact ye_i C hr (vp_nar_int _) (u1, z5) dL_acts_300 rfl (by decide) (by decide) (AB.ac hR (ab_addSpan hR.1 hw7))
    · skip
      refine yy_tab C (tgt := 247) (off := 218) dL_acts_29 (by decide) (by decide) rfl (by decide) ?_
      refine yy_aload_n C 4 dL_acts_247 (pc' := 248) rfl rfl rfl ?_
      refine yy_iconst C (v := (nI 5)) dL_acts_248 (pc' := 249) rfl (by decide) ?_
      refine yy_perm (w' := (dr, .inr (10, [.int z2])) :: (wA G ad S ++ F)) List.perm_middle ?_
      refine yc_i (yr_V C (As := [.int (nI 5)]) (rest := []) lk_L_115 cd_X7_next im_X7_next se_X7_next (mX7_next l G B0 dr (wA G ad S ++ F) z2 5 (by decide)) ⟨by decide, by decide⟩ ⟨(show 0 + 0 ≤ 1 by omega), (show 0 + 0 ≤ 6 by omega)⟩ 0 rfl rfl rfl rfl (Nat.le_of_ble_eq_true rfl) dL_acts_249) (pc' := 252) rfl (fun r3 z3 hw3 => ?_)
      refine yy_perm (w' := wA G ad S ++ ((dr, .inr (10, [.int z3])) :: F)) List.perm_middle.symm ?_
      refine yy_istore C (L' := [(7, .int r3), (5, .int r2), (4, .int (nI 1)), (0, .ref (ad 0)), (1, .int (nI j)), (2, .ref (dr)), (3, .int (nI n))]) dL_acts_252 (pc' := 254) rfl (by decide) rfl ?_
      refine yy_aload_n C 3 dL_acts_254 (pc' := 255) rfl rfl rfl ?_
      refine yy_aload_n C 5 dL_acts_255 (pc' := 256) rfl rfl rfl ?_
      refine yy_iconst C (v := (nI 2)) dL_acts_256 (pc' := 257) rfl (by decide) ?_
      refine yy_bipush C (v := (nI 8)) dL_acts_257 (pc' := 259) rfl (by decide) ?_
      refine yy_perm (w' := (dr, .inr (10, [.int z3])) :: (wA G ad S ++ F)) List.perm_middle ?_
      refine yc_i (yr_S C (As := [.ref (dr), .int (nI 2), .int (nI 8)]) (rest := [.ref (ad 0)]) lk_L_125 cd_L_number st_L_number (mL_number l G B0 dr (wA G ad S ++ F) z3 2 (nI 8) (by decide)) ⟨by decide, by decide⟩ ⟨(show 0 + 0 ≤ 1 by omega), (show 0 + 0 ≤ 6 by omega)⟩ rfl rfl (Nat.le_of_ble_eq_true rfl) dL_acts_259) (pc' := 262) rfl (fun r4 z4 _ => ?_)
      refine yy_perm (w' := wA G ad S ++ ((dr, .inr (10, [.int z4])) :: F)) List.perm_middle.symm ?_
      refine yy_iload C 0 dL_acts_262 (pc' := 264) rfl rfl ?_
      refine yy_iload C 0 dL_acts_264 (pc' := 266) rfl rfl ?_
      refine yy_aload_n C 5 dL_acts_266 (pc' := 267) rfl rfl rfl ?_
      refine yy_iconst C (v := (nI 3)) dL_acts_267 (pc' := 268) rfl (by decide) ?_
      refine yy_perm (w' := (dr, .inr (10, [.int z4])) :: (wA G ad S ++ F)) List.perm_middle ?_
      refine yc_i (yr_V C (As := [.int (nI 3)]) (rest := [.int r3, .int r3, .int r4, .ref (ad 0)]) lk_L_115 cd_X7_next im_X7_next se_X7_next (mX7_next l G B0 dr (wA G ad S ++ F) z4 3 (by decide)) ⟨by decide, by decide⟩ ⟨(show 0 + 0 ≤ 1 by omega), (show 0 + 0 ≤ 6 by omega)⟩ 0 rfl rfl rfl rfl (Nat.le_of_ble_eq_true rfl) dL_acts_268) (pc' := 271) rfl (fun r5 z5 hw5 => ?_)
      refine yy_perm (w' := wA G ad S ++ ((dr, .inr (10, [.int z5])) :: F)) List.perm_middle.symm ?_
      refine yy_iadd C (v := (r3 + r5)) dL_acts_271 (pc' := 272) rfl rfl ?_
      refine yy_iload C 2 dL_acts_272 (pc' := 274) rfl rfl ?_
      refine yy_if_eq C dL_acts_274 (pc' := 277) rfl (tgt := 286) (by decide) (fun c_274 => ?_) (fun c_274 => ?_)
      · skip
        exact absurd c_274 (by decide)
      · skip
        refine yy_aload_n C 3 dL_acts_277 (pc' := 278) rfl rfl rfl ?_
        refine yc_i (yr_V C (As := []) (rest := [.int (r3 + r5), .int r3, .int r4, .ref (ad 0)]) lk_L_139 cd_X6_day im_X6_day se_X6_day (mX6_day l G B0 ad ((dr, .inr (10, [.int z5])) :: F) S hR.1.1) ⟨by decide, by decide⟩ ⟨(show 0 + 0 ≤ 1 by omega), (show 0 + 0 ≤ 6 by omega)⟩ 0 rfl rfl rfl rfl (Nat.le_of_ble_eq_true rfl) dL_acts_278) (pc' := 281) rfl (fun r6 _ hw6 => ?_)
        obtain rfl : r6 = nI (S.1 7) := hw6
        refine yy_iconst C (v := (nI 1)) dL_acts_281 (pc' := 282) rfl (by decide) ?_
        refine yy_isub C (v := ((nI (S.1 7)) - (nI 1))) dL_acts_282 (pc' := 283) rfl rfl ?_
        refine yy_goto C (tgt := 297) dL_acts_283 (by decide) ?_
        refine yc_i (yr_SW C (As := [.ref (ad 0), .int r4, .int r3, .int (r3 + r5), .int ((nI (S.1 7)) - (nI 1))]) (rest := []) lk_L_145 cd_L_addSpan st_L_addSpan (mL_addSpan l hl0 G B0 ad ((dr, .inr (10, [.int z5])) :: F) S r4 r3 (r3 + r5) ((nI (S.1 7)) - (nI 1)) hR.1.1) ⟨by decide, by decide⟩ ⟨(show 0 + 1 ≤ 1 by omega), (show 0 + 6 ≤ 6 by omega)⟩ rfl rfl (Nat.le_of_ble_eq_true rfl) dL_acts_297) (pc' := 300) rfl (fun r7 u1 hw7 => ?_)
        refine yy_widen (cs2 := 1) (ss2 := 6) (show 0 + 1 ≤ 1 by omega) (show 0 + 6 ≤ 6 by omega) ?_
        subst hQ
        exact ye_i C hr (vp_nar_int _) (u1, z5) dL_acts_300 rfl (by decide) (by decide) (AB.ac hR (ab_addSpan hR.1 hw7))
    · skip
      refine yy_tab C (tgt := 301) (off := 272) dL_acts_29 (by decide) (by decide) rfl (by decide) ?_
      refine yy_aload_n C 2 dL_acts_301 (pc' := 302) rfl rfl rfl ?_
      refine yy_aload_n C 4 dL_acts_302 (pc' := 303) rfl rfl rfl ?_
      refine yy_iconst C (v := (nI 4)) dL_acts_303 (pc' := 304) rfl (by decide) ?_
      refine yy_bipush C (v := (nI 12)) dL_acts_304 (pc' := 306) rfl (by decide) ?_
      refine yy_perm (w' := (dr, .inr (10, [.int z2])) :: (wA G ad S ++ F)) List.perm_middle ?_
      refine yc_i (yr_S C (As := [.ref (dr), .int (nI 4), .int (nI 12)]) (rest := [.ref (ad 0)]) lk_L_125 cd_L_number st_L_number (mL_number l G B0 dr (wA G ad S ++ F) z2 4 (nI 12) (by decide)) ⟨by decide, by decide⟩ ⟨(show 0 + 0 ≤ 1 by omega), (show 0 + 0 ≤ 6 by omega)⟩ rfl rfl (Nat.le_of_ble_eq_true rfl) dL_acts_306) (pc' := 309) rfl (fun r3 z3 _ => ?_)
      refine yy_perm (w' := wA G ad S ++ ((dr, .inr (10, [.int z3])) :: F)) List.perm_middle.symm ?_
      refine yc_i (yr_SW C (As := [.ref (ad 0), .int r3]) (rest := []) lk_L_148 cd_L_lift st_L_lift (mL_lift l hl0 G B0 ad ((dr, .inr (10, [.int z3])) :: F) S r3 hR.1.1) ⟨by decide, by decide⟩ ⟨(show 0 + 1 ≤ 1 by omega), (show 0 + 6 ≤ 6 by omega)⟩ rfl rfl (Nat.le_of_ble_eq_true rfl) dL_acts_309) (pc' := 312) rfl (fun r4 u1 hw4 => ?_)
      refine yy_widen (cs2 := 1) (ss2 := 6) (show 0 + 1 ≤ 1 by omega) (show 0 + 6 ≤ 6 by omega) ?_
      subst hQ
      exact ye_i C hr (vp_nar_int _) (u1, z3) dL_acts_312 rfl (by decide) (by decide) (AB.ac hR (ab_lift hR.1 hw4))
    · skip
      refine yy_tab C (tgt := 313) (off := 284) dL_acts_29 (by decide) (by decide) rfl (by decide) ?_
      refine yy_aload_n C 2 dL_acts_313 (pc' := 314) rfl rfl rfl ?_
      refine yy_iload C 0 dL_acts_314 (pc' := 316) rfl rfl ?_
      refine yy_aload_n C 4 dL_acts_316 (pc' := 317) rfl rfl rfl ?_
      refine yy_iload_n C 5 dL_acts_317 (pc' := 318) rfl rfl rfl ?_
      refine yy_bipush C (v := (nI 40)) dL_acts_318 (pc' := 320) rfl (by decide) ?_
      refine yy_perm (w' := (dr, .inr (10, [.int z2])) :: (wA G ad S ++ F)) List.perm_middle ?_
      refine yc_i (yr_S C (As := [.ref (dr), .int (nI n), .int (nI 40)]) (rest := [.int r2, .ref (ad 0)]) lk_L_125 cd_L_number st_L_number (mL_number l G B0 dr (wA G ad S ++ F) z2 n (nI 40) (by omega)) ⟨by decide, by decide⟩ ⟨(show 0 + 0 ≤ 1 by omega), (show 0 + 0 ≤ 6 by omega)⟩ rfl rfl (Nat.le_of_ble_eq_true rfl) dL_acts_320) (pc' := 323) rfl (fun r3 z3 _ => ?_)
      refine yy_perm (w' := wA G ad S ++ ((dr, .inr (10, [.int z3])) :: F)) List.perm_middle.symm ?_
      refine yy_aload_n C 4 dL_acts_323 (pc' := 324) rfl rfl rfl ?_
      refine yy_iload_n C 5 dL_acts_324 (pc' := 325) rfl rfl rfl ?_
      refine yy_bipush C (v := (nI 40)) dL_acts_325 (pc' := 327) rfl (by decide) ?_
      refine yy_perm (w' := (dr, .inr (10, [.int z3])) :: (wA G ad S ++ F)) List.perm_middle ?_
      refine yc_i (yr_S C (As := [.ref (dr), .int (nI n), .int (nI 40)]) (rest := [.int r3, .int r2, .ref (ad 0)]) lk_L_125 cd_L_number st_L_number (mL_number l G B0 dr (wA G ad S ++ F) z3 n (nI 40) (by omega)) ⟨by decide, by decide⟩ ⟨(show 0 + 0 ≤ 1 by omega), (show 0 + 0 ≤ 6 by omega)⟩ rfl rfl (Nat.le_of_ble_eq_true rfl) dL_acts_327) (pc' := 330) rfl (fun r4 z4 _ => ?_)
      refine yy_perm (w' := wA G ad S ++ ((dr, .inr (10, [.int z4])) :: F)) List.perm_middle.symm ?_
      refine yc_i (yr_SW C (As := [.ref (ad 0), .int r2, .int r3, .int r4]) (rest := []) lk_L_151 cd_L_addJoin st_L_addJoin (mL_addJoin l hl0 G B0 ad ((dr, .inr (10, [.int z4])) :: F) S r2 r3 r4 hR.1.1) ⟨by decide, by decide⟩ ⟨(show 0 + 1 ≤ 1 by omega), (show 0 + 6 ≤ 6 by omega)⟩ rfl rfl (Nat.le_of_ble_eq_true rfl) dL_acts_330) (pc' := 333) rfl (fun r5 u1 hw5 => ?_)
      refine yy_widen (cs2 := 1) (ss2 := 6) (show 0 + 1 ≤ 1 by omega) (show 0 + 6 ≤ 6 by omega) ?_
      subst hQ
      exact ye_i C hr (vp_nar_int _) (u1, z4) dL_acts_333 rfl (by decide) (by decide) (AB.ac hR (ab_addJoin hR.1 hw5))
    · skip
      refine yy_tab C (tgt := 313) (off := 284) dL_acts_29 (by decide) (by decide) rfl (by decide) ?_
      refine yy_aload_n C 2 dL_acts_313 (pc' := 314) rfl rfl rfl ?_
      refine yy_iload C 0 dL_acts_314 (pc' := 316) rfl rfl ?_
      refine yy_aload_n C 4 dL_acts_316 (pc' := 317) rfl rfl rfl ?_
      refine yy_iload_n C 5 dL_acts_317 (pc' := 318) rfl rfl rfl ?_
      refine yy_bipush C (v := (nI 40)) dL_acts_318 (pc' := 320) rfl (by decide) ?_
      refine yy_perm (w' := (dr, .inr (10, [.int z2])) :: (wA G ad S ++ F)) List.perm_middle ?_
      refine yc_i (yr_S C (As := [.ref (dr), .int (nI n), .int (nI 40)]) (rest := [.int r2, .ref (ad 0)]) lk_L_125 cd_L_number st_L_number (mL_number l G B0 dr (wA G ad S ++ F) z2 n (nI 40) (by omega)) ⟨by decide, by decide⟩ ⟨(show 0 + 0 ≤ 1 by omega), (show 0 + 0 ≤ 6 by omega)⟩ rfl rfl (Nat.le_of_ble_eq_true rfl) dL_acts_320) (pc' := 323) rfl (fun r3 z3 _ => ?_)
      refine yy_perm (w' := wA G ad S ++ ((dr, .inr (10, [.int z3])) :: F)) List.perm_middle.symm ?_
      refine yy_aload_n C 4 dL_acts_323 (pc' := 324) rfl rfl rfl ?_
      refine yy_iload_n C 5 dL_acts_324 (pc' := 325) rfl rfl rfl ?_
      refine yy_bipush C (v := (nI 40)) dL_acts_325 (pc' := 327) rfl (by decide) ?_
      refine yy_perm (w' := (dr, .inr (10, [.int z3])) :: (wA G ad S ++ F)) List.perm_middle ?_
      refine yc_i (yr_S C (As := [.ref (dr), .int (nI n), .int (nI 40)]) (rest := [.int r3, .int r2, .ref (ad 0)]) lk_L_125 cd_L_number st_L_number (mL_number l G B0 dr (wA G ad S ++ F) z3 n (nI 40) (by omega)) ⟨by decide, by decide⟩ ⟨(show 0 + 0 ≤ 1 by omega), (show 0 + 0 ≤ 6 by omega)⟩ rfl rfl (Nat.le_of_ble_eq_true rfl) dL_acts_327) (pc' := 330) rfl (fun r4 z4 _ => ?_)
      refine yy_perm (w' := wA G ad S ++ ((dr, .inr (10, [.int z4])) :: F)) List.perm_middle.symm ?_
      refine yc_i (yr_SW C (As := [.ref (ad 0), .int r2, .int r3, .int r4]) (rest := []) lk_L_151 cd_L_addJoin st_L_addJoin (mL_addJoin l hl0 G B0 ad ((dr, .inr (10, [.int z4])) :: F) S r2 r3 r4 hR.1.1) ⟨by decide, by decide⟩ ⟨(show 0 + 1 ≤ 1 by omega), (show 0 + 6 ≤ 6 by omega)⟩ rfl rfl (Nat.le_of_ble_eq_true rfl) dL_acts_330) (pc' := 333) rfl (fun r5 u1 hw5 => ?_)
      refine yy_widen (cs2 := 1) (ss2 := 6) (show 0 + 1 ≤ 1 by omega) (show 0 + 6 ≤ 6 by omega) ?_
      subst hQ
      exact ye_i C hr (vp_nar_int _) (u1, z4) dL_acts_333 rfl (by decide) (by decide) (AB.ac hR (ab_addJoin hR.1 hw5))
    · skip
      refine yy_tab C (tgt := 313) (off := 284) dL_acts_29 (by decide) (by decide) rfl (by decide) ?_
      refine yy_aload_n C 2 dL_acts_313 (pc' := 314) rfl rfl rfl ?_
      refine yy_iload C 0 dL_acts_314 (pc' := 316) rfl rfl ?_
      refine yy_aload_n C 4 dL_acts_316 (pc' := 317) rfl rfl rfl ?_
      refine yy_iload_n C 5 dL_acts_317 (pc' := 318) rfl rfl rfl ?_
      refine yy_bipush C (v := (nI 40)) dL_acts_318 (pc' := 320) rfl (by decide) ?_
      refine yy_perm (w' := (dr, .inr (10, [.int z2])) :: (wA G ad S ++ F)) List.perm_middle ?_
      refine yc_i (yr_S C (As := [.ref (dr), .int (nI n), .int (nI 40)]) (rest := [.int r2, .ref (ad 0)]) lk_L_125 cd_L_number st_L_number (mL_number l G B0 dr (wA G ad S ++ F) z2 n (nI 40) (by omega)) ⟨by decide, by decide⟩ ⟨(show 0 + 0 ≤ 1 by omega), (show 0 + 0 ≤ 6 by omega)⟩ rfl rfl (Nat.le_of_ble_eq_true rfl) dL_acts_320) (pc' := 323) rfl (fun r3 z3 _ => ?_)
      refine yy_perm (w' := wA G ad S ++ ((dr, .inr (10, [.int z3])) :: F)) List.perm_middle.symm ?_
      refine yy_aload_n C 4 dL_acts_323 (pc' := 324) rfl rfl rfl ?_
      refine yy_iload_n C 5 dL_acts_324 (pc' := 325) rfl rfl rfl ?_
      refine yy_bipush C (v := (nI 40)) dL_acts_325 (pc' := 327) rfl (by decide) ?_
      refine yy_perm (w' := (dr, .inr (10, [.int z3])) :: (wA G ad S ++ F)) List.perm_middle ?_
      refine yc_i (yr_S C (As := [.ref (dr), .int (nI n), .int (nI 40)]) (rest := [.int r3, .int r2, .ref (ad 0)]) lk_L_125 cd_L_number st_L_number (mL_number l G B0 dr (wA G ad S ++ F) z3 n (nI 40) (by omega)) ⟨by decide, by decide⟩ ⟨(show 0 + 0 ≤ 1 by omega), (show 0 + 0 ≤ 6 by omega)⟩ rfl rfl (Nat.le_of_ble_eq_true rfl) dL_acts_327) (pc' := 330) rfl (fun r4 z4 _ => ?_)
      refine yy_perm (w' := wA G ad S ++ ((dr, .inr (10, [.int z4])) :: F)) List.perm_middle.symm ?_
      refine yc_i (yr_SW C (As := [.ref (ad 0), .int r2, .int r3, .int r4]) (rest := []) lk_L_151 cd_L_addJoin st_L_addJoin (mL_addJoin l hl0 G B0 ad ((dr, .inr (10, [.int z4])) :: F) S r2 r3 r4 hR.1.1) ⟨by decide, by decide⟩ ⟨(show 0 + 1 ≤ 1 by omega), (show 0 + 6 ≤ 6 by omega)⟩ rfl rfl (Nat.le_of_ble_eq_true rfl) dL_acts_330) (pc' := 333) rfl (fun r5 u1 hw5 => ?_)
      refine yy_widen (cs2 := 1) (ss2 := 6) (show 0 + 1 ≤ 1 by omega) (show 0 + 6 ≤ 6 by omega) ?_
      subst hQ
      exact ye_i C hr (vp_nar_int _) (u1, z4) dL_acts_333 rfl (by decide) (by decide) (AB.ac hR (ab_addJoin hR.1 hw5))
    · skip
      refine yy_tab C (tgt := 334) (off := 305) dL_acts_29 (by decide) (by decide) rfl (by decide) ?_
      refine yy_aload_n C 2 dL_acts_334 (pc' := 335) rfl rfl rfl ?_
      refine yy_aload_n C 4 dL_acts_335 (pc' := 336) rfl rfl rfl ?_
      refine yy_iconst C (v := (nI 3)) dL_acts_336 (pc' := 337) rfl (by decide) ?_
      refine yy_iconst C (v := (nI 5)) dL_acts_337 (pc' := 338) rfl (by decide) ?_
      refine yy_perm (w' := (dr, .inr (10, [.int z2])) :: (wA G ad S ++ F)) List.perm_middle ?_
      refine yc_i (yr_S C (As := [.ref (dr), .int (nI 3), .int (nI 5)]) (rest := [.ref (ad 0)]) lk_L_125 cd_L_number st_L_number (mL_number l G B0 dr (wA G ad S ++ F) z2 3 (nI 5) (by decide)) ⟨by decide, by decide⟩ ⟨(show 0 + 0 ≤ 1 by omega), (show 0 + 0 ≤ 6 by omega)⟩ rfl rfl (Nat.le_of_ble_eq_true rfl) dL_acts_338) (pc' := 341) rfl (fun r3 z3 _ => ?_)
      refine yy_perm (w' := wA G ad S ++ ((dr, .inr (10, [.int z3])) :: F)) List.perm_middle.symm ?_
      refine yy_aload_n C 4 dL_acts_341 (pc' := 342) rfl rfl rfl ?_
      refine yy_iconst C (v := (nI 2)) dL_acts_342 (pc' := 343) rfl (by decide) ?_
      refine yy_bipush C (v := (nI 8)) dL_acts_343 (pc' := 345) rfl (by decide) ?_
      refine yy_perm (w' := (dr, .inr (10, [.int z3])) :: (wA G ad S ++ F)) List.perm_middle ?_
      refine yc_i (yr_S C (As := [.ref (dr), .int (nI 2), .int (nI 8)]) (rest := [.int r3, .ref (ad 0)]) lk_L_125 cd_L_number st_L_number (mL_number l G B0 dr (wA G ad S ++ F) z3 2 (nI 8) (by decide)) ⟨by decide, by decide⟩ ⟨(show 0 + 0 ≤ 1 by omega), (show 0 + 0 ≤ 6 by omega)⟩ rfl rfl (Nat.le_of_ble_eq_true rfl) dL_acts_345) (pc' := 348) rfl (fun r4 z4 _ => ?_)
      refine yy_perm (w' := wA G ad S ++ ((dr, .inr (10, [.int z4])) :: F)) List.perm_middle.symm ?_
      refine yc_i (yr_SW C (As := [.ref (ad 0), .int r3, .int r4]) (rest := []) lk_L_153 cd_L_request st_L_request (mL_request l hl0 G B0 ad ((dr, .inr (10, [.int z4])) :: F) S r3 r4 hR.1.1) ⟨by decide, by decide⟩ ⟨(show 0 + 1 ≤ 1 by omega), (show 0 + 6 ≤ 6 by omega)⟩ rfl rfl (Nat.le_of_ble_eq_true rfl) dL_acts_348) (pc' := 351) rfl (fun r5 u1 hw5 => ?_)
      refine yy_widen (cs2 := 1) (ss2 := 6) (show 0 + 1 ≤ 1 by omega) (show 0 + 6 ≤ 6 by omega) ?_
      subst hQ
      exact ye_i C hr (vp_nar_int _) (u1, z4) dL_acts_351 rfl (by decide) (by decide) (AB.ac hR (ab_request hR.1 hw5))
    · skip
      refine yy_tab C (tgt := 334) (off := 305) dL_acts_29 (by decide) (by decide) rfl (by decide) ?_
      refine yy_aload_n C 2 dL_acts_334 (pc' := 335) rfl rfl rfl ?_
      refine yy_aload_n C 4 dL_acts_335 (pc' := 336) rfl rfl rfl ?_
      refine yy_iconst C (v := (nI 3)) dL_acts_336 (pc' := 337) rfl (by decide) ?_
      refine yy_iconst C (v := (nI 5)) dL_acts_337 (pc' := 338) rfl (by decide) ?_
      refine yy_perm (w' := (dr, .inr (10, [.int z2])) :: (wA G ad S ++ F)) List.perm_middle ?_
      refine yc_i (yr_S C (As := [.ref (dr), .int (nI 3), .int (nI 5)]) (rest := [.ref (ad 0)]) lk_L_125 cd_L_number st_L_number (mL_number l G B0 dr (wA G ad S ++ F) z2 3 (nI 5) (by decide)) ⟨by decide, by decide⟩ ⟨(show 0 + 0 ≤ 1 by omega), (show 0 + 0 ≤ 6 by omega)⟩ rfl rfl (Nat.le_of_ble_eq_true rfl) dL_acts_338) (pc' := 341) rfl (fun r3 z3 _ => ?_)
      refine yy_perm (w' := wA G ad S ++ ((dr, .inr (10, [.int z3])) :: F)) List.perm_middle.symm ?_
      refine yy_aload_n C 4 dL_acts_341 (pc' := 342) rfl rfl rfl ?_
      refine yy_iconst C (v := (nI 2)) dL_acts_342 (pc' := 343) rfl (by decide) ?_
      refine yy_bipush C (v := (nI 8)) dL_acts_343 (pc' := 345) rfl (by decide) ?_
      refine yy_perm (w' := (dr, .inr (10, [.int z3])) :: (wA G ad S ++ F)) List.perm_middle ?_
      refine yc_i (yr_S C (As := [.ref (dr), .int (nI 2), .int (nI 8)]) (rest := [.int r3, .ref (ad 0)]) lk_L_125 cd_L_number st_L_number (mL_number l G B0 dr (wA G ad S ++ F) z3 2 (nI 8) (by decide)) ⟨by decide, by decide⟩ ⟨(show 0 + 0 ≤ 1 by omega), (show 0 + 0 ≤ 6 by omega)⟩ rfl rfl (Nat.le_of_ble_eq_true rfl) dL_acts_345) (pc' := 348) rfl (fun r4 z4 _ => ?_)
      refine yy_perm (w' := wA G ad S ++ ((dr, .inr (10, [.int z4])) :: F)) List.perm_middle.symm ?_
      refine yc_i (yr_SW C (As := [.ref (ad 0), .int r3, .int r4]) (rest := []) lk_L_153 cd_L_request st_L_request (mL_request l hl0 G B0 ad ((dr, .inr (10, [.int z4])) :: F) S r3 r4 hR.1.1) ⟨by decide, by decide⟩ ⟨(show 0 + 1 ≤ 1 by omega), (show 0 + 6 ≤ 6 by omega)⟩ rfl rfl (Nat.le_of_ble_eq_true rfl) dL_acts_348) (pc' := 351) rfl (fun r5 u1 hw5 => ?_)
      refine yy_widen (cs2 := 1) (ss2 := 6) (show 0 + 1 ≤ 1 by omega) (show 0 + 6 ≤ 6 by omega) ?_
      subst hQ
      exact ye_i C hr (vp_nar_int _) (u1, z4) dL_acts_351 rfl (by decide) (by decide) (AB.ac hR (ab_request hR.1 hw5))
    · skip
      refine yy_tab C (tgt := 334) (off := 305) dL_acts_29 (by decide) (by decide) rfl (by decide) ?_
      refine yy_aload_n C 2 dL_acts_334 (pc' := 335) rfl rfl rfl ?_
      refine yy_aload_n C 4 dL_acts_335 (pc' := 336) rfl rfl rfl ?_
      refine yy_iconst C (v := (nI 3)) dL_acts_336 (pc' := 337) rfl (by decide) ?_
      refine yy_iconst C (v := (nI 5)) dL_acts_337 (pc' := 338) rfl (by decide) ?_
      refine yy_perm (w' := (dr, .inr (10, [.int z2])) :: (wA G ad S ++ F)) List.perm_middle ?_
      refine yc_i (yr_S C (As := [.ref (dr), .int (nI 3), .int (nI 5)]) (rest := [.ref (ad 0)]) lk_L_125 cd_L_number st_L_number (mL_number l G B0 dr (wA G ad S ++ F) z2 3 (nI 5) (by decide)) ⟨by decide, by decide⟩ ⟨(show 0 + 0 ≤ 1 by omega), (show 0 + 0 ≤ 6 by omega)⟩ rfl rfl (Nat.le_of_ble_eq_true rfl) dL_acts_338) (pc' := 341) rfl (fun r3 z3 _ => ?_)
      refine yy_perm (w' := wA G ad S ++ ((dr, .inr (10, [.int z3])) :: F)) List.perm_middle.symm ?_
      refine yy_aload_n C 4 dL_acts_341 (pc' := 342) rfl rfl rfl ?_
      refine yy_iconst C (v := (nI 2)) dL_acts_342 (pc' := 343) rfl (by decide) ?_
      refine yy_bipush C (v := (nI 8)) dL_acts_343 (pc' := 345) rfl (by decide) ?_
      refine yy_perm (w' := (dr, .inr (10, [.int z3])) :: (wA G ad S ++ F)) List.perm_middle ?_
      refine yc_i (yr_S C (As := [.ref (dr), .int (nI 2), .int (nI 8)]) (rest := [.int r3, .ref (ad 0)]) lk_L_125 cd_L_number st_L_number (mL_number l G B0 dr (wA G ad S ++ F) z3 2 (nI 8) (by decide)) ⟨by decide, by decide⟩ ⟨(show 0 + 0 ≤ 1 by omega), (show 0 + 0 ≤ 6 by omega)⟩ rfl rfl (Nat.le_of_ble_eq_true rfl) dL_acts_345) (pc' := 348) rfl (fun r4 z4 _ => ?_)
      refine yy_perm (w' := wA G ad S ++ ((dr, .inr (10, [.int z4])) :: F)) List.perm_middle.symm ?_
      refine yc_i (yr_SW C (As := [.ref (ad 0), .int r3, .int r4]) (rest := []) lk_L_153 cd_L_request st_L_request (mL_request l hl0 G B0 ad ((dr, .inr (10, [.int z4])) :: F) S r3 r4 hR.1.1) ⟨by decide, by decide⟩ ⟨(show 0 + 1 ≤ 1 by omega), (show 0 + 6 ≤ 6 by omega)⟩ rfl rfl (Nat.le_of_ble_eq_true rfl) dL_acts_348) (pc' := 351) rfl (fun r5 u1 hw5 => ?_)
      refine yy_widen (cs2 := 1) (ss2 := 6) (show 0 + 1 ≤ 1 by omega) (show 0 + 6 ≤ 6 by omega) ?_
      subst hQ
      exact ye_i C hr (vp_nar_int _) (u1, z4) dL_acts_351 rfl (by decide) (by decide) (AB.ac hR (ab_request hR.1 hw5))
    · skip
      refine yy_tab C (tgt := 334) (off := 305) dL_acts_29 (by decide) (by decide) rfl (by decide) ?_
      refine yy_aload_n C 2 dL_acts_334 (pc' := 335) rfl rfl rfl ?_
      refine yy_aload_n C 4 dL_acts_335 (pc' := 336) rfl rfl rfl ?_
      refine yy_iconst C (v := (nI 3)) dL_acts_336 (pc' := 337) rfl (by decide) ?_
      refine yy_iconst C (v := (nI 5)) dL_acts_337 (pc' := 338) rfl (by decide) ?_
      refine yy_perm (w' := (dr, .inr (10, [.int z2])) :: (wA G ad S ++ F)) List.perm_middle ?_
      refine yc_i (yr_S C (As := [.ref (dr), .int (nI 3), .int (nI 5)]) (rest := [.ref (ad 0)]) lk_L_125 cd_L_number st_L_number (mL_number l G B0 dr (wA G ad S ++ F) z2 3 (nI 5) (by decide)) ⟨by decide, by decide⟩ ⟨(show 0 + 0 ≤ 1 by omega), (show 0 + 0 ≤ 6 by omega)⟩ rfl rfl (Nat.le_of_ble_eq_true rfl) dL_acts_338) (pc' := 341) rfl (fun r3 z3 _ => ?_)
      refine yy_perm (w' := wA G ad S ++ ((dr, .inr (10, [.int z3])) :: F)) List.perm_middle.symm ?_
      refine yy_aload_n C 4 dL_acts_341 (pc' := 342) rfl rfl rfl ?_
      refine yy_iconst C (v := (nI 2)) dL_acts_342 (pc' := 343) rfl (by decide) ?_
      refine yy_bipush C (v := (nI 8)) dL_acts_343 (pc' := 345) rfl (by decide) ?_
      refine yy_perm (w' := (dr, .inr (10, [.int z3])) :: (wA G ad S ++ F)) List.perm_middle ?_
      refine yc_i (yr_S C (As := [.ref (dr), .int (nI 2), .int (nI 8)]) (rest := [.int r3, .ref (ad 0)]) lk_L_125 cd_L_number st_L_number (mL_number l G B0 dr (wA G ad S ++ F) z3 2 (nI 8) (by decide)) ⟨by decide, by decide⟩ ⟨(show 0 + 0 ≤ 1 by omega), (show 0 + 0 ≤ 6 by omega)⟩ rfl rfl (Nat.le_of_ble_eq_true rfl) dL_acts_345) (pc' := 348) rfl (fun r4 z4 _ => ?_)
      refine yy_perm (w' := wA G ad S ++ ((dr, .inr (10, [.int z4])) :: F)) List.perm_middle.symm ?_
      refine yc_i (yr_SW C (As := [.ref (ad 0), .int r3, .int r4]) (rest := []) lk_L_153 cd_L_request st_L_request (mL_request l hl0 G B0 ad ((dr, .inr (10, [.int z4])) :: F) S r3 r4 hR.1.1) ⟨by decide, by decide⟩ ⟨(show 0 + 1 ≤ 1 by omega), (show 0 + 6 ≤ 6 by omega)⟩ rfl rfl (Nat.le_of_ble_eq_true rfl) dL_acts_348) (pc' := 351) rfl (fun r5 u1 hw5 => ?_)
      refine yy_widen (cs2 := 1) (ss2 := 6) (show 0 + 1 ≤ 1 by omega) (show 0 + 6 ≤ 6 by omega) ?_
      subst hQ
      exact ye_i C hr (vp_nar_int _) (u1, z4) dL_acts_351 rfl (by decide) (by decide) (AB.ac hR (ab_request hR.1 hw5))
    · skip
      refine yy_tab C (tgt := 352) (off := 323) dL_acts_29 (by decide) (by decide) rfl (by decide) ?_
      refine yy_aload_n C 2 dL_acts_352 (pc' := 353) rfl rfl rfl ?_
      refine yy_aload_n C 4 dL_acts_353 (pc' := 354) rfl rfl rfl ?_
      refine yy_iconst C (v := (nI 5)) dL_acts_354 (pc' := 355) rfl (by decide) ?_
      refine yy_bipush C (v := (nI 20)) dL_acts_355 (pc' := 357) rfl (by decide) ?_
      refine yy_perm (w' := (dr, .inr (10, [.int z2])) :: (wA G ad S ++ F)) List.perm_middle ?_
      refine yc_i (yr_S C (As := [.ref (dr), .int (nI 5), .int (nI 20)]) (rest := [.ref (ad 0)]) lk_L_125 cd_L_number st_L_number (mL_number l G B0 dr (wA G ad S ++ F) z2 5 (nI 20) (by decide)) ⟨by decide, by decide⟩ ⟨(show 0 + 0 ≤ 1 by omega), (show 0 + 0 ≤ 6 by omega)⟩ rfl rfl (Nat.le_of_ble_eq_true rfl) dL_acts_357) (pc' := 360) rfl (fun r3 z3 _ => ?_)
      refine yy_perm (w' := wA G ad S ++ ((dr, .inr (10, [.int z3])) :: F)) List.perm_middle.symm ?_
      refine yc_i (yr_SW C (As := [.ref (ad 0), .int r3]) (rest := []) lk_L_155 cd_L_answer st_L_answer (mL_answer l hl0 G B0 ad ((dr, .inr (10, [.int z3])) :: F) S r3 hR.1.1 hR.1.2.1) ⟨by decide, by decide⟩ ⟨(show 0 + 1 ≤ 1 by omega), (show 0 + 6 ≤ 6 by omega)⟩ rfl rfl (Nat.le_of_ble_eq_true rfl) dL_acts_360) (pc' := 363) rfl (fun r4 u1 hw4 => ?_)
      refine yy_widen (cs2 := 1) (ss2 := 6) (show 0 + 1 ≤ 1 by omega) (show 0 + 6 ≤ 6 by omega) ?_
      subst hQ
      exact ye_i C hr (vp_nar_int _) (u1, z3) dL_acts_363 rfl (by decide) (by decide) (AB.ac hR (ab_answer hR.1 hw4))
    · skip
      refine yy_tab C (tgt := 352) (off := 323) dL_acts_29 (by decide) (by decide) rfl (by decide) ?_
      refine yy_aload_n C 2 dL_acts_352 (pc' := 353) rfl rfl rfl ?_
      refine yy_aload_n C 4 dL_acts_353 (pc' := 354) rfl rfl rfl ?_
      refine yy_iconst C (v := (nI 5)) dL_acts_354 (pc' := 355) rfl (by decide) ?_
      refine yy_bipush C (v := (nI 20)) dL_acts_355 (pc' := 357) rfl (by decide) ?_
      refine yy_perm (w' := (dr, .inr (10, [.int z2])) :: (wA G ad S ++ F)) List.perm_middle ?_
      refine yc_i (yr_S C (As := [.ref (dr), .int (nI 5), .int (nI 20)]) (rest := [.ref (ad 0)]) lk_L_125 cd_L_number st_L_number (mL_number l G B0 dr (wA G ad S ++ F) z2 5 (nI 20) (by decide)) ⟨by decide, by decide⟩ ⟨(show 0 + 0 ≤ 1 by omega), (show 0 + 0 ≤ 6 by omega)⟩ rfl rfl (Nat.le_of_ble_eq_true rfl) dL_acts_357) (pc' := 360) rfl (fun r3 z3 _ => ?_)
      refine yy_perm (w' := wA G ad S ++ ((dr, .inr (10, [.int z3])) :: F)) List.perm_middle.symm ?_
      refine yc_i (yr_SW C (As := [.ref (ad 0), .int r3]) (rest := []) lk_L_155 cd_L_answer st_L_answer (mL_answer l hl0 G B0 ad ((dr, .inr (10, [.int z3])) :: F) S r3 hR.1.1 hR.1.2.1) ⟨by decide, by decide⟩ ⟨(show 0 + 1 ≤ 1 by omega), (show 0 + 6 ≤ 6 by omega)⟩ rfl rfl (Nat.le_of_ble_eq_true rfl) dL_acts_360) (pc' := 363) rfl (fun r4 u1 hw4 => ?_)
      refine yy_widen (cs2 := 1) (ss2 := 6) (show 0 + 1 ≤ 1 by omega) (show 0 + 6 ≤ 6 by omega) ?_
      subst hQ
      exact ye_i C hr (vp_nar_int _) (u1, z3) dL_acts_363 rfl (by decide) (by decide) (AB.ac hR (ab_answer hR.1 hw4))
    · skip
      refine yy_tab C (tgt := 352) (off := 323) dL_acts_29 (by decide) (by decide) rfl (by decide) ?_
      refine yy_aload_n C 2 dL_acts_352 (pc' := 353) rfl rfl rfl ?_
      refine yy_aload_n C 4 dL_acts_353 (pc' := 354) rfl rfl rfl ?_
      refine yy_iconst C (v := (nI 5)) dL_acts_354 (pc' := 355) rfl (by decide) ?_
      refine yy_bipush C (v := (nI 20)) dL_acts_355 (pc' := 357) rfl (by decide) ?_
      refine yy_perm (w' := (dr, .inr (10, [.int z2])) :: (wA G ad S ++ F)) List.perm_middle ?_
      refine yc_i (yr_S C (As := [.ref (dr), .int (nI 5), .int (nI 20)]) (rest := [.ref (ad 0)]) lk_L_125 cd_L_number st_L_number (mL_number l G B0 dr (wA G ad S ++ F) z2 5 (nI 20) (by decide)) ⟨by decide, by decide⟩ ⟨(show 0 + 0 ≤ 1 by omega), (show 0 + 0 ≤ 6 by omega)⟩ rfl rfl (Nat.le_of_ble_eq_true rfl) dL_acts_357) (pc' := 360) rfl (fun r3 z3 _ => ?_)
      refine yy_perm (w' := wA G ad S ++ ((dr, .inr (10, [.int z3])) :: F)) List.perm_middle.symm ?_
      refine yc_i (yr_SW C (As := [.ref (ad 0), .int r3]) (rest := []) lk_L_155 cd_L_answer st_L_answer (mL_answer l hl0 G B0 ad ((dr, .inr (10, [.int z3])) :: F) S r3 hR.1.1 hR.1.2.1) ⟨by decide, by decide⟩ ⟨(show 0 + 1 ≤ 1 by omega), (show 0 + 6 ≤ 6 by omega)⟩ rfl rfl (Nat.le_of_ble_eq_true rfl) dL_acts_360) (pc' := 363) rfl (fun r4 u1 hw4 => ?_)
      refine yy_widen (cs2 := 1) (ss2 := 6) (show 0 + 1 ≤ 1 by omega) (show 0 + 6 ≤ 6 by omega) ?_
      subst hQ
      exact ye_i C hr (vp_nar_int _) (u1, z3) dL_acts_363 rfl (by decide) (by decide) (AB.ac hR (ab_answer hR.1 hw4))
    · skip
      refine yy_tab C (tgt := 352) (off := 323) dL_acts_29 (by decide) (by decide) rfl (by decide) ?_
      refine yy_aload_n C 2 dL_acts_352 (pc' := 353) rfl rfl rfl ?_
      refine yy_aload_n C 4 dL_acts_353 (pc' := 354) rfl rfl rfl ?_
      refine yy_iconst C (v := (nI 5)) dL_acts_354 (pc' := 355) rfl (by decide) ?_
      refine yy_bipush C (v := (nI 20)) dL_acts_355 (pc' := 357) rfl (by decide) ?_
      refine yy_perm (w' := (dr, .inr (10, [.int z2])) :: (wA G ad S ++ F)) List.perm_middle ?_
      refine yc_i (yr_S C (As := [.ref (dr), .int (nI 5), .int (nI 20)]) (rest := [.ref (ad 0)]) lk_L_125 cd_L_number st_L_number (mL_number l G B0 dr (wA G ad S ++ F) z2 5 (nI 20) (by decide)) ⟨by decide, by decide⟩ ⟨(show 0 + 0 ≤ 1 by omega), (show 0 + 0 ≤ 6 by omega)⟩ rfl rfl (Nat.le_of_ble_eq_true rfl) dL_acts_357) (pc' := 360) rfl (fun r3 z3 _ => ?_)
      refine yy_perm (w' := wA G ad S ++ ((dr, .inr (10, [.int z3])) :: F)) List.perm_middle.symm ?_
      refine yc_i (yr_SW C (As := [.ref (ad 0), .int r3]) (rest := []) lk_L_155 cd_L_answer st_L_answer (mL_answer l hl0 G B0 ad ((dr, .inr (10, [.int z3])) :: F) S r3 hR.1.1 hR.1.2.1) ⟨by decide, by decide⟩ ⟨(show 0 + 1 ≤ 1 by omega), (show 0 + 6 ≤ 6 by omega)⟩ rfl rfl (Nat.le_of_ble_eq_true rfl) dL_acts_360) (pc' := 363) rfl (fun r4 u1 hw4 => ?_)
      refine yy_widen (cs2 := 1) (ss2 := 6) (show 0 + 1 ≤ 1 by omega) (show 0 + 6 ≤ 6 by omega) ?_
      subst hQ
      exact ye_i C hr (vp_nar_int _) (u1, z3) dL_acts_363 rfl (by decide) (by decide) (AB.ac hR (ab_answer hR.1 hw4))
    · skip
      refine yy_tab C (tgt := 364) (off := 335) dL_acts_29 (by decide) (by decide) rfl (by decide) ?_
      refine yy_aload_n C 2 dL_acts_364 (pc' := 365) rfl rfl rfl ?_
      refine yy_aload_n C 4 dL_acts_365 (pc' := 366) rfl rfl rfl ?_
      refine yy_iconst C (v := (nI 5)) dL_acts_366 (pc' := 367) rfl (by decide) ?_
      refine yy_bipush C (v := (nI 20)) dL_acts_367 (pc' := 369) rfl (by decide) ?_
      refine yy_perm (w' := (dr, .inr (10, [.int z2])) :: (wA G ad S ++ F)) List.perm_middle ?_
      refine yc_i (yr_S C (As := [.ref (dr), .int (nI 5), .int (nI 20)]) (rest := [.ref (ad 0)]) lk_L_125 cd_L_number st_L_number (mL_number l G B0 dr (wA G ad S ++ F) z2 5 (nI 20) (by decide)) ⟨by decide, by decide⟩ ⟨(show 0 + 0 ≤ 1 by omega), (show 0 + 0 ≤ 6 by omega)⟩ rfl rfl (Nat.le_of_ble_eq_true rfl) dL_acts_369) (pc' := 372) rfl (fun r3 z3 _ => ?_)
      refine yy_perm (w' := wA G ad S ++ ((dr, .inr (10, [.int z3])) :: F)) List.perm_middle.symm ?_
      refine yc_i (yr_SW C (As := [.ref (ad 0), .int r3]) (rest := []) lk_L_157 cd_L_withdraw st_L_withdraw (mL_withdraw l hl0 G B0 ad ((dr, .inr (10, [.int z3])) :: F) S r3 hR.1.1) ⟨by decide, by decide⟩ ⟨(show 0 + 1 ≤ 1 by omega), (show 0 + 6 ≤ 6 by omega)⟩ rfl rfl (Nat.le_of_ble_eq_true rfl) dL_acts_372) (pc' := 375) rfl (fun r4 u1 hw4 => ?_)
      refine yy_widen (cs2 := 1) (ss2 := 6) (show 0 + 1 ≤ 1 by omega) (show 0 + 6 ≤ 6 by omega) ?_
      subst hQ
      exact ye_i C hr (vp_nar_int _) (u1, z3) dL_acts_375 rfl (by decide) (by decide) (AB.ac hR (ab_withdraw hR.1 hw4))
    · skip
      refine yy_tab C (tgt := 376) (off := 347) dL_acts_29 (by decide) (by decide) rfl (by decide) ?_
      refine yy_aload_n C 2 dL_acts_376 (pc' := 377) rfl rfl rfl ?_
      refine yy_iload C 1 dL_acts_377 (pc' := 379) rfl rfl ?_
      refine yy_if_eq C dL_acts_379 (pc' := 382) rfl (tgt := 387) (by decide) (fun c_379 => ?_) (fun c_379 => ?_)
      · skip
        exact absurd c_379 (by decide)
      · skip
        refine yy_bipush C (v := (nI 100)) dL_acts_382 (pc' := 384) rfl (by decide) ?_
        refine yy_goto C (tgt := 393) dL_acts_384 (by decide) ?_
        refine yc_i (yr_SW C (As := [.ref (ad 0), .int (nI 100)]) (rest := []) lk_L_159 cd_L_setPrice st_L_setPrice (mL_setPrice l hl0 G B0 ad ((dr, .inr (10, [.int z2])) :: F) S (nI 100) hR.1.1) ⟨by decide, by decide⟩ ⟨(show 0 + 1 ≤ 1 by omega), (show 0 + 6 ≤ 6 by omega)⟩ rfl rfl (Nat.le_of_ble_eq_true rfl) dL_acts_393) (pc' := 396) rfl (fun r3 u1 hw3 => ?_)
        refine yy_widen (cs2 := 1) (ss2 := 6) (show 0 + 1 ≤ 1 by omega) (show 0 + 6 ≤ 6 by omega) ?_
        subst hQ
        exact ye_i C hr (vp_nar_int _) (u1, z2) dL_acts_396 rfl (by decide) (by decide) (AB.ac hR (ab_setPrice hR.1 hw3))
    · skip
      refine yy_tab C (tgt := 397) (off := 368) dL_acts_29 (by decide) (by decide) rfl (by decide) ?_
      refine yy_aload_n C 2 dL_acts_397 (pc' := 398) rfl rfl rfl ?_
      refine yy_aload_n C 4 dL_acts_398 (pc' := 399) rfl rfl rfl ?_
      refine yy_iconst C (v := (nI 3)) dL_acts_399 (pc' := 400) rfl (by decide) ?_
      refine yy_iconst C (v := (nI 5)) dL_acts_400 (pc' := 401) rfl (by decide) ?_
      refine yy_perm (w' := (dr, .inr (10, [.int z2])) :: (wA G ad S ++ F)) List.perm_middle ?_
      refine yc_i (yr_S C (As := [.ref (dr), .int (nI 3), .int (nI 5)]) (rest := [.ref (ad 0)]) lk_L_125 cd_L_number st_L_number (mL_number l G B0 dr (wA G ad S ++ F) z2 3 (nI 5) (by decide)) ⟨by decide, by decide⟩ ⟨(show 0 + 0 ≤ 1 by omega), (show 0 + 0 ≤ 6 by omega)⟩ rfl rfl (Nat.le_of_ble_eq_true rfl) dL_acts_401) (pc' := 404) rfl (fun r3 z3 _ => ?_)
      refine yy_perm (w' := wA G ad S ++ ((dr, .inr (10, [.int z3])) :: F)) List.perm_middle.symm ?_
      refine yy_iconst C (v := (nI 1)) dL_acts_404 (pc' := 405) rfl (by decide) ?_
      refine yy_aload_n C 4 dL_acts_405 (pc' := 406) rfl rfl rfl ?_
      refine yy_bipush C (v := (nI 30)) dL_acts_406 (pc' := 408) rfl (by decide) ?_
      refine yy_perm (w' := (dr, .inr (10, [.int z3])) :: (wA G ad S ++ F)) List.perm_middle ?_
      refine yc_i (yr_V C (As := [.int (nI 30)]) (rest := [.int (nI 1), .int r3, .ref (ad 0)]) lk_L_115 cd_X7_next im_X7_next se_X7_next (mX7_next l G B0 dr (wA G ad S ++ F) z3 30 (by decide)) ⟨by decide, by decide⟩ ⟨(show 0 + 0 ≤ 1 by omega), (show 0 + 0 ≤ 6 by omega)⟩ 0 rfl rfl rfl rfl (Nat.le_of_ble_eq_true rfl) dL_acts_408) (pc' := 411) rfl (fun r4 z4 hw4 => ?_)
      refine yy_perm (w' := wA G ad S ++ ((dr, .inr (10, [.int z4])) :: F)) List.perm_middle.symm ?_
      refine yy_iadd C (v := ((nI 1) + r4)) dL_acts_411 (pc' := 412) rfl rfl ?_
      refine yc_i (yr_SW C (As := [.ref (ad 0), .int r3, .int ((nI 1) + r4)]) (rest := []) lk_L_161 cd_L_pay st_L_pay (mL_pay l hl0 G B0 ad ((dr, .inr (10, [.int z4])) :: F) S r3 ((nI 1) + r4) hR.1.1) ⟨by decide, by decide⟩ ⟨(show 0 + 1 ≤ 1 by omega), (show 0 + 6 ≤ 6 by omega)⟩ rfl rfl (Nat.le_of_ble_eq_true rfl) dL_acts_412) (pc' := 415) rfl (fun r5 u1 hw5 => ?_)
      refine yy_widen (cs2 := 1) (ss2 := 6) (show 0 + 1 ≤ 1 by omega) (show 0 + 6 ≤ 6 by omega) ?_
      subst hQ
      exact ye_i C hr (vp_nar_int _) (u1, z4) dL_acts_415 rfl (by decide) (by decide) (AB.ac hR (ab_pay hR.1 hw5))
    · skip
      refine yy_tab C (tgt := 397) (off := 368) dL_acts_29 (by decide) (by decide) rfl (by decide) ?_
      refine yy_aload_n C 2 dL_acts_397 (pc' := 398) rfl rfl rfl ?_
      refine yy_aload_n C 4 dL_acts_398 (pc' := 399) rfl rfl rfl ?_
      refine yy_iconst C (v := (nI 3)) dL_acts_399 (pc' := 400) rfl (by decide) ?_
      refine yy_iconst C (v := (nI 5)) dL_acts_400 (pc' := 401) rfl (by decide) ?_
      refine yy_perm (w' := (dr, .inr (10, [.int z2])) :: (wA G ad S ++ F)) List.perm_middle ?_
      refine yc_i (yr_S C (As := [.ref (dr), .int (nI 3), .int (nI 5)]) (rest := [.ref (ad 0)]) lk_L_125 cd_L_number st_L_number (mL_number l G B0 dr (wA G ad S ++ F) z2 3 (nI 5) (by decide)) ⟨by decide, by decide⟩ ⟨(show 0 + 0 ≤ 1 by omega), (show 0 + 0 ≤ 6 by omega)⟩ rfl rfl (Nat.le_of_ble_eq_true rfl) dL_acts_401) (pc' := 404) rfl (fun r3 z3 _ => ?_)
      refine yy_perm (w' := wA G ad S ++ ((dr, .inr (10, [.int z3])) :: F)) List.perm_middle.symm ?_
      refine yy_iconst C (v := (nI 1)) dL_acts_404 (pc' := 405) rfl (by decide) ?_
      refine yy_aload_n C 4 dL_acts_405 (pc' := 406) rfl rfl rfl ?_
      refine yy_bipush C (v := (nI 30)) dL_acts_406 (pc' := 408) rfl (by decide) ?_
      refine yy_perm (w' := (dr, .inr (10, [.int z3])) :: (wA G ad S ++ F)) List.perm_middle ?_
      refine yc_i (yr_V C (As := [.int (nI 30)]) (rest := [.int (nI 1), .int r3, .ref (ad 0)]) lk_L_115 cd_X7_next im_X7_next se_X7_next (mX7_next l G B0 dr (wA G ad S ++ F) z3 30 (by decide)) ⟨by decide, by decide⟩ ⟨(show 0 + 0 ≤ 1 by omega), (show 0 + 0 ≤ 6 by omega)⟩ 0 rfl rfl rfl rfl (Nat.le_of_ble_eq_true rfl) dL_acts_408) (pc' := 411) rfl (fun r4 z4 hw4 => ?_)
      refine yy_perm (w' := wA G ad S ++ ((dr, .inr (10, [.int z4])) :: F)) List.perm_middle.symm ?_
      refine yy_iadd C (v := ((nI 1) + r4)) dL_acts_411 (pc' := 412) rfl rfl ?_
      refine yc_i (yr_SW C (As := [.ref (ad 0), .int r3, .int ((nI 1) + r4)]) (rest := []) lk_L_161 cd_L_pay st_L_pay (mL_pay l hl0 G B0 ad ((dr, .inr (10, [.int z4])) :: F) S r3 ((nI 1) + r4) hR.1.1) ⟨by decide, by decide⟩ ⟨(show 0 + 1 ≤ 1 by omega), (show 0 + 6 ≤ 6 by omega)⟩ rfl rfl (Nat.le_of_ble_eq_true rfl) dL_acts_412) (pc' := 415) rfl (fun r5 u1 hw5 => ?_)
      refine yy_widen (cs2 := 1) (ss2 := 6) (show 0 + 1 ≤ 1 by omega) (show 0 + 6 ≤ 6 by omega) ?_
      subst hQ
      exact ye_i C hr (vp_nar_int _) (u1, z4) dL_acts_415 rfl (by decide) (by decide) (AB.ac hR (ab_pay hR.1 hw5))
    · skip
      refine yy_tabO C (tgt := 416) dL_acts_29 (by decide) (by decide) (by decide) ?_
      refine yy_aload_n C 2 dL_acts_416 (pc' := 417) rfl rfl rfl ?_
      refine yy_iload C 1 dL_acts_417 (pc' := 419) rfl rfl ?_
      refine yy_if_eq C dL_acts_419 (pc' := 422) rfl (tgt := 427) (by decide) (fun c_419 => ?_) (fun c_419 => ?_)
      · skip
        exact absurd c_419 (by decide)
      · skip
        refine yy_bipush C (v := (nI 91)) dL_acts_422 (pc' := 424) rfl (by decide) ?_
        refine yy_goto C (tgt := 435) dL_acts_424 (by decide) ?_
        refine yc_i (yr_SW C (As := [.ref (ad 0), .int (nI 91)]) (rest := []) lk_L_163 cd_L_pass st_L_pass (mL_pass l hl0 G B0 ad ((dr, .inr (10, [.int z2])) :: F) S (nI 91) hR.1.1) ⟨by decide, by decide⟩ ⟨(show 0 + 1 ≤ 1 by omega), (show 0 + 6 ≤ 6 by omega)⟩ rfl rfl (Nat.le_of_ble_eq_true rfl) dL_acts_435) (pc' := 438) rfl (fun r3 u1 hw3 => ?_)
        refine yy_widen (cs2 := 1) (ss2 := 6) (show 0 + 1 ≤ 1 by omega) (show 0 + 6 ≤ 6 by omega) ?_
        subst hQ
        exact ye_i C hr (vp_nar_int _) (u1, z2) dL_acts_438 rfl (by decide) (by decide) (AB.ac hR (ab_pass hR.1 hw3))
    · skip
      refine yy_tabO C (tgt := 416) dL_acts_29 (by decide) (by decide) (by decide) ?_
      refine yy_aload_n C 2 dL_acts_416 (pc' := 417) rfl rfl rfl ?_
      refine yy_iload C 1 dL_acts_417 (pc' := 419) rfl rfl ?_
      refine yy_if_eq C dL_acts_419 (pc' := 422) rfl (tgt := 427) (by decide) (fun c_419 => ?_) (fun c_419 => ?_)
      · skip
        exact absurd c_419 (by decide)
      · skip
        refine yy_bipush C (v := (nI 91)) dL_acts_422 (pc' := 424) rfl (by decide) ?_
        refine yy_goto C (tgt := 435) dL_acts_424 (by decide) ?_
        refine yc_i (yr_SW C (As := [.ref (ad 0), .int (nI 91)]) (rest := []) lk_L_163 cd_L_pass st_L_pass (mL_pass l hl0 G B0 ad ((dr, .inr (10, [.int z2])) :: F) S (nI 91) hR.1.1) ⟨by decide, by decide⟩ ⟨(show 0 + 1 ≤ 1 by omega), (show 0 + 6 ≤ 6 by omega)⟩ rfl rfl (Nat.le_of_ble_eq_true rfl) dL_acts_435) (pc' := 438) rfl (fun r3 u1 hw3 => ?_)
        refine yy_widen (cs2 := 1) (ss2 := 6) (show 0 + 1 ≤ 1 by omega) (show 0 + 6 ≤ 6 by omega) ?_
        subst hQ
        exact ye_i C hr (vp_nar_int _) (u1, z2) dL_acts_438 rfl (by decide) (by decide) (AB.ac hR (ab_pass hR.1 hw3))
    · skip
      refine yy_tabO C (tgt := 416) dL_acts_29 (by decide) (by decide) (by decide) ?_
      refine yy_aload_n C 2 dL_acts_416 (pc' := 417) rfl rfl rfl ?_
      refine yy_iload C 1 dL_acts_417 (pc' := 419) rfl rfl ?_
      refine yy_if_eq C dL_acts_419 (pc' := 422) rfl (tgt := 427) (by decide) (fun c_419 => ?_) (fun c_419 => ?_)
      · skip
        exact absurd c_419 (by decide)
      · skip
        refine yy_bipush C (v := (nI 91)) dL_acts_422 (pc' := 424) rfl (by decide) ?_
        refine yy_goto C (tgt := 435) dL_acts_424 (by decide) ?_
        refine yc_i (yr_SW C (As := [.ref (ad 0), .int (nI 91)]) (rest := []) lk_L_163 cd_L_pass st_L_pass (mL_pass l hl0 G B0 ad ((dr, .inr (10, [.int z2])) :: F) S (nI 91) hR.1.1) ⟨by decide, by decide⟩ ⟨(show 0 + 1 ≤ 1 by omega), (show 0 + 6 ≤ 6 by omega)⟩ rfl rfl (Nat.le_of_ble_eq_true rfl) dL_acts_435) (pc' := 438) rfl (fun r3 u1 hw3 => ?_)
        refine yy_widen (cs2 := 1) (ss2 := 6) (show 0 + 1 ≤ 1 by omega) (show 0 + 6 ≤ 6 by omega) ?_
        subst hQ
        exact ye_i C hr (vp_nar_int _) (u1, z2) dL_acts_438 rfl (by decide) (by decide) (AB.ac hR (ab_pass hR.1 hw3))
