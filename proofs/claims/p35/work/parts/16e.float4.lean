theorem pm_3_4_0_1_2 {α : Type} (c0_ c1_ c2_ c3_ c4_ : α) (t_ : List α) : List.Perm (c0_ :: c1_ :: c2_ :: c3_ :: c4_ :: t_) (c3_ :: c4_ :: c0_ :: c1_ :: c2_ :: t_) := by
  have h : List.Perm [c0_, c1_, c2_, c3_, c4_] [c3_, c4_, c0_, c1_, c2_] := perm_at (x := [c0_, c1_, c2_, c3_, c4_]) [3, 4, 0, 1, 2] (by rw [show List.length [c0_, c1_, c2_, c3_, c4_] = 5 from rfl]; decide +kernel) rfl
  exact List.Perm.append_right t_ h
def bqF (f : UInt32) : Int32 := ush32 f.toInt32 (nI 23) &&& nI 255
def mqF (f : UInt32) : Int32 := nI 150 - bqF f
def cF (f : UInt32) : Int32 := nI 8388608 ||| (f.toInt32 &&& nI 8388607)
def tdP (f : UInt32) : Int32 × Int32 :=
  if (mqF f) ≤ (nI 0) then (if (nI 24) ≤ (mqF f) then (td3 (-(mqF f)) (cF f)) else (td3 (-(mqF f)) (cF f))) else (if (nI 24) ≤ (mqF f) then (td3 (-(mqF f)) (cF f)) else (if (((cF f) >>> ((mqF f) &&& 31)) <<< ((mqF f) &&& 31)) = (cF f) then ((((cF f) >>> ((mqF f) &&& 31)), (nI 0))) else (td3 (-(mqF f)) (cF f))))
def ftA (f : UInt32) : Nat → Int32 := tcA (fun _ => 0) (tdP f).1 (tdP f).2
def ftR (f : UInt32) : Nat := tcR (fun _ => 0) (tdP f).1 (tdP f).2
/-- a float's letters -/
def tF (f : UInt32) : TT := (fun i => ix (ftA f i), ftR f + 1)
theorem tF_2 (f : UInt32) : (tF f).2 = ftR f + 1 := by simp only [tF]
theorem tF_1 (f : UInt32) (j : Nat) : (tF f).1 j = ix (ftA f j) := by simp only [tF]
def okD (f : UInt32) : Prop := 0 ≤ f.toInt32 ∧ ¬ nI 255 ≤ bqF f ∧ ¬ bqF f = 0 ∧ ¬ -(mqF f) = -149 ∧ gIx (fl10 (-(mqF f))) < 1234 ∧ gIx (fl34 (-(mqF f))) < 1234 ∧ okTC (tdP f).1 (tdP f).2
def okF (f : UInt32) : Prop := okD f ∧ ftR f < 14 ∧ ∀ i, i < ftR f + 1 → ix (ftA f i) < 128
theorem i2c_ix {x : Int32} (h : ix x < 65536) : (x.toUInt32 % 65536).toInt32 = nI (ix x) := by
  have e : x = nI (ix x) := (nI_ix x).symm
  have h1 : 0 ≤ x.toInt := by rw [e, nI_toInt (by omega)]; omega
  have h2 : x.toInt < 65536 := by rw [e, nI_toInt (by omega)]; omega
  rw [lg_i2c_word h1 h2, nI_ix]
theorem nar_c {k : Nat} (h : k < 65536) : vp_nar .char (nI k) = nI k := by
  unfold vp_nar
  rw [(pk_charN h).1]

abbrev rJx40b00_toDecimal_5c35a : Room := { frames := 6, cells := 0, slots := 0, locals := 174 }
set_option maxHeartbeats 1000000 in
set_option maxRecDepth 100000 in
theorem mJx40b00_toDecimal_5c35a (l : Launch) (G : gG) (B0 : Nat) (fd fb : Nat) (F : va_W) (f : UInt32) (hok0 : okD f) : Met l yJx40b00_toDecimal_5c35a (Cond.code yJx40b00_toDecimal_5c35a cJx40b00_toDecimal_5c35a 8 (some .int) :: WG) rJx40b00_toDecimal_5c35a (va_Pc [.ref (fd), .float f] (PR G B0 (((fd, .inr (2, [.ref (fb), .int (nI 0)])) :: (fb, .inl (G.2.2.2.1, 15, .inl (fun _ => 0))) :: F)))) (va_Qi (fun (r : Int32) (_ : Unit) => r = nI 0) (fun (_ : Unit) (t_ : State) => va_P G.1 vwCl (((fd, .inr (2, [.ref (fb), .int (nI (ftR f))])) :: (fb, .inl (G.2.2.2.1, 15, .inl (ftA f))) :: F)) t_.heap ∧ va_D (fun q => B0 ≤ q) (((fd, .inr (2, [.ref (fb), .int (nI (ftR f))])) :: (fb, .inl (G.2.2.2.1, 15, .inl (ftA f))) :: F))) (fun q => B0 ≤ q)) rJx40b00_toDecimal_5c35a.cells rJx40b00_toDecimal_5c35a.slots (fun q => B0 ≤ q) := by
  refine met_of RJx40b00 [(0, .ref (fd)), (1, .float f)] rfl (by decide) (Nat.le_of_ble_eq_true rfl) rfl ?_
  intro p e s m args below meth c C hr hnm
  refine yq ?_
  intro QQ hQ
  obtain ⟨o1, o2, o3, o4, o5, o6, o7⟩ := hok0
  refine yy_fload_n C 1 dJx40b00_toDecimal_5c35a_0 (pc' := 1) rfl rfl rfl ?_
  refine yy_f2i C lx_Jx40b00_65 nt_f2i st_f2i ii_float dJx40b00_toDecimal_5c35a_1 (pc' := 4) rfl (by decide) (by decide) ?_
  refine yy_istore_n C (L' := [(2, .int f.toInt32), (0, .ref (fd)), (1, .float f)]) dJx40b00_toDecimal_5c35a_4 (pc' := 5) rfl rfl (by decide) rfl ?_
  refine yy_iload_n C 0 dJx40b00_toDecimal_5c35a_5 (pc' := 6) rfl rfl rfl ?_
  refine yy_ldci C (v := (nI 8388607)) dJx40b00_toDecimal_5c35a_6 (pc' := 8) rfl li_Jx40b00_68 ?_
  refine yy_iand C (v := (f.toInt32 &&& (nI 8388607))) dJx40b00_toDecimal_5c35a_8 (pc' := 9) rfl rfl ?_
  refine yy_istore_n C (L' := [(3, .int (f.toInt32 &&& (nI 8388607))), (2, .int f.toInt32), (0, .ref (fd)), (1, .float f)]) dJx40b00_toDecimal_5c35a_9 (pc' := 10) rfl rfl (by decide) rfl ?_
  refine yy_iload_n C 1 dJx40b00_toDecimal_5c35a_10 (pc' := 11) rfl rfl rfl ?_
  refine yy_bipush C (v := (nI 23)) dJx40b00_toDecimal_5c35a_11 (pc' := 13) rfl (by decide) ?_
  refine yy_iushr C (v := (ush32 f.toInt32 (nI 23))) dJx40b00_toDecimal_5c35a_13 (pc' := 14) rfl rfl ?_
  refine yy_sipush C (v := (nI 255)) dJx40b00_toDecimal_5c35a_14 (pc' := 17) rfl (by decide) ?_
  refine yy_iand C (v := (bqF f)) dJx40b00_toDecimal_5c35a_17 (pc' := 18) rfl rfl ?_
  refine yy_istore C (L' := [(4, .int (bqF f)), (3, .int (f.toInt32 &&& (nI 8388607))), (2, .int f.toInt32), (0, .ref (fd)), (1, .float f)]) dJx40b00_toDecimal_5c35a_18 (pc' := 20) rfl (by decide) rfl ?_
  refine yy_iload C 0 dJx40b00_toDecimal_5c35a_20 (pc' := 22) rfl rfl ?_
  refine yy_sipush C (v := (nI 255)) dJx40b00_toDecimal_5c35a_22 (pc' := 25) rfl (by decide) ?_
  refine yy_icmp_ge C dJx40b00_toDecimal_5c35a_25 (pc' := 28) rfl (tgt := 170) (by decide) (fun c_25 => ?_) (fun c_25 => ?_)
  · skip
    exact absurd c_25 o2
  · skip
    refine yy_aload_n C 3 dJx40b00_toDecimal_5c35a_28 (pc' := 29) rfl rfl rfl ?_
    refine yy_iconst C (v := (-1)) dJx40b00_toDecimal_5c35a_29 (pc' := 30) rfl (by decide) ?_
    refine yy_put C (w' := ((fd, .inr (2, [.ref (fb), .int (-1)])) :: (fb, .inl (G.2.2.2.1, 15, .inl (fun _ => 0))) :: F)) fk_Jx40b00_42 fpJx40b00 rfl 0 dJx40b00_toDecimal_5c35a_30 (pc' := 33) rfl rfl rfl rfl (Nat.le_of_ble_eq_true rfl) rfl ?_
    refine yy_iload_n C 2 dJx40b00_toDecimal_5c35a_33 (pc' := 34) rfl rfl rfl ?_
    refine yy_if_ge C dJx40b00_toDecimal_5c35a_34 (pc' := 37) rfl (tgt := 43) (by decide) (fun c_34 => ?_) (fun c_34 => ?_)
    · skip
      refine yy_iload C 0 dJx40b00_toDecimal_5c35a_43 (pc' := 45) rfl rfl ?_
      refine yy_if_eq C dJx40b00_toDecimal_5c35a_45 (pc' := 48) rfl (tgt := 125) (by decide) (fun c_45 => ?_) (fun c_45 => ?_)
      · skip
        exact absurd c_45 o3
      · skip
        refine yy_sipush C (v := (nI 150)) dJx40b00_toDecimal_5c35a_48 (pc' := 51) rfl (by decide) ?_
        refine yy_iload C 0 dJx40b00_toDecimal_5c35a_51 (pc' := 53) rfl rfl ?_
        refine yy_isub C (v := (mqF f)) dJx40b00_toDecimal_5c35a_53 (pc' := 54) rfl rfl ?_
        refine yy_istore C (L' := [(5, .int (mqF f)), (4, .int (bqF f)), (3, .int (f.toInt32 &&& (nI 8388607))), (2, .int f.toInt32), (0, .ref (fd)), (1, .float f)]) dJx40b00_toDecimal_5c35a_54 (pc' := 56) rfl (by decide) rfl ?_
        refine yy_ldci C (v := (nI 8388608)) dJx40b00_toDecimal_5c35a_56 (pc' := 58) rfl li_Jx40b00_72 ?_
        refine yy_iload_n C 2 dJx40b00_toDecimal_5c35a_58 (pc' := 59) rfl rfl rfl ?_
        refine yy_ior C (v := (cF f)) dJx40b00_toDecimal_5c35a_59 (pc' := 60) rfl rfl ?_
        refine yy_istore C (L' := [(6, .int (cF f)), (5, .int (mqF f)), (4, .int (bqF f)), (3, .int (f.toInt32 &&& (nI 8388607))), (2, .int f.toInt32), (0, .ref (fd)), (1, .float f)]) dJx40b00_toDecimal_5c35a_60 (pc' := 62) rfl (by decide) rfl ?_
        refine yy_iconst C (v := (nI 0)) dJx40b00_toDecimal_5c35a_62 (pc' := 63) rfl (by decide) ?_
        refine yy_iload C 1 dJx40b00_toDecimal_5c35a_63 (pc' := 65) rfl rfl ?_
        refine yy_icmp_ge C dJx40b00_toDecimal_5c35a_65 (pc' := 68) rfl (tgt := 72) (by decide) (fun c_65 => ?_) (fun c_65 => ?_)
        · skip
          refine yy_iconst C (v := (nI 0)) dJx40b00_toDecimal_5c35a_72 (pc' := 73) rfl (by decide) ?_
          refine yy_iload C 1 dJx40b00_toDecimal_5c35a_73 (pc' := 75) rfl rfl ?_
          refine yy_bipush C (v := (nI 24)) dJx40b00_toDecimal_5c35a_75 (pc' := 77) rfl (by decide) ?_
          refine yy_icmp_ge C dJx40b00_toDecimal_5c35a_77 (pc' := 80) rfl (tgt := 84) (by decide) (fun c_77 => ?_) (fun c_77 => ?_)
          · skip
            refine yy_iconst C (v := (nI 0)) dJx40b00_toDecimal_5c35a_84 (pc' := 85) rfl (by decide) ?_
            refine yy_iand C (v := (nI 0)) dJx40b00_toDecimal_5c35a_85 (pc' := 86) rfl (by decide) ?_
            refine yy_if_eq C dJx40b00_toDecimal_5c35a_86 (pc' := 89) rfl (tgt := 114) (by decide) (fun c_86 => ?_) (fun c_86 => ?_)
            · skip
              refine yy_aload_n C 5 dJx40b00_toDecimal_5c35a_114 (pc' := 115) rfl rfl rfl ?_
              refine yy_iload C 1 dJx40b00_toDecimal_5c35a_115 (pc' := 117) rfl rfl ?_
              refine yy_ineg C (v := (-(mqF f))) dJx40b00_toDecimal_5c35a_117 (pc' := 118) rfl rfl ?_
              refine yy_iload C 0 dJx40b00_toDecimal_5c35a_118 (pc' := 120) rfl rfl ?_
              refine yy_iconst C (v := (nI 0)) dJx40b00_toDecimal_5c35a_120 (pc' := 121) rfl (by decide) ?_
              refine yc_i (yr_V C (n := 3) (As := [.int (-(mqF f)), .int (cF f), .int (nI 0)]) (rest := []) lk_Jx40b00_77 cd_Jx40b00_toDecimal_cabcc im_Jx40b00_toDecimal_cabcc se_Jx40b00_toDecimal_cabcc (mJx40b00_toDecimal_cabcc l G B0 fd fb (fun _ => 0) F (-(mqF f)) (cF f) o4 o5 o6 (by have hok' := o7; unfold tdP at hok'; rw [if_pos c_65, if_pos c_77] at hok'; exact hok')) ⟨by decide, by decide⟩ ⟨by decide, by decide⟩ 0 rfl rfl rfl rfl (Nat.le_of_ble_eq_true rfl) dJx40b00_toDecimal_5c35a_121) (pc' := 124) rfl (fun r1 _ hw1 => ?_)
              subst hw1
              subst hQ
              exact ye_i C hr (vp_nar_int _) () dJx40b00_toDecimal_5c35a_124 (by unfold ftR ftA tdP; rw [if_pos c_65, if_pos c_77]) (by decide) (by decide) rfl
            · skip
              exact absurd c_86 (by decide)
          · skip
            refine yy_iconst C (v := (nI 1)) dJx40b00_toDecimal_5c35a_80 (pc' := 81) rfl (by decide) ?_
            refine yy_goto C (tgt := 85) dJx40b00_toDecimal_5c35a_81 (by decide) ?_
            refine yy_iand C (v := (nI 0)) dJx40b00_toDecimal_5c35a_85 (pc' := 86) rfl (by decide) ?_
            refine yy_if_eq C dJx40b00_toDecimal_5c35a_86 (pc' := 89) rfl (tgt := 114) (by decide) (fun c_86 => ?_) (fun c_86 => ?_)
            · skip
              refine yy_aload_n C 5 dJx40b00_toDecimal_5c35a_114 (pc' := 115) rfl rfl rfl ?_
              refine yy_iload C 1 dJx40b00_toDecimal_5c35a_115 (pc' := 117) rfl rfl ?_
              refine yy_ineg C (v := (-(mqF f))) dJx40b00_toDecimal_5c35a_117 (pc' := 118) rfl rfl ?_
              refine yy_iload C 0 dJx40b00_toDecimal_5c35a_118 (pc' := 120) rfl rfl ?_
              refine yy_iconst C (v := (nI 0)) dJx40b00_toDecimal_5c35a_120 (pc' := 121) rfl (by decide) ?_
              refine yc_i (yr_V C (n := 3) (As := [.int (-(mqF f)), .int (cF f), .int (nI 0)]) (rest := []) lk_Jx40b00_77 cd_Jx40b00_toDecimal_cabcc im_Jx40b00_toDecimal_cabcc se_Jx40b00_toDecimal_cabcc (mJx40b00_toDecimal_cabcc l G B0 fd fb (fun _ => 0) F (-(mqF f)) (cF f) o4 o5 o6 (by have hok' := o7; unfold tdP at hok'; rw [if_pos c_65, if_neg c_77] at hok'; exact hok')) ⟨by decide, by decide⟩ ⟨by decide, by decide⟩ 0 rfl rfl rfl rfl (Nat.le_of_ble_eq_true rfl) dJx40b00_toDecimal_5c35a_121) (pc' := 124) rfl (fun r1 _ hw1 => ?_)
              subst hw1
              subst hQ
              exact ye_i C hr (vp_nar_int _) () dJx40b00_toDecimal_5c35a_124 (by unfold ftR ftA tdP; rw [if_pos c_65, if_neg c_77]) (by decide) (by decide) rfl
            · skip
              exact absurd c_86 (by decide)
        · skip
          refine yy_iconst C (v := (nI 1)) dJx40b00_toDecimal_5c35a_68 (pc' := 69) rfl (by decide) ?_
          refine yy_goto C (tgt := 73) dJx40b00_toDecimal_5c35a_69 (by decide) ?_
          refine yy_iload C 1 dJx40b00_toDecimal_5c35a_73 (pc' := 75) rfl rfl ?_
          refine yy_bipush C (v := (nI 24)) dJx40b00_toDecimal_5c35a_75 (pc' := 77) rfl (by decide) ?_
          refine yy_icmp_ge C dJx40b00_toDecimal_5c35a_77 (pc' := 80) rfl (tgt := 84) (by decide) (fun c_77 => ?_) (fun c_77 => ?_)
          · skip
            refine yy_iconst C (v := (nI 0)) dJx40b00_toDecimal_5c35a_84 (pc' := 85) rfl (by decide) ?_
            refine yy_iand C (v := (nI 0)) dJx40b00_toDecimal_5c35a_85 (pc' := 86) rfl (by decide) ?_
            refine yy_if_eq C dJx40b00_toDecimal_5c35a_86 (pc' := 89) rfl (tgt := 114) (by decide) (fun c_86 => ?_) (fun c_86 => ?_)
            · skip
              refine yy_aload_n C 5 dJx40b00_toDecimal_5c35a_114 (pc' := 115) rfl rfl rfl ?_
              refine yy_iload C 1 dJx40b00_toDecimal_5c35a_115 (pc' := 117) rfl rfl ?_
              refine yy_ineg C (v := (-(mqF f))) dJx40b00_toDecimal_5c35a_117 (pc' := 118) rfl rfl ?_
              refine yy_iload C 0 dJx40b00_toDecimal_5c35a_118 (pc' := 120) rfl rfl ?_
              refine yy_iconst C (v := (nI 0)) dJx40b00_toDecimal_5c35a_120 (pc' := 121) rfl (by decide) ?_
              refine yc_i (yr_V C (n := 3) (As := [.int (-(mqF f)), .int (cF f), .int (nI 0)]) (rest := []) lk_Jx40b00_77 cd_Jx40b00_toDecimal_cabcc im_Jx40b00_toDecimal_cabcc se_Jx40b00_toDecimal_cabcc (mJx40b00_toDecimal_cabcc l G B0 fd fb (fun _ => 0) F (-(mqF f)) (cF f) o4 o5 o6 (by have hok' := o7; unfold tdP at hok'; rw [if_neg c_65, if_pos c_77] at hok'; exact hok')) ⟨by decide, by decide⟩ ⟨by decide, by decide⟩ 0 rfl rfl rfl rfl (Nat.le_of_ble_eq_true rfl) dJx40b00_toDecimal_5c35a_121) (pc' := 124) rfl (fun r1 _ hw1 => ?_)
              subst hw1
              subst hQ
              exact ye_i C hr (vp_nar_int _) () dJx40b00_toDecimal_5c35a_124 (by unfold ftR ftA tdP; rw [if_neg c_65, if_pos c_77]) (by decide) (by decide) rfl
            · skip
              exact absurd c_86 (by decide)
          · skip
            refine yy_iconst C (v := (nI 1)) dJx40b00_toDecimal_5c35a_80 (pc' := 81) rfl (by decide) ?_
            refine yy_goto C (tgt := 85) dJx40b00_toDecimal_5c35a_81 (by decide) ?_
            refine yy_iand C (v := (nI 1)) dJx40b00_toDecimal_5c35a_85 (pc' := 86) rfl (by decide) ?_
            refine yy_if_eq C dJx40b00_toDecimal_5c35a_86 (pc' := 89) rfl (tgt := 114) (by decide) (fun c_86 => ?_) (fun c_86 => ?_)
            · skip
              exact absurd c_86 (by decide)
            · skip
              refine yy_iload C 0 dJx40b00_toDecimal_5c35a_89 (pc' := 91) rfl rfl ?_
              refine yy_iload C 1 dJx40b00_toDecimal_5c35a_91 (pc' := 93) rfl rfl ?_
              refine yy_ishr C (v := ((cF f) >>> ((mqF f) &&& 31))) dJx40b00_toDecimal_5c35a_93 (pc' := 94) rfl rfl ?_
              refine yy_istore C (L' := [(7, .int ((cF f) >>> ((mqF f) &&& 31))), (6, .int (cF f)), (5, .int (mqF f)), (4, .int (bqF f)), (3, .int (f.toInt32 &&& (nI 8388607))), (2, .int f.toInt32), (0, .ref (fd)), (1, .float f)]) dJx40b00_toDecimal_5c35a_94 (pc' := 96) rfl (by decide) rfl ?_
              refine yy_iload C 0 dJx40b00_toDecimal_5c35a_96 (pc' := 98) rfl rfl ?_
              refine yy_iload C 2 dJx40b00_toDecimal_5c35a_98 (pc' := 100) rfl rfl ?_
              refine yy_ishl C (v := (((cF f) >>> ((mqF f) &&& 31)) <<< ((mqF f) &&& 31))) dJx40b00_toDecimal_5c35a_100 (pc' := 101) rfl rfl ?_
              refine yy_iload C 1 dJx40b00_toDecimal_5c35a_101 (pc' := 103) rfl rfl ?_
              refine yy_icmp_ne C dJx40b00_toDecimal_5c35a_103 (pc' := 106) rfl (tgt := 114) (by decide) (fun c_103 => ?_) (fun c_103 => ?_)
              · skip
                refine yy_aload_n C 6 dJx40b00_toDecimal_5c35a_114 (pc' := 115) rfl rfl rfl ?_
                refine yy_iload C 2 dJx40b00_toDecimal_5c35a_115 (pc' := 117) rfl rfl ?_
                refine yy_ineg C (v := (-(mqF f))) dJx40b00_toDecimal_5c35a_117 (pc' := 118) rfl rfl ?_
                refine yy_iload C 1 dJx40b00_toDecimal_5c35a_118 (pc' := 120) rfl rfl ?_
                refine yy_iconst C (v := (nI 0)) dJx40b00_toDecimal_5c35a_120 (pc' := 121) rfl (by decide) ?_
                refine yc_i (yr_V C (n := 3) (As := [.int (-(mqF f)), .int (cF f), .int (nI 0)]) (rest := []) lk_Jx40b00_77 cd_Jx40b00_toDecimal_cabcc im_Jx40b00_toDecimal_cabcc se_Jx40b00_toDecimal_cabcc (mJx40b00_toDecimal_cabcc l G B0 fd fb (fun _ => 0) F (-(mqF f)) (cF f) o4 o5 o6 (by have hok' := o7; unfold tdP at hok'; rw [if_neg c_65, if_neg c_77, if_neg c_103] at hok'; exact hok')) ⟨by decide, by decide⟩ ⟨by decide, by decide⟩ 0 rfl rfl rfl rfl (Nat.le_of_ble_eq_true rfl) dJx40b00_toDecimal_5c35a_121) (pc' := 124) rfl (fun r1 _ hw1 => ?_)
                subst hw1
                subst hQ
                exact ye_i C hr (vp_nar_int _) () dJx40b00_toDecimal_5c35a_124 (by unfold ftR ftA tdP; rw [if_neg c_65, if_neg c_77, if_neg c_103]) (by decide) (by decide) rfl
              · skip
                refine yy_aload_n C 6 dJx40b00_toDecimal_5c35a_106 (pc' := 107) rfl rfl rfl ?_
                refine yy_iload C 0 dJx40b00_toDecimal_5c35a_107 (pc' := 109) rfl rfl ?_
                refine yy_iconst C (v := (nI 0)) dJx40b00_toDecimal_5c35a_109 (pc' := 110) rfl (by decide) ?_
                refine yc_i (yr_V C (n := 2) (As := [.int ((cF f) >>> ((mqF f) &&& 31)), .int (nI 0)]) (rest := []) lk_Jx40b00_73 cd_Jx40b00_toChars_7cf53 im_Jx40b00_toChars_7cf53 se_Jx40b00_toChars_7cf53 (mJx40b00_toChars_7cf53 l G B0 fd fb (fun _ => 0) F ((cF f) >>> ((mqF f) &&& 31)) (nI 0) (by have hok' := o7; unfold tdP at hok'; rw [if_neg c_65, if_neg c_77, if_pos c_103] at hok'; exact hok')) ⟨by decide, by decide⟩ ⟨by decide, by decide⟩ 0 rfl rfl rfl rfl (Nat.le_of_ble_eq_true rfl) dJx40b00_toDecimal_5c35a_110) (pc' := 113) rfl (fun r1 _ hw1 => ?_)
                subst hw1
                subst hQ
                exact ye_i C hr (vp_nar_int _) () dJx40b00_toDecimal_5c35a_113 (by unfold ftR ftA tdP; rw [if_neg c_65, if_neg c_77, if_pos c_103]) (by decide) (by decide) rfl
    · skip
      exact absurd o1 c_34

abbrev rJx40b00_init_da8c8 : Room := { frames := 1, cells := 1, slots := 15, locals := 14 }
set_option maxHeartbeats 1000000 in
set_option maxRecDepth 100000 in
theorem mJx40b00_init_da8c8 (l : Launch) (G : gG) (B0 : Nat) (fd : Nat) (F : va_W) : Met l yJx40b00_init_da8c8 (Cond.code yJx40b00_init_da8c8 cJx40b00_init_da8c8 1 none :: WG) rJx40b00_init_da8c8 (va_Pc [.ref (fd)] (PR G B0 (((fd, .inr (2, [.null, .int (nI 0)])) :: F)))) (va_Qv (fun (u : Nat) => True) (fun (u : Nat) (t_ : State) => va_P G.1 vwCl (((fd, .inr (2, [.ref (u), .int (nI 0)])) :: (u, .inl (G.2.2.2.1, 15, .inl (fun _ => 0))) :: F)) t_.heap ∧ va_D (fun q => B0 ≤ q) (((fd, .inr (2, [.ref (u), .int (nI 0)])) :: (u, .inl (G.2.2.2.1, 15, .inl (fun _ => 0))) :: F))) (fun q => B0 ≤ q)) rJx40b00_init_da8c8.cells rJx40b00_init_da8c8.slots (fun q => B0 ≤ q) := by
  refine met_of RJx40b00 [(0, .ref (fd))] rfl (by decide) (Nat.le_of_ble_eq_true rfl) rfl ?_
  intro p e s m args below meth c C hr hnm
  refine yq ?_
  intro QQ hQ
  refine yy_aload_n C 0 dJx40b00_init_da8c8_0 (pc' := 1) rfl rfl rfl ?_
  refine yy_objInit C ol_Jx40b00 im_obj cd_obj dJx40b00_init_da8c8_1 (pc' := 4) rfl (by decide) (by decide) ?_
  refine yy_aload_n C 0 dJx40b00_init_da8c8_4 (pc' := 5) rfl rfl rfl ?_
  refine yy_bipush C (v := (nI 15)) dJx40b00_init_da8c8_5 (pc' := 7) rfl (by decide) ?_
  refine yy_newaB C (N := 15) ac_byte dJx40b00_init_da8c8_7 (pc' := 9) rfl (by decide) (by decide) (Nat.le_of_ble_eq_true rfl) (Nat.le_of_ble_eq_true rfl) (fun q1 => ?_)
  refine yy_putF C (w' := ((q1, .inl (G.2.2.2.1, 15, .inl (fun _ => 0))) :: (fd, .inr (2, [.ref (q1), .int (nI 0)])) :: F)) fk_Jx40b00_11 fpJx40b00 rfl hnm rfl 1 dJx40b00_init_da8c8_9 (pc' := 12) rfl rfl rfl rfl (Nat.le_of_ble_eq_true rfl) rfl ?_
  refine yy_perm (w' := ((fd, .inr (2, [.ref (q1), .int (nI 0)])) :: (q1, .inl (G.2.2.2.1, 15, .inl (fun _ => 0))) :: F)) (pm_1_0 _ _ _) ?_
  subst hQ
  exact ye_v C hr q1 dJx40b00_init_da8c8_12 rfl (by decide) (by decide) trivial

abbrev rJ5_appendChars_0ad70 : Room := { frames := 1, cells := 0, slots := 0, locals := 20 }
set_option maxHeartbeats 1000000 in
set_option maxRecDepth 100000 in
theorem mJ5_appendChars_0ad70 (l : Launch) (G : gG) (B0 : Nat) (sb : Nat) (x : TT) (b : BU) (F : va_W) (ca : Nat) (y : TT) (g : Nat → Int32) (w_ : Nat) (hwy : w_ = y.2) (hg : ∀ j, j < y.2 → g j = nI (y.1 j)) (hy : ∀ j, j < y.2 → y.1 j < 128) (hy2 : y.2 ≤ 100) (h : BO x b) (hc : x.2 + y.2 ≤ b.2.1) : Met l yJ5_appendChars_0ad70 (Cond.code yJ5_appendChars_0ad70 cJ5_appendChars_0ad70 9 none :: WG) rJ5_appendChars_0ad70 (va_Pc [.ref (sb), .ref (ca), .int (nI 0), .int (nI w_)] (PR G B0 (((sb, .inr (1, [.ref (b.1), .int (nI 0), .int (nI 0), .int (nI x.2)])) :: (b.1, .inl (G.2.2.2.1, b.2.1, .inl b.2.2)) :: (ca, .inl (G.2.2.2.2, w_, .inl g)) :: F)))) (va_Qv (fun (u : BU) => BO (tcat x y) u) (fun (u : BU) (t_ : State) => va_P G.1 vwCl (((sb, .inr (1, [.ref (u.1), .int (nI 0), .int (nI 0), .int (nI ((tcat x y).2))])) :: (u.1, .inl (G.2.2.2.1, u.2.1, .inl u.2.2)) :: (ca, .inl (G.2.2.2.2, w_, .inl g)) :: F)) t_.heap ∧ va_D (fun q => B0 ≤ q) (((sb, .inr (1, [.ref (u.1), .int (nI 0), .int (nI 0), .int (nI ((tcat x y).2))])) :: (u.1, .inl (G.2.2.2.1, u.2.1, .inl u.2.2)) :: (ca, .inl (G.2.2.2.2, w_, .inl g)) :: F))) (fun q => B0 ≤ q)) rJ5_appendChars_0ad70.cells rJ5_appendChars_0ad70.slots (fun q => B0 ≤ q) := by
  refine met_of RJ5 [(0, .ref (sb)), (1, .ref (ca)), (2, .int (nI 0)), (3, .int (nI w_))] rfl (by decide) (Nat.le_of_ble_eq_true rfl) rfl ?_
  intro p e s m args below meth c C hr hnm
  refine yq ?_
  intro QQ hQ
  have hm := h.2.1
  subst hwy
  · skip
    refine yy_aload_n C 0 dJ5_appendChars_0ad70_0 (pc' := 1) rfl rfl rfl ?_
    refine yy_get C (v := .int (nI x.2)) fk_J5_79 0 dJ5_appendChars_0ad70_1 (pc' := 4) rfl rfl rfl ?_
    refine yy_istore C (L' := [(4, .int (nI x.2)), (0, .ref (sb)), (1, .ref (ca)), (2, .int (nI 0)), (3, .int (nI y.2))]) dJ5_appendChars_0ad70_4 (pc' := 6) rfl (by decide) rfl ?_
    refine yy_aload_n C 1 dJ5_appendChars_0ad70_6 (pc' := 7) rfl rfl rfl ?_
    refine yc_i (yr_U C (n := 0) (As := []) (rest := []) (x := yJ5_isLatin1_aae02) (owner := yJ5_isLatin1_aae02.cls) (Cn := RJ4) ly_J5_83 ii_J5 ⟨by decide, by decide, by decide +kernel⟩ sm_J5_isLatin1_aae02 im_J5_isLatin1_aae02 cd_J5_isLatin1_aae02 cd_J5_isLatin1_aae02 im_J5_isLatin1_aae02 (C.2.2.2.2.1 _ sx_J5_isLatin1_aae02) (mJ5_isLatin1_aae02 l G B0 sb x.2 b ((ca, .inl (G.2.2.2.2, y.2, .inl g)) :: F)) ⟨by decide, by decide⟩ ⟨by decide, by decide⟩ 0 rfl rfl rfl rfl (Nat.le_of_ble_eq_true rfl) dJ5_appendChars_0ad70_7) (pc' := 10) rfl (fun r1 _ hw1 => ?_)
    subst hw1
    refine yy_if_eq C dJ5_appendChars_0ad70_10 (pc' := 13) rfl (tgt := 107) (by decide) (fun c_10 => ?_) (fun c_10 => ?_)
    · skip
      exact absurd c_10 (by decide)
    · skip
      refine yy_aload_n C 1 dJ5_appendChars_0ad70_13 (pc' := 14) rfl rfl rfl ?_
      refine yy_get C (v := .ref (b.1)) fk_J5_15 0 dJ5_appendChars_0ad70_14 (pc' := 17) rfl rfl rfl ?_
      refine yy_astore C (L' := [(5, .ref (b.1)), (4, .int (nI x.2)), (0, .ref (sb)), (1, .ref (ca)), (2, .int (nI 0)), (3, .int (nI y.2))]) dJ5_appendChars_0ad70_17 (pc' := 19) rfl (by decide) rfl ?_
      refine yy_iload_n C 4 dJ5_appendChars_0ad70_19 (pc' := 20) rfl rfl rfl ?_
      refine yy_istore C (L' := [(6, .int (nI 0)), (5, .ref (b.1)), (4, .int (nI x.2)), (0, .ref (sb)), (1, .ref (ca)), (2, .int (nI 0)), (3, .int (nI y.2))]) dJ5_appendChars_0ad70_20 (pc' := 22) rfl (by decide) rfl ?_
      refine yy_iload C 2 dJ5_appendChars_0ad70_22 (pc' := 24) rfl rfl ?_
      refine yy_istore C (L' := [(7, .int (nI x.2)), (6, .int (nI 0)), (5, .ref (b.1)), (4, .int (nI x.2)), (0, .ref (sb)), (1, .ref (ca)), (2, .int (nI 0)), (3, .int (nI y.2))]) dJ5_appendChars_0ad70_24 (pc' := 26) rfl (by decide) rfl ?_
      have lp_26 : ∀ (f_ : Nat) (i : Nat) (a1 : Nat → Int32), (hi : i ≤ y.2) → (hlo : ∀ j, j < x.2 → a1 j = b.2.2 j) → (hwr : ∀ j, j < i → a1 (x.2 + j) = sb_b (y.1 j)) → (hf1 : sb_Fit a1) → y.2 - i < f_ → YY p l e rJ5_appendChars_0ad70 s m args below meth c G B0 9 QQ 26 [(6, .int (nI i)), (7, .int (nI (x.2 + i))), (0, .ref (sb)), (1, .ref (ca)), (2, .int (nI 0)), (3, .int (nI y.2)), (4, .int (nI x.2)), (5, .ref (b.1))] [] (((sb, .inr (1, [.ref (b.1), .int (nI 0), .int (nI 0), .int (nI x.2)])) :: (b.1, .inl (G.2.2.2.1, b.2.1, .inl a1)) :: (ca, .inl (G.2.2.2.2, y.2, .inl g)) :: F)) 0 0 := by
        intro f_
        induction f_ with
        | zero => intro i a1 hi hlo hwr hf1 hf_; exact absurd hf_ (Nat.not_lt_zero _)
        | succ f_ ih =>
          intro i a1 hi hlo hwr hf1 hf_
          refine yy_iload C 0 dJ5_appendChars_0ad70_26 (pc' := 28) rfl rfl ?_
          refine yy_iload_n C 5 dJ5_appendChars_0ad70_28 (pc' := 29) rfl rfl rfl ?_
          refine yn_icmp_ge C (by omega) (by omega) dJ5_appendChars_0ad70_29 (pc' := 32) rfl (tgt := 104) (by decide) (fun c_29 => ?_) (fun c_29 => ?_)
          · skip
            refine yy_goto C (tgt := 119) dJ5_appendChars_0ad70_104 (by decide) ?_
            refine yy_aload_n C 2 dJ5_appendChars_0ad70_119 (pc' := 120) rfl rfl rfl ?_
            refine yy_iload C 6 dJ5_appendChars_0ad70_120 (pc' := 122) rfl rfl ?_
            refine yy_iload_n C 5 dJ5_appendChars_0ad70_122 (pc' := 123) rfl rfl rfl ?_
            refine yy_iadd C (v := (nI (x.2 + y.2))) dJ5_appendChars_0ad70_123 (pc' := 124) rfl (nI_add x.2 y.2) ?_
            refine yy_iload_n C 4 dJ5_appendChars_0ad70_124 (pc' := 125) rfl rfl rfl ?_
            refine yy_isub C (v := (nI (x.2 + y.2))) dJ5_appendChars_0ad70_125 (pc' := 126) rfl (pk_sub (Nat.zero_le _)) ?_
            refine yy_put C (w' := ((sb, .inr (1, [.ref (b.1), .int (nI 0), .int (nI 0), .int (nI (x.2 + y.2))])) :: (b.1, .inl (G.2.2.2.1, b.2.1, .inl a1)) :: (ca, .inl (G.2.2.2.2, y.2, .inl g)) :: F)) fk_J5_79 fpJ4 rfl 0 dJ5_appendChars_0ad70_126 (pc' := 129) rfl rfl rfl rfl (Nat.le_of_ble_eq_true rfl) rfl ?_
            subst hQ
            exact ye_v C hr (b.1, b.2.1, a1) dJ5_appendChars_0ad70_129 rfl (by decide) (by decide) (h.put (y := y) hc h.2.1 hlo (fun j hj => ⟨by have := hy j hj; omega, hwr j (by omega)⟩) hf1)
          · skip
            refine yy_aload_n C 3 dJ5_appendChars_0ad70_32 (pc' := 33) rfl rfl rfl ?_
            refine yy_iload C 0 dJ5_appendChars_0ad70_33 (pc' := 35) rfl rfl ?_
            refine yy_cald C 2 dJ5_appendChars_0ad70_35 (pc' := 36) rfl rfl (by omega) (by omega) ?_
            refine yy_eqi (hg i (by omega)) ?_
            have hyi := hy i (by omega)
            refine yy_istore C (L' := [(8, .int (nI (y.1 i))), (6, .int (nI i)), (7, .int (nI (x.2 + i))), (0, .ref (sb)), (1, .ref (ca)), (2, .int (nI 0)), (3, .int (nI y.2)), (4, .int (nI x.2)), (5, .ref (b.1))]) dJ5_appendChars_0ad70_36 (pc' := 38) rfl (by decide) rfl ?_
            refine yy_iload C 0 dJ5_appendChars_0ad70_38 (pc' := 40) rfl rfl ?_
            refine yc_i (yr_S C (n := 1) (As := [.int (nI (y.1 i))]) (rest := []) lk_J5_191 cd_J1_canEncode_fc78d st_J1_canEncode_fc78d (mJ1_canEncode_fc78d l G B0 ((sb, .inr (1, [.ref (b.1), .int (nI 0), .int (nI 0), .int (nI x.2)])) :: (b.1, .inl (G.2.2.2.1, b.2.1, .inl a1)) :: (ca, .inl (G.2.2.2.2, y.2, .inl g)) :: F) (y.1 i) (by omega)) ⟨by decide, by decide⟩ ⟨by decide, by decide⟩ rfl rfl (Nat.le_of_ble_eq_true rfl) dJ5_appendChars_0ad70_40) (pc' := 43) rfl (fun r2 _ hw2 => ?_)
            subst hw2
            refine yy_if_eq C dJ5_appendChars_0ad70_43 (pc' := 46) rfl (tgt := 60) (by decide) (fun c_43 => ?_) (fun c_43 => ?_)
            · skip
              exact absurd c_43 (by decide)
            · skip
              refine yy_aload C 8 dJ5_appendChars_0ad70_46 (pc' := 48) rfl rfl ?_
              refine yy_iload C 2 dJ5_appendChars_0ad70_48 (pc' := 50) rfl rfl ?_
              refine yy_iinc C (v := (nI ((x.2 + i) + 1))) (L' := [(7, .int (nI ((x.2 + i) + 1))), (8, .int (nI (y.1 i))), (6, .int (nI i)), (0, .ref (sb)), (1, .ref (ca)), (2, .int (nI 0)), (3, .int (nI y.2)), (4, .int (nI x.2)), (5, .ref (b.1))]) 2 dJ5_appendChars_0ad70_50 (pc' := 53) rfl rfl (nI_add (x.2 + i) 1) (by decide) rfl ?_
              refine yy_iload C 1 dJ5_appendChars_0ad70_53 (pc' := 55) rfl rfl ?_
              refine yy_i2b C (v := (sb_b (y.1 i))) dJ5_appendChars_0ad70_55 (pc' := 56) rfl rfl ?_
              refine yy_bast C (w' := ((sb, .inr (1, [.ref (b.1), .int (nI 0), .int (nI 0), .int (nI x.2)])) :: (b.1, .inl (G.2.2.2.1, b.2.1, .inl (upd a1 (x.2 + i) (sb_b (y.1 i))))) :: (ca, .inl (G.2.2.2.2, y.2, .inl g)) :: F)) 1 dJ5_appendChars_0ad70_56 (pc' := 57) rfl rfl (by omega) (by omega) (pk_vb _) rfl ?_
              refine yy_goto C (tgt := 98) dJ5_appendChars_0ad70_57 (by decide) ?_
              refine yy_iinc C (v := (nI (i + 1))) (L' := [(6, .int (nI (i + 1))), (7, .int (nI ((x.2 + i) + 1))), (8, .int (nI (y.1 i))), (0, .ref (sb)), (1, .ref (ca)), (2, .int (nI 0)), (3, .int (nI y.2)), (4, .int (nI x.2)), (5, .ref (b.1))]) 2 dJ5_appendChars_0ad70_98 (pc' := 101) rfl rfl (nI_add i 1) (by decide) rfl ?_
              refine yy_goto C (tgt := 26) dJ5_appendChars_0ad70_101 (by decide) ?_
              refine yy_loc [0, 1, 3, 4, 5, 6, 7, 8] rfl ?_
              exact ih (i + 1) _ (by omega) (fun j hj => by rw [pk_un (by omega)]; exact hlo j hj) (fun j hj => by
                by_cases hji : j = i
                · rw [hji, pk_us]
                · rw [pk_un (by omega)]; exact hwr j (by omega)) (sb_fitU hf1 (sb_fitB _)) (by omega)
      refine yy_loc (L' := [(6, .int (nI 0)), (7, .int (nI x.2)), (0, .ref (sb)), (1, .ref (ca)), (2, .int (nI 0)), (3, .int (nI y.2)), (4, .int (nI x.2)), (5, .ref (b.1))]) [1, 0, 4, 5, 6, 7, 3, 2] rfl ?_
      exact lp_26 (y.2 + 1) 0 b.2.2 (Nat.zero_le _) (fun _ _ => rfl) (fun j hj => absurd hj (Nat.not_lt_zero j)) h.2.2.2 (by omega)

abbrev rJ5_append_a1634 : Room := { frames := 4, cells := 1, slots := 1000, locals := 91 }
set_option maxHeartbeats 1000000 in
set_option maxRecDepth 100000 in
theorem mJ5_append_a1634 (l : Launch) (G : gG) (B0 : Nat) (sb : Nat) (x : TT) (b : BU) (F : va_W) (ca : Nat) (y : TT) (g : Nat → Int32) (w_ : Nat) (hwy : w_ = y.2) (hg : ∀ j, j < y.2 → g j = nI (y.1 j)) (hy : ∀ j, j < y.2 → y.1 j < 128) (hy2 : y.2 ≤ 100) (h : BO x b) (hq : x.2 + y.2 < 500) : Met l yJ5_append_a1634 (Cond.code yJ5_append_a1634 cJ5_append_a1634 3 (some (.object "java/lang/AbstractStringBuilder")) :: WG) rJ5_append_a1634 (va_Pc [.ref (sb), .ref (ca)] (PR G B0 (((sb, .inr (1, [.ref (b.1), .int (nI 0), .int (nI 0), .int (nI x.2)])) :: (b.1, .inl (G.2.2.2.1, b.2.1, .inl b.2.2)) :: (ca, .inl (G.2.2.2.2, w_, .inl g)) :: F)))) (va_Qr (fun (u : BU) => BO (tcat x y) u) (fun (u : BU) (a_ : Nat) (t_ : State) => a_ = sb ∧ va_P G.1 vwCl (((sb, .inr (1, [.ref (u.1), .int (nI 0), .int (nI 0), .int (nI ((tcat x y).2))])) :: (u.1, .inl (G.2.2.2.1, u.2.1, .inl u.2.2)) :: (ca, .inl (G.2.2.2.2, w_, .inl g)) :: F)) t_.heap ∧ va_D (fun q => B0 ≤ q) (((sb, .inr (1, [.ref (u.1), .int (nI 0), .int (nI 0), .int (nI ((tcat x y).2))])) :: (u.1, .inl (G.2.2.2.1, u.2.1, .inl u.2.2)) :: (ca, .inl (G.2.2.2.2, w_, .inl g)) :: F))) (fun q => B0 ≤ q)) rJ5_append_a1634.cells rJ5_append_a1634.slots (fun q => B0 ≤ q) := by
  refine met_of RJ5 [(0, .ref (sb)), (1, .ref (ca))] rfl (by decide) (Nat.le_of_ble_eq_true rfl) rfl ?_
  intro p e s m args below meth c C hr hnm
  refine yq ?_
  intro QQ hQ
  refine yy_aload_n C 1 dJ5_append_a1634_0 (pc' := 1) rfl rfl rfl ?_
  refine yy_alenC C 2 dJ5_append_a1634_1 (pc' := 2) rfl rfl ?_
  refine yy_istore_n C (L' := [(2, .int (nI w_)), (0, .ref (sb)), (1, .ref (ca))]) dJ5_append_a1634_2 (pc' := 3) rfl rfl (by decide) rfl ?_
  refine yy_aload_n C 1 dJ5_append_a1634_3 (pc' := 4) rfl rfl rfl ?_
  refine yy_aload_n C 1 dJ5_append_a1634_4 (pc' := 5) rfl rfl rfl ?_
  refine yy_get C (v := .int (nI x.2)) fk_J5_79 0 dJ5_append_a1634_5 (pc' := 8) rfl rfl rfl ?_
  refine yy_iload_n C 0 dJ5_append_a1634_8 (pc' := 9) rfl rfl rfl ?_
  refine yy_iadd C (v := (nI (x.2 + w_))) dJ5_append_a1634_9 (pc' := 10) rfl (nI_add x.2 w_) ?_
  refine yc_v (yr_U C (n := 1) (As := [.int (nI (x.2 + w_))]) (rest := []) (x := yJ5_ensureCapacityInternal_d00df) (owner := yJ5_ensureCapacityInternal_d00df.cls) (Cn := RJ4) ly_J5_100 ii_J5 ⟨by decide, by decide, by decide +kernel⟩ sm_J5_ensureCapacityInternal_d00df im_J5_ensureCapacityInternal_d00df cd_J5_ensureCapacityInternal_d00df cd_J5_ensureCapacityInternal_d00df im_J5_ensureCapacityInternal_d00df (C.2.2.2.2.1 _ sx_J5_ensureCapacityInternal_d00df) (mJ5_ensureCapacityInternal_d00df l G B0 sb x b ((ca, .inl (G.2.2.2.2, w_, .inl g)) :: F) (x.2 + w_) h (by omega)) ⟨by decide, by decide⟩ ⟨by decide, by decide⟩ 0 rfl rfl rfl rfl (Nat.le_of_ble_eq_true rfl) dJ5_append_a1634_10) (pc' := 13) rfl (fun u1 hw1 => ?_)
  obtain ⟨hB1, hB2⟩ := hw1
  refine yy_aload_n C 1 dJ5_append_a1634_13 (pc' := 14) rfl rfl rfl ?_
  refine yy_aload_n C 2 dJ5_append_a1634_14 (pc' := 15) rfl rfl rfl ?_
  refine yy_iconst C (v := (nI 0)) dJ5_append_a1634_15 (pc' := 16) rfl (by decide) ?_
  refine yy_iload_n C 0 dJ5_append_a1634_16 (pc' := 17) rfl rfl rfl ?_
  refine yc_v (yr_U C (n := 3) (As := [.ref (ca), .int (nI 0), .int (nI w_)]) (rest := []) (x := yJ5_appendChars_0ad70) (owner := yJ5_appendChars_0ad70.cls) (Cn := RJ4) ly_J5_239 ii_J5 ⟨by decide, by decide, by decide +kernel⟩ sm_J5_appendChars_0ad70 im_J5_appendChars_0ad70 cd_J5_appendChars_0ad70 cd_J5_appendChars_0ad70 im_J5_appendChars_0ad70 (C.2.2.2.2.1 _ sx_J5_appendChars_0ad70) (mJ5_appendChars_0ad70 l G B0 sb x u1 F ca y g w_ hwy hg hy hy2 hB1 (by omega)) ⟨by decide, by decide⟩ ⟨by decide, by decide⟩ 0 rfl rfl rfl rfl (Nat.le_of_ble_eq_true rfl) dJ5_append_a1634_17) (pc' := 20) rfl (fun u2 hw2 => ?_)
  refine yy_aload_n C 1 dJ5_append_a1634_20 (pc' := 21) rfl rfl rfl ?_
  subst hQ
  exact ye_r C hr (Or.inl ⟨_, rfl⟩) u2 dJ5_append_a1634_21 rfl (by decide) (by decide) hw2

abbrev rJ4_append_37e8c : Room := { frames := 5, cells := 1, slots := 1000, locals := 113 }
set_option maxHeartbeats 1000000 in
set_option maxRecDepth 100000 in
theorem mJ4_append_37e8c (l : Launch) (G : gG) (B0 : Nat) (sb : Nat) (x : TT) (b : BU) (F : va_W) (ca : Nat) (y : TT) (g : Nat → Int32) (w_ : Nat) (hwy : w_ = y.2) (hg : ∀ j, j < y.2 → g j = nI (y.1 j)) (hy : ∀ j, j < y.2 → y.1 j < 128) (hy2 : y.2 ≤ 100) (h : BO x b) (hq : x.2 + y.2 < 500) : Met l yJ4_append_37e8c (Cond.code yJ4_append_37e8c cJ4_append_37e8c 2 (some (.object "java/lang/StringBuilder")) :: WG) rJ4_append_37e8c (va_Pc [.ref (sb), .ref (ca)] (PR G B0 (((sb, .inr (1, [.ref (b.1), .int (nI 0), .int (nI 0), .int (nI x.2)])) :: (b.1, .inl (G.2.2.2.1, b.2.1, .inl b.2.2)) :: (ca, .inl (G.2.2.2.2, w_, .inl g)) :: F)))) (va_Qr (fun (u : BU) => BO (tcat x y) u) (fun (u : BU) (a_ : Nat) (t_ : State) => a_ = sb ∧ va_P G.1 vwCl (((sb, .inr (1, [.ref (u.1), .int (nI 0), .int (nI 0), .int (nI ((tcat x y).2))])) :: (u.1, .inl (G.2.2.2.1, u.2.1, .inl u.2.2)) :: (ca, .inl (G.2.2.2.2, w_, .inl g)) :: F)) t_.heap ∧ va_D (fun q => B0 ≤ q) (((sb, .inr (1, [.ref (u.1), .int (nI 0), .int (nI 0), .int (nI ((tcat x y).2))])) :: (u.1, .inl (G.2.2.2.1, u.2.1, .inl u.2.2)) :: (ca, .inl (G.2.2.2.2, w_, .inl g)) :: F))) (fun q => B0 ≤ q)) rJ4_append_37e8c.cells rJ4_append_37e8c.slots (fun q => B0 ≤ q) := by
  refine met_of RJ4 [(0, .ref (sb)), (1, .ref (ca))] rfl (by decide) (Nat.le_of_ble_eq_true rfl) rfl ?_
  intro p e s m args below meth c C hr hnm
  refine yq ?_
  intro QQ hQ
  refine yy_aload_n C 0 dJ4_append_37e8c_0 (pc' := 1) rfl rfl rfl ?_
  refine yy_aload_n C 1 dJ4_append_37e8c_1 (pc' := 2) rfl rfl rfl ?_
  refine yc_r (yr_SU C (n := 1) (As := [.ref (ca)]) (rest := []) ly_J4_41 ii_J5 ⟨by decide, by decide +kernel⟩ sm_J5_append_a1634 su_J4 cd_J5_append_a1634 im_J5_append_a1634 (mJ5_append_a1634 l G B0 sb x b F ca y g w_ hwy hg hy hy2 h hq) ⟨by decide, by decide⟩ ⟨by decide, by decide⟩ 0 rfl rfl rfl rfl (Nat.le_of_ble_eq_true rfl) dJ4_append_37e8c_2) (pc' := 5) rfl (fun u1 hw1 => ?_)
  refine yy_pop C dJ4_append_37e8c_5 (pc' := 6) rfl rfl ?_
  refine yy_aload_n C 0 dJ4_append_37e8c_6 (pc' := 7) rfl rfl rfl ?_
  subst hQ
  exact ye_r C hr (Or.inl ⟨_, rfl⟩) u1 dJ4_append_37e8c_7 rfl (by decide) (by decide) hw1

abbrev rJx40b00_appendDecimalTo_8d9f2 : Room := { frames := 7, cells := 2, slots := 1015, locals := 201 }
set_option maxHeartbeats 1000000 in
set_option maxRecDepth 100000 in
theorem mJx40b00_appendDecimalTo_8d9f2 (l : Launch) (G : gG) (B0 : Nat) (fd fb : Nat) (sb : Nat) (x : TT) (b : BU) (F : va_W) (f : UInt32) (hokF : okF f) (h : BO x b) (hq : x.2 + (tF f).2 < 500) : Met l yJx40b00_appendDecimalTo_8d9f2 (Cond.code yJx40b00_appendDecimalTo_8d9f2 cJx40b00_appendDecimalTo_8d9f2 8 (some (.object "java/lang/Appendable")) :: WG) rJx40b00_appendDecimalTo_8d9f2 (va_Pc [.ref (fd), .float f, .ref (sb)] (PR G B0 (((fd, .inr (2, [.ref (fb), .int (nI 0)])) :: (fb, .inl (G.2.2.2.1, 15, .inl (fun _ => 0))) :: (sb, .inr (1, [.ref (b.1), .int (nI 0), .int (nI 0), .int (nI x.2)])) :: (b.1, .inl (G.2.2.2.1, b.2.1, .inl b.2.2)) :: F)))) (va_Qr (fun (u : BU) => BO (tcat x (tF f)) u) (fun (u : BU) (a_ : Nat) (t_ : State) => a_ = sb ∧ va_P G.1 vwCl (((sb, .inr (1, [.ref (u.1), .int (nI 0), .int (nI 0), .int (nI ((tcat x (tF f)).2))])) :: (u.1, .inl (G.2.2.2.1, u.2.1, .inl u.2.2)) :: F)) t_.heap ∧ va_D (fun q => B0 ≤ q) (((sb, .inr (1, [.ref (u.1), .int (nI 0), .int (nI 0), .int (nI ((tcat x (tF f)).2))])) :: (u.1, .inl (G.2.2.2.1, u.2.1, .inl u.2.2)) :: F))) (fun q => B0 ≤ q)) rJx40b00_appendDecimalTo_8d9f2.cells rJx40b00_appendDecimalTo_8d9f2.slots (fun q => B0 ≤ q) := by
  refine met_of RJx40b00 [(0, .ref (fd)), (1, .float f), (2, .ref (sb))] rfl (by decide) (Nat.le_of_ble_eq_true rfl) rfl ?_
  intro p e s m args below meth c C hr hnm
  refine yq ?_
  intro QQ hQ
  have hR := hokF.2.1
  refine yy_aload_n C 0 dJx40b00_appendDecimalTo_8d9f2_0 (pc' := 1) rfl rfl rfl ?_
  refine yy_fload_n C 1 dJx40b00_appendDecimalTo_8d9f2_1 (pc' := 2) rfl rfl rfl ?_
  refine yc_i (yr_V C (n := 1) (As := [.float f]) (rest := []) lk_Jx40b00_24 cd_Jx40b00_toDecimal_5c35a im_Jx40b00_toDecimal_5c35a se_Jx40b00_toDecimal_5c35a (mJx40b00_toDecimal_5c35a l G B0 fd fb ((sb, .inr (1, [.ref (b.1), .int (nI 0), .int (nI 0), .int (nI x.2)])) :: (b.1, .inl (G.2.2.2.1, b.2.1, .inl b.2.2)) :: F) f hokF.1) ⟨by decide, by decide⟩ ⟨by decide, by decide⟩ 0 rfl rfl rfl rfl (Nat.le_of_ble_eq_true rfl) dJx40b00_appendDecimalTo_8d9f2_2) (pc' := 5) rfl (fun r1 _ hw1 => ?_)
  subst hw1
  refine yy_tab C (tgt := 40) (off := 35) dJx40b00_appendDecimalTo_8d9f2_5 (by decide) (by decide) rfl (by decide) ?_
  refine yy_aload_n C 0 dJx40b00_appendDecimalTo_8d9f2_40 (pc' := 41) rfl rfl rfl ?_
  refine yy_get C (v := .int (nI (ftR f))) fk_Jx40b00_42 0 dJx40b00_appendDecimalTo_8d9f2_41 (pc' := 44) rfl rfl rfl ?_
  refine yy_iconst C (v := (nI 1)) dJx40b00_appendDecimalTo_8d9f2_44 (pc' := 45) rfl (by decide) ?_
  refine yy_iadd C (v := (nI ((ftR f) + 1))) dJx40b00_appendDecimalTo_8d9f2_45 (pc' := 46) rfl (nI_add (ftR f) 1) ?_
  refine yy_newaC C (N := (ftR f) + 1) ac_char dJx40b00_appendDecimalTo_8d9f2_46 (pc' := 48) rfl (by omega) (by show ((ftR f) + 1) * 2 ≤ 536870912; omega) (Nat.le_of_ble_eq_true rfl) (show 0 + ((ftR f) + 1) ≤ 1015 by omega) (fun q1 => ?_)
  refine yy_widen (cs2 := 1) (ss2 := 15) (show 1 ≤ 1 from Nat.le_refl _) (show 0 + ((ftR f) + 1) ≤ 15 by omega) ?_
  refine yy_astore_n C (L' := [(3, .ref (q1)), (0, .ref (fd)), (1, .float f), (2, .ref (sb))]) dJx40b00_appendDecimalTo_8d9f2_48 (pc' := 49) rfl rfl (by decide) rfl ?_
  refine yy_iconst C (v := (nI 0)) dJx40b00_appendDecimalTo_8d9f2_49 (pc' := 50) rfl (by decide) ?_
  refine yy_istore C (L' := [(4, .int (nI 0)), (3, .ref (q1)), (0, .ref (fd)), (1, .float f), (2, .ref (sb))]) dJx40b00_appendDecimalTo_8d9f2_50 (pc' := 52) rfl (by decide) rfl ?_
  have lp_52 : ∀ (f_ : Nat) (i : Nat) (g : Nat → Int32), (hi : i ≤ ftR f + 1) → (hg : ∀ j, j < i → g j = nI (ix (ftA f j))) → ftR f + 1 - i < f_ → YY p l e rJx40b00_appendDecimalTo_8d9f2 s m args below meth c G B0 8 QQ 52 [(4, .int (nI i)), (0, .ref (fd)), (2, .ref (sb)), (3, .ref (q1))] [] (((q1, .inl (G.2.2.2.2, ftR f + 1, .inl g)) :: (fd, .inr (2, [.ref (fb), .int (nI (ftR f))])) :: (fb, .inl (G.2.2.2.1, 15, .inl (ftA f))) :: (sb, .inr (1, [.ref (b.1), .int (nI 0), .int (nI 0), .int (nI x.2)])) :: (b.1, .inl (G.2.2.2.1, b.2.1, .inl b.2.2)) :: F)) 1 15 := by
    intro f_
    induction f_ with
    | zero => intro i g hi hg hf_; exact absurd hf_ (Nat.not_lt_zero _)
    | succ f_ ih =>
      intro i g hi hg hf_
      refine yy_iload C 0 dJx40b00_appendDecimalTo_8d9f2_52 (pc' := 54) rfl rfl ?_
      refine yy_aload_n C 3 dJx40b00_appendDecimalTo_8d9f2_54 (pc' := 55) rfl rfl rfl ?_
      refine yy_alenC C 0 dJx40b00_appendDecimalTo_8d9f2_55 (pc' := 56) rfl rfl ?_
      refine yn_icmp_ge C (by omega) (by omega) dJx40b00_appendDecimalTo_8d9f2_56 (pc' := 59) rfl (tgt := 77) (by decide) (fun c_56 => ?_) (fun c_56 => ?_)
      · skip
        have hie : i = ftR f + 1 := by omega
        refine yy_aload_n C 2 dJx40b00_appendDecimalTo_8d9f2_77 (pc' := 78) rfl rfl rfl ?_
        refine yy_inst C 3 rfl rfl cl_Jx40b00_46 dJx40b00_appendDecimalTo_8d9f2_78 (pc' := 81) rfl ?_
        refine yy_if_eq C dJx40b00_appendDecimalTo_8d9f2_81 (pc' := 84) rfl (tgt := 97) (by decide) (fun c_81 => ?_) (fun c_81 => ?_)
        · skip
          exact absurd c_81 (by decide)
        · skip
          refine yy_aload_n C 2 dJx40b00_appendDecimalTo_8d9f2_84 (pc' := 85) rfl rfl rfl ?_
          refine yy_chk C 3 rfl rfl cl_Jx40b00_46 dJx40b00_appendDecimalTo_8d9f2_85 (pc' := 88) rfl ?_
          refine yy_astore C (L' := [(4, .ref (sb)), (0, .ref (fd)), (2, .ref (sb)), (3, .ref (q1))]) dJx40b00_appendDecimalTo_8d9f2_88 (pc' := 90) rfl (by decide) rfl ?_
          refine yy_aload C 0 dJx40b00_appendDecimalTo_8d9f2_90 (pc' := 92) rfl rfl ?_
          refine yy_aload_n C 3 dJx40b00_appendDecimalTo_8d9f2_92 (pc' := 93) rfl rfl rfl ?_
          refine yy_perm (w' := ((sb, .inr (1, [.ref (b.1), .int (nI 0), .int (nI 0), .int (nI x.2)])) :: (b.1, .inl (G.2.2.2.1, b.2.1, .inl b.2.2)) :: (q1, .inl (G.2.2.2.2, ftR f + 1, .inl g)) :: (fd, .inr (2, [.ref (fb), .int (nI (ftR f))])) :: (fb, .inl (G.2.2.2.1, 15, .inl (ftA f))) :: F)) (pm_3_4_0_1_2 _ _ _ _ _ _) ?_
          refine yc_r (yr_V C (n := 1) (As := [.ref (q1)]) (rest := []) lk_Jx40b00_48 cd_J4_append_37e8c im_J4_append_37e8c se_J4_append_37e8c (mJ4_append_37e8c l G B0 sb x b ((fd, .inr (2, [.ref (fb), .int (nI (ftR f))])) :: (fb, .inl (G.2.2.2.1, 15, .inl (ftA f))) :: F) q1 (tF f) g (ftR f + 1) (tF_2 f).symm (fun j hj => by rw [tF_1]; exact hg j (by rw [hie, ← tF_2]; exact hj)) (fun j hj => by rw [tF_1]; exact hokF.2.2 j (by rw [← tF_2]; exact hj)) (by rw [tF_2]; omega) h hq) ⟨by decide, by decide⟩ ⟨by decide, by decide⟩ 0 rfl rfl rfl rfl (Nat.le_of_ble_eq_true rfl) dJx40b00_appendDecimalTo_8d9f2_93) (pc' := 96) rfl (fun u1 hw2 => ?_)
          refine yy_drop (w' := ((sb, .inr (1, [.ref (u1.1), .int (nI 0), .int (nI 0), .int (nI ((tcat x (tF f)).2))])) :: (u1.1, .inl (G.2.2.2.1, u1.2.1, .inl u1.2.2)) :: F)) (List.Sublist.cons_cons _ (List.Sublist.cons_cons _ (List.Sublist.cons _ (List.Sublist.cons _ (List.Sublist.cons _ (List.Sublist.refl _)))))) ?_
          subst hQ
          exact ye_r C hr (Or.inl ⟨_, rfl⟩) u1 dJx40b00_appendDecimalTo_8d9f2_96 rfl (by decide) (by decide) hw2
      · skip
        refine yy_aload_n C 3 dJx40b00_appendDecimalTo_8d9f2_59 (pc' := 60) rfl rfl rfl ?_
        refine yy_iload C 0 dJx40b00_appendDecimalTo_8d9f2_60 (pc' := 62) rfl rfl ?_
        refine yy_aload_n C 1 dJx40b00_appendDecimalTo_8d9f2_62 (pc' := 63) rfl rfl rfl ?_
        refine yy_get C (v := .ref (fb)) fk_Jx40b00_11 1 dJx40b00_appendDecimalTo_8d9f2_63 (pc' := 66) rfl rfl rfl ?_
        refine yy_iload C 0 dJx40b00_appendDecimalTo_8d9f2_66 (pc' := 68) rfl rfl ?_
        refine yy_bald C 2 dJx40b00_appendDecimalTo_8d9f2_68 (pc' := 69) rfl rfl (by omega) (by omega) ?_
        refine yy_i2c C (v := (nI (ix (ftA f i)))) dJx40b00_appendDecimalTo_8d9f2_69 (pc' := 70) rfl (i2c_ix (by have := hokF.2.2 i (by omega); omega)) ?_
        refine yy_cast C (w' := ((q1, .inl (G.2.2.2.2, ftR f + 1, .inl (upd g i (nI (ix (ftA f i)))))) :: (fd, .inr (2, [.ref (fb), .int (nI (ftR f))])) :: (fb, .inl (G.2.2.2.1, 15, .inl (ftA f))) :: (sb, .inr (1, [.ref (b.1), .int (nI 0), .int (nI 0), .int (nI x.2)])) :: (b.1, .inl (G.2.2.2.1, b.2.1, .inl b.2.2)) :: F)) 0 dJx40b00_appendDecimalTo_8d9f2_70 (pc' := 71) rfl rfl (by omega) (by omega) (nar_c (by have := hokF.2.2 i (by omega); omega)) rfl ?_
        refine yy_iinc C (v := (nI (i + 1))) (L' := [(4, .int (nI (i + 1))), (0, .ref (fd)), (2, .ref (sb)), (3, .ref (q1))]) 0 dJx40b00_appendDecimalTo_8d9f2_71 (pc' := 74) rfl rfl (nI_add i 1) (by decide) rfl ?_
        refine yy_goto C (tgt := 52) dJx40b00_appendDecimalTo_8d9f2_74 (by decide) ?_
        refine yy_loc [0, 1, 2, 3] rfl ?_
        exact ih (i + 1) _ (by omega) (fun j hj => by
          by_cases hji : j = i
          · rw [hji, pk_us]
          · rw [pk_un (by omega)]; exact hg j (by omega)) (by omega)
  refine yy_loc (L' := [(4, .int (nI 0)), (0, .ref (fd)), (2, .ref (sb)), (3, .ref (q1))]) [0, 2, 4, 1] rfl ?_
  exact lp_52 (ftR f + 1 + 1) 0 (fun _ => 0) (Nat.zero_le _) (fun j hj => absurd hj (Nat.not_lt_zero j)) (by omega)

abbrev rJx40b00_appendTo_8d9f2 : Room := { frames := 8, cells := 4, slots := 1032, locals := 228 }
set_option maxHeartbeats 1000000 in
set_option maxRecDepth 100000 in
theorem mJx40b00_appendTo_8d9f2 (l : Launch) (G : gG) (B0 : Nat) (sb : Nat) (x : TT) (b : BU) (F : va_W) (f : UInt32) (hokF : okF f) (h : BO x b) (hq : x.2 + (tF f).2 < 500) : Met l yJx40b00_appendTo_8d9f2 (Cond.code yJx40b00_appendTo_8d9f2 cJx40b00_appendTo_8d9f2 2 (some (.object "java/lang/Appendable")) :: WG) rJx40b00_appendTo_8d9f2 (va_Pc [.float f, .ref (sb)] (PR G B0 (((sb, .inr (1, [.ref (b.1), .int (nI 0), .int (nI 0), .int (nI x.2)])) :: (b.1, .inl (G.2.2.2.1, b.2.1, .inl b.2.2)) :: F)))) (va_Qr (fun (u : BU) => BO (tcat x (tF f)) u) (fun (u : BU) (a_ : Nat) (t_ : State) => a_ = sb ∧ va_P G.1 vwCl (((sb, .inr (1, [.ref (u.1), .int (nI 0), .int (nI 0), .int (nI ((tcat x (tF f)).2))])) :: (u.1, .inl (G.2.2.2.1, u.2.1, .inl u.2.2)) :: F)) t_.heap ∧ va_D (fun q => B0 ≤ q) (((sb, .inr (1, [.ref (u.1), .int (nI 0), .int (nI 0), .int (nI ((tcat x (tF f)).2))])) :: (u.1, .inl (G.2.2.2.1, u.2.1, .inl u.2.2)) :: F))) (fun q => B0 ≤ q)) rJx40b00_appendTo_8d9f2.cells rJx40b00_appendTo_8d9f2.slots (fun q => B0 ≤ q) := by
  refine met_of RJx40b00 [(0, .float f), (1, .ref (sb))] rfl (by decide) (Nat.le_of_ble_eq_true rfl) rfl ?_
  intro p e s m args below meth c C hr hnm
  refine yq ?_
  intro QQ hQ
  refine yy_new C inJx40b00 (ci := 2) rfl fpJx40b00 cl_Jx40b00_3 ia_Jx40b00 ii_Jx40b00 dJx40b00_appendTo_8d9f2_0 (pc' := 3) rfl (fs := [.null, .int (nI 0)]) (def_Jx40b00) (Nat.le_of_ble_eq_true rfl) (Nat.le_of_ble_eq_true rfl) (fun o1 => ?_)
  refine yy_dup C dJx40b00_appendTo_8d9f2_3 (pc' := 4) rfl rfl ?_
  refine yc_v (yr_I C (n := 0) (As := []) (rest := [.ref (o1)]) lk_Jx40b00_15 cd_Jx40b00_init_da8c8 im_Jx40b00_init_da8c8 rfl (mJx40b00_init_da8c8 l G B0 o1 ((sb, .inr (1, [.ref (b.1), .int (nI 0), .int (nI 0), .int (nI x.2)])) :: (b.1, .inl (G.2.2.2.1, b.2.1, .inl b.2.2)) :: F)) ⟨by decide, by decide⟩ ⟨by decide, by decide⟩ rfl rfl (Nat.le_of_ble_eq_true rfl) dJx40b00_appendTo_8d9f2_4) (pc' := 7) rfl (fun u1 hw1 => ?_)
  refine yy_fload_n C 0 dJx40b00_appendTo_8d9f2_7 (pc' := 8) rfl rfl rfl ?_
  refine yy_aload_n C 1 dJx40b00_appendTo_8d9f2_8 (pc' := 9) rfl rfl rfl ?_
  refine yc_r (yr_V C (n := 2) (As := [.float f, .ref (sb)]) (rest := []) lk_Jx40b00_20 cd_Jx40b00_appendDecimalTo_8d9f2 im_Jx40b00_appendDecimalTo_8d9f2 se_Jx40b00_appendDecimalTo_8d9f2 (mJx40b00_appendDecimalTo_8d9f2 l G B0 o1 u1 sb x b F f hokF h hq) ⟨by decide, by decide⟩ ⟨by decide, by decide⟩ 0 rfl rfl rfl rfl (Nat.le_of_ble_eq_true rfl) dJx40b00_appendTo_8d9f2_9) (pc' := 12) rfl (fun u2 hw2 => ?_)
  subst hQ
  exact ye_r C hr (Or.inl ⟨_, rfl⟩) u2 dJx40b00_appendTo_8d9f2_12 rfl (by decide) (by decide) hw2

abbrev rJ5_append_b089e : Room := { frames := 9, cells := 4, slots := 1032, locals := 249 }
set_option maxHeartbeats 1000000 in
set_option maxRecDepth 100000 in
theorem mJ5_append_b089e (l : Launch) (G : gG) (B0 : Nat) (sb : Nat) (x : TT) (b : BU) (F : va_W) (f : UInt32) (hokF : okF f) (h : BO x b) (hq : x.2 + (tF f).2 < 500) : Met l yJ5_append_b089e (Cond.codeWith yJ5_append_b089e cJ5_append_b089e 3 (some (.object "java/lang/AbstractStringBuilder")) [(0, 6, 9, 271)] :: WG) rJ5_append_b089e (va_Pc [.ref (sb), .float f] (PR G B0 (((sb, .inr (1, [.ref (b.1), .int (nI 0), .int (nI 0), .int (nI x.2)])) :: (b.1, .inl (G.2.2.2.1, b.2.1, .inl b.2.2)) :: F)))) (va_Qr (fun (u : BU) => BO (tcat x (tF f)) u) (fun (u : BU) (a_ : Nat) (t_ : State) => a_ = sb ∧ va_P G.1 vwCl (((sb, .inr (1, [.ref (u.1), .int (nI 0), .int (nI 0), .int (nI ((tcat x (tF f)).2))])) :: (u.1, .inl (G.2.2.2.1, u.2.1, .inl u.2.2)) :: F)) t_.heap ∧ va_D (fun q => B0 ≤ q) (((sb, .inr (1, [.ref (u.1), .int (nI 0), .int (nI 0), .int (nI ((tcat x (tF f)).2))])) :: (u.1, .inl (G.2.2.2.1, u.2.1, .inl u.2.2)) :: F))) (fun q => B0 ≤ q)) rJ5_append_b089e.cells rJ5_append_b089e.slots (fun q => B0 ≤ q) := by
  refine metW_of RJ5 [(0, .ref (sb)), (1, .float f)] rfl (by decide) (Nat.le_of_ble_eq_true rfl) rfl ?_
  intro p e s m args below meth c C hr hnm ht
  refine yq ?_
  intro QQ hQ
  refine yy_fload_n C 1 dJ5_append_b089e_0 (pc' := 1) rfl rfl rfl ?_
  refine yy_aload_n C 0 dJ5_append_b089e_1 (pc' := 2) rfl rfl rfl ?_
  refine yc_r (yr_S C (n := 2) (As := [.float f, .ref (sb)]) (rest := []) lk_J5_265 cd_Jx40b00_appendTo_8d9f2 st_Jx40b00_appendTo_8d9f2 (mJx40b00_appendTo_8d9f2 l G B0 sb x b F f hokF h hq) ⟨by decide, by decide⟩ ⟨by decide, by decide⟩ rfl rfl (Nat.le_of_ble_eq_true rfl) dJ5_append_b089e_2) (pc' := 5) rfl (fun u1 hw1 => ?_)
  refine yy_pop C dJ5_append_b089e_5 (pc' := 6) rfl rfl ?_
  refine yy_goto C (tgt := 19) dJ5_append_b089e_6 (by decide) ?_
  refine yy_aload_n C 0 dJ5_append_b089e_19 (pc' := 20) rfl rfl rfl ?_
  subst hQ
  exact ye_r C hr (Or.inl ⟨_, rfl⟩) u1 dJ5_append_b089e_20 rfl (by decide) (by decide) hw1

abbrev rJ4_append_9d4c8 : Room := { frames := 10, cells := 4, slots := 1032, locals := 271 }
set_option maxHeartbeats 1000000 in
set_option maxRecDepth 100000 in
theorem mJ4_append_9d4c8 (l : Launch) (G : gG) (B0 : Nat) (sb : Nat) (x : TT) (b : BU) (F : va_W) (f : UInt32) (hokF : okF f) (h : BO x b) (hq : x.2 + (tF f).2 < 500) : Met l yJ4_append_9d4c8 (Cond.code yJ4_append_9d4c8 cJ4_append_9d4c8 2 (some (.object "java/lang/StringBuilder")) :: WG) rJ4_append_9d4c8 (va_Pc [.ref (sb), .float f] (PR G B0 (((sb, .inr (1, [.ref (b.1), .int (nI 0), .int (nI 0), .int (nI x.2)])) :: (b.1, .inl (G.2.2.2.1, b.2.1, .inl b.2.2)) :: F)))) (va_Qr (fun (u : BU) => BO (tcat x (tF f)) u) (fun (u : BU) (a_ : Nat) (t_ : State) => a_ = sb ∧ va_P G.1 vwCl (((sb, .inr (1, [.ref (u.1), .int (nI 0), .int (nI 0), .int (nI ((tcat x (tF f)).2))])) :: (u.1, .inl (G.2.2.2.1, u.2.1, .inl u.2.2)) :: F)) t_.heap ∧ va_D (fun q => B0 ≤ q) (((sb, .inr (1, [.ref (u.1), .int (nI 0), .int (nI 0), .int (nI ((tcat x (tF f)).2))])) :: (u.1, .inl (G.2.2.2.1, u.2.1, .inl u.2.2)) :: F))) (fun q => B0 ≤ q)) rJ4_append_9d4c8.cells rJ4_append_9d4c8.slots (fun q => B0 ≤ q) := by
  refine met_of RJ4 [(0, .ref (sb)), (1, .float f)] rfl (by decide) (Nat.le_of_ble_eq_true rfl) rfl ?_
  intro p e s m args below meth c C hr hnm
  refine yq ?_
  intro QQ hQ
  refine yy_aload_n C 0 dJ4_append_9d4c8_0 (pc' := 1) rfl rfl rfl ?_
  refine yy_fload_n C 1 dJ4_append_9d4c8_1 (pc' := 2) rfl rfl rfl ?_
  refine yc_r (yr_SUW C (n := 1) (As := [.float f]) (rest := []) ly_J4_59 ii_J5 ⟨by decide, by decide +kernel⟩ sm_J5_append_b089e su_J4 cd_J5_append_b089e im_J5_append_b089e (mJ5_append_b089e l G B0 sb x b F f hokF h hq) ⟨by decide, by decide⟩ ⟨by decide, by decide⟩ 0 rfl rfl rfl rfl (Nat.le_of_ble_eq_true rfl) dJ4_append_9d4c8_2) (pc' := 5) rfl (fun u1 hw1 => ?_)
  refine yy_pop C dJ4_append_9d4c8_5 (pc' := 6) rfl rfl ?_
  refine yy_aload_n C 0 dJ4_append_9d4c8_6 (pc' := 7) rfl rfl rfl ?_
  subst hQ
  exact ye_r C hr (Or.inl ⟨_, rfl⟩) u1 dJ4_append_9d4c8_7 rfl (by decide) (by decide) hw1
