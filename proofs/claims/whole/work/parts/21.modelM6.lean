def amB (M : SM) (d : Int32) (y i : Nat) : Bool := decide (M.2 0 i = d) && !y.testBit i && decide (firM M y i = nI 45)
def amk (M : SM) (d : Int32) (x : Nat) : Nat → Nat
  | 0 => x
  | i + 1 => if amB M d (amk M d x i) i = true then cloM M (amk M d x i ||| 2 ^ i) else amk M d x i
def amc (M : SM) (d : Int32) (x : Nat) : Nat → Nat
  | 0 => 0
  | i + 1 => if amB M d (amk M d x i) i = true then amc M d x i + 1 else amc M d x i
theorem am_t {M : SM} {d : Int32} {x i : Nat} (h : amB M d (amk M d x i) i = true) : amk M d x (i + 1) = cloM M (amk M d x i ||| 2 ^ i) ∧ amc M d x (i + 1) = amc M d x i + 1 := ⟨by rw [amk, if_pos h], by rw [amc, if_pos h]⟩
theorem am_f {M : SM} {d : Int32} {x i : Nat} (h : amB M d (amk M d x i) i = false) : amk M d x (i + 1) = amk M d x i ∧ amc M d x (i + 1) = amc M d x i := ⟨by rw [amk, if_neg (by rw [h]; decide)], by rw [amc, if_neg (by rw [h]; decide)]⟩
theorem amc_le {M : SM} {d : Int32} {x : Nat} : ∀ i, amc M d x i ≤ i
  | 0 => Nat.le_refl _
  | i + 1 => by
    have h := amc_le (M := M) (d := d) (x := x) i
    rw [amc]
    split <;> omega
theorem amc_p {M : SM} {d : Int32} {x p n : Nat} (hp : p ≤ 99) (hn : n ≤ 40) : p * amc M d x n < 2 ^ 31 := by
  have h1 := amc_le (M := M) (d := d) (x := x) n
  have h2 : p * amc M d x n ≤ 99 * 40 := Nat.mul_le_mul hp (by omega)
  omega
abbrev rX7_answer : Room := { frames := 5, cells := 0, slots := 0, locals := 112 }
set_option maxHeartbeats 4000000 in
set_option maxRecDepth 100000 in
theorem mX7_answer (l : Launch) (G : gG) (B0 : Nat) (bd : Nat → Nat) (F : va_W) (M : SM) (k : Int32) (X : Nat → Nat) (hX : ∀ i, i < 5 → rowB (M.2 18) (40 * i) 40 (X i)) (hM : IM M) : Met l yX7_answer (Cond.code yX7_answer cX7_answer 5 (some .int) :: WG) rX7_answer (va_Pc [.ref (bd 0), .int k] (PR G B0 (wM G bd M ++ F))) (va_Qi (fun (r : Int32) (u : SM) => ∃ q : Nat, q = cdAns (M.1 6) (M.2 20) k ∧ ((q = 0 ∧ ∃ (j : Nat) (h v : Nat → Int32), (k = nI j ∧ j < M.1 6) ∧ rowB h (40 * (ix (M.2 12 j))) 40 (amk M (M.2 13 j) (X (ix (M.2 12 j))) (M.1 2)) ∧ (∀ z, (∀ q, q < 40 → z ≠ 40 * (ix (M.2 12 j)) + q) → h z = M.2 18 z) ∧ u = mN (mN (mI (mI (mI (mI (mI M 15 (upd (M.2 15) (ix (M.2 12 j)) (M.2 15 (ix (M.2 12 j)) + nI (M.1 7 * (amc M (M.2 13 j) (X (ix (M.2 12 j))) (M.1 2)))))) 16 (upd (M.2 16) (ix (M.2 12 j)) (M.2 16 (ix (M.2 12 j)) + nI (amc M (M.2 13 j) (X (ix (M.2 12 j))) (M.1 2))))) 18 h) 19 v) 20 (upd (M.2 20) j (nI 97))) 0 q) 9 (M.1 9 + M.1 7 * (amc M (M.2 13 j) (X (ix (M.2 12 j))) (M.1 2))) ∧ r = nI (amc M (M.2 13 j) (X (ix (M.2 12 j))) (M.1 2))) ∨ (¬ q = 0 ∧ u = mN M 0 q))) (fun (u : SM) (t_ : State) => va_P G.1 vwCl (wM G bd u ++ F) t_.heap ∧ va_D (fun q => B0 ≤ q) (wM G bd u ++ F)) (fun q => B0 ≤ q)) rX7_answer.cells rX7_answer.slots (fun q => B0 ≤ q) := by
  refine met_of RX7 [(0, .ref (bd 0)), (1, .int k)] rfl (by decide) (Nat.le_of_ble_eq_true rfl) rfl ?_
  intro p e s m args below meth c C hr hnm
  refine yq ?_
  intro QQ hQ
  obtain ⟨j1, j2, j3, j4, j5, j6, j7, j8, jJ, jQ⟩ := id hM
  refine yy_aload_n C 0 dX7_answer_0 (pc' := 1) rfl rfl rfl ?_
  refine yy_iload_n C 1 dX7_answer_1 (pc' := 2) rfl rfl rfl ?_
  refine yc_i (yr_V C (As := [.int k]) (rest := []) lk_X7_158 cd_X7_noRequest im_X7_noRequest se_X7_noRequest (mX7_noRequest l G B0 bd F (M) k (by exact hM)) ⟨by decide, by decide⟩ ⟨by decide, by decide⟩ 0 rfl rfl rfl rfl (Nat.le_of_ble_eq_true rfl) dX7_answer_2) (pc' := 5) rfl (fun r1 _ hw1 => ?_)
  subst hw1
  refine yb_if_eq C dX7_answer_5 (pc' := 8) rfl (tgt := 10) (by decide) (fun c_5 => ?_) (fun c_5 => ?_)
  · skip
    have zn1 : inR k (M.1 6) = true := by simpa [mN, va_up] using c_5
    obtain ⟨jk, hjk, rfl⟩ := inR_of (by omega) zn1
    have ejk : ix (nI jk) = jk := ix_lt hjk (by omega)
    refine yy_aload_n C 0 dX7_answer_10 (pc' := 11) rfl rfl rfl ?_
    refine yy_get C (v := .ref (bd 21)) fk_X7_75 0 dX7_answer_11 (pc' := 14) rfl rfl rfl ?_
    refine yy_iload_n C 1 dX7_answer_14 (pc' := 15) rfl rfl rfl ?_
    refine yy_cald C 21 dX7_answer_15 (pc' := 16) rfl rfl (by omega) (by decide) ?_
    refine yy_bipush C (v := (nI 119)) dX7_answer_16 (pc' := 18) rfl (by decide) ?_
    refine yy_icmp_eq C dX7_answer_18 (pc' := 21) rfl (tgt := 27) (by decide) (fun c_18 => ?_) (fun c_18 => ?_)
    · skip
      refine yy_aload_n C 0 dX7_answer_27 (pc' := 28) rfl rfl rfl ?_
      refine yy_get C (v := .ref (bd 13)) fk_X7_50 0 dX7_answer_28 (pc' := 31) rfl rfl rfl ?_
      refine yy_iload_n C 1 dX7_answer_31 (pc' := 32) rfl rfl rfl ?_
      refine yy_iald C 13 dX7_answer_32 (pc' := 33) rfl rfl (by omega) (by decide) ?_
      refine yy_ix ?_
      have hA5 : ix (M.2 12 jk) < 5 := jQ jk hjk
      refine yy_istore_n C (L' := [(2, .int (nI (ix (M.2 12 jk)))), (0, .ref (bd 0)), (1, .int (nI jk))]) dX7_answer_33 (pc' := 34) rfl rfl (by decide) rfl ?_
      refine yy_iconst C (v := (nI 0)) dX7_answer_34 (pc' := 35) rfl (by decide) ?_
      refine yy_istore_n C (L' := [(3, .int (nI 0)), (2, .int (nI (ix (M.2 12 jk)))), (0, .ref (bd 0)), (1, .int (nI jk))]) dX7_answer_35 (pc' := 36) rfl rfl (by decide) rfl ?_
      refine yy_iconst C (v := (nI 0)) dX7_answer_36 (pc' := 37) rfl (by decide) ?_
      refine yy_istore C (L' := [(4, .int (nI 0)), (3, .int (nI 0)), (2, .int (nI (ix (M.2 12 jk)))), (0, .ref (bd 0)), (1, .int (nI jk))]) dX7_answer_37 (pc' := 39) rfl (by decide) rfl ?_
      have lp_39 : ∀ (f_ : Nat) (i : Nat) (h : Nat → Int32) (v : Nat → Int32), (hi : i ≤ M.1 2) → (hrw : rowB h (40 * (ix (M.2 12 jk))) 40 (amk M (M.2 13 jk) (X (ix (M.2 12 jk))) i)) → (ho : ∀ z, (∀ q, q < 40 → z ≠ 40 * (ix (M.2 12 jk)) + q) → h z = M.2 18 z) → M.1 2 - i < f_ → YY p l e rX7_answer s m args below meth c G B0 5 QQ 39 [(3, .int (nI (amc M (M.2 13 jk) (X (ix (M.2 12 jk))) i))), (4, .int (nI i)), (0, .ref (bd 0)), (1, .int (nI jk)), (2, .int (nI (ix (M.2 12 jk))))] [] (wM G bd (mN (mI (mI M 18 h) 19 v) 0 (cd1 (M.1 6) (nI jk))) ++ F) 0 0 := by
        intro f_
        induction f_ with
        | zero => intro i h v hi hrw ho hf_; exact absurd hf_ (Nat.not_lt_zero _)
        | succ f_ ih =>
          intro i h v hi hrw ho hf_
          refine yy_iload C 1 dX7_answer_39 (pc' := 41) rfl rfl ?_
          refine yy_aload_n C 2 dX7_answer_41 (pc' := 42) rfl rfl rfl ?_
          refine yy_get C (v := .int (nI (M.1 2))) fk_X7_89 0 dX7_answer_42 (pc' := 45) rfl rfl rfl ?_
          refine yn_icmp_ge C (by omega) (by omega) dX7_answer_45 (pc' := 48) rfl (tgt := 121) (by decide) (fun c_45 => ?_) (fun c_45 => ?_)
          · skip
            obtain rfl : i = M.1 2 := by omega
            have hpc : M.1 7 * amc M (M.2 13 jk) (X (ix (M.2 12 jk))) (M.1 2) < 2 ^ 31 := amc_p j7 j2
            refine yy_aload_n C 2 dX7_answer_121 (pc' := 122) rfl rfl rfl ?_
            refine yy_get C (v := .ref (bd 21)) fk_X7_75 0 dX7_answer_122 (pc' := 125) rfl rfl rfl ?_
            refine yy_iload_n C 3 dX7_answer_125 (pc' := 126) rfl rfl rfl ?_
            refine yy_bipush C (v := (nI 97)) dX7_answer_126 (pc' := 128) rfl (by decide) ?_
            refine yy_cast C (w' := wM G bd (mN (mI (mI (mI M 18 h) 19 v) 20 (upd (M.2 20) jk (nI 97))) 0 (cd1 (M.1 6) (nI jk))) ++ F) 21 dX7_answer_128 (pc' := 129) rfl rfl (by omega) (by decide) rfl rfl ?_
            refine yy_aload_n C 2 dX7_answer_129 (pc' := 130) rfl rfl rfl ?_
            refine yy_get C (v := .ref (bd 17)) fk_X7_62 0 dX7_answer_130 (pc' := 133) rfl rfl rfl ?_
            refine yy_iload_n C 4 dX7_answer_133 (pc' := 134) rfl rfl rfl ?_
            refine yy_dup2 C dX7_answer_134 (pc' := 135) rfl rfl rfl ?_
            refine yy_iald C 17 dX7_answer_135 (pc' := 136) rfl rfl (by omega) (by decide) ?_
            refine yy_iload_n C 0 dX7_answer_136 (pc' := 137) rfl rfl rfl ?_
            refine yy_iadd C (v := (((M.2 16) (ix (M.2 12 jk))) + (nI (amc M (M.2 13 jk) (X (ix (M.2 12 jk))) (M.1 2))))) dX7_answer_137 (pc' := 138) rfl rfl ?_
            refine yy_iast C (w' := wM G bd (mN (mI (mI (mI (mI M 16 (upd (M.2 16) (ix (M.2 12 jk)) (((M.2 16) (ix (M.2 12 jk))) + (nI (amc M (M.2 13 jk) (X (ix (M.2 12 jk))) (M.1 2)))))) 18 h) 19 v) 20 (upd (M.2 20) jk (nI 97))) 0 (cd1 (M.1 6) (nI jk))) ++ F) 17 dX7_answer_138 (pc' := 139) rfl rfl (by omega) (by decide) rfl ?_
            refine yy_aload_n C 2 dX7_answer_139 (pc' := 140) rfl rfl rfl ?_
            refine yy_get C (v := .ref (bd 16)) fk_X7_59 0 dX7_answer_140 (pc' := 143) rfl rfl rfl ?_
            refine yy_iload_n C 4 dX7_answer_143 (pc' := 144) rfl rfl rfl ?_
            refine yy_dup2 C dX7_answer_144 (pc' := 145) rfl rfl rfl ?_
            refine yy_iald C 16 dX7_answer_145 (pc' := 146) rfl rfl (by omega) (by decide) ?_
            refine yy_aload_n C 2 dX7_answer_146 (pc' := 147) rfl rfl rfl ?_
            refine yy_get C (v := .int (nI (M.1 7))) fk_X7_7 0 dX7_answer_147 (pc' := 150) rfl rfl rfl ?_
            refine yy_iload_n C 0 dX7_answer_150 (pc' := 151) rfl rfl rfl ?_
            refine yy_imul C (v := (nI ((M.1 7) * (amc M (M.2 13 jk) (X (ix (M.2 12 jk))) (M.1 2))))) dX7_answer_151 (pc' := 152) rfl (pk_mul (M.1 7) (amc M (M.2 13 jk) (X (ix (M.2 12 jk))) (M.1 2))) ?_
            refine yy_iadd C (v := (((M.2 15) (ix (M.2 12 jk))) + (nI ((M.1 7) * (amc M (M.2 13 jk) (X (ix (M.2 12 jk))) (M.1 2)))))) dX7_answer_152 (pc' := 153) rfl rfl ?_
            refine yy_iast C (w' := wM G bd (mN (mI (mI (mI (mI (mI M 15 (upd (M.2 15) (ix (M.2 12 jk)) (((M.2 15) (ix (M.2 12 jk))) + (nI ((M.1 7) * (amc M (M.2 13 jk) (X (ix (M.2 12 jk))) (M.1 2))))))) 16 (upd (M.2 16) (ix (M.2 12 jk)) (((M.2 16) (ix (M.2 12 jk))) + (nI (amc M (M.2 13 jk) (X (ix (M.2 12 jk))) (M.1 2)))))) 18 h) 19 v) 20 (upd (M.2 20) jk (nI 97))) 0 (cd1 (M.1 6) (nI jk))) ++ F) 16 dX7_answer_153 (pc' := 154) rfl rfl (by omega) (by decide) rfl ?_
            refine yy_aload_n C 2 dX7_answer_154 (pc' := 155) rfl rfl rfl ?_
            refine yy_dup C dX7_answer_155 (pc' := 156) rfl rfl ?_
            refine yy_get C (v := .long (lN (M.1 9))) fk_X7_161 0 dX7_answer_156 (pc' := 159) rfl rfl rfl ?_
            refine yy_aload_n C 2 dX7_answer_159 (pc' := 160) rfl rfl rfl ?_
            refine yy_get C (v := .int (nI (M.1 7))) fk_X7_7 0 dX7_answer_160 (pc' := 163) rfl rfl rfl ?_
            refine yy_iload_n C 0 dX7_answer_163 (pc' := 164) rfl rfl rfl ?_
            refine yy_imul C (v := (nI ((M.1 7) * (amc M (M.2 13 jk) (X (ix (M.2 12 jk))) (M.1 2))))) dX7_answer_164 (pc' := 165) rfl (pk_mul (M.1 7) (amc M (M.2 13 jk) (X (ix (M.2 12 jk))) (M.1 2))) ?_
            refine yy_i2l C (v := (lN ((M.1 7) * (amc M (M.2 13 jk) (X (ix (M.2 12 jk))) (M.1 2))))) dX7_answer_165 (pc' := 166) rfl (nI_l hpc) ?_
            refine yy_ladd C (v := (lN ((M.1 9) + ((M.1 7) * (amc M (M.2 13 jk) (X (ix (M.2 12 jk))) (M.1 2)))))) dX7_answer_166 (pc' := 167) rfl (lN_add (M.1 9) ((M.1 7) * (amc M (M.2 13 jk) (X (ix (M.2 12 jk))) (M.1 2)))) ?_
            refine yy_put C (w' := wM G bd (mN (mN (mI (mI (mI (mI (mI M 15 (upd (M.2 15) (ix (M.2 12 jk)) (((M.2 15) (ix (M.2 12 jk))) + (nI ((M.1 7) * (amc M (M.2 13 jk) (X (ix (M.2 12 jk))) (M.1 2))))))) 16 (upd (M.2 16) (ix (M.2 12 jk)) (((M.2 16) (ix (M.2 12 jk))) + (nI (amc M (M.2 13 jk) (X (ix (M.2 12 jk))) (M.1 2)))))) 18 h) 19 v) 20 (upd (M.2 20) jk (nI 97))) 0 (cd1 (M.1 6) (nI jk))) 9 ((M.1 9) + ((M.1 7) * (amc M (M.2 13 jk) (X (ix (M.2 12 jk))) (M.1 2))))) ++ F) fk_X7_161 fpW7 rfl 0 dX7_answer_167 (pc' := 170) rfl rfl rfl rfl (Nat.le_of_ble_eq_true rfl) rfl ?_
            refine yy_iload_n C 0 dX7_answer_170 (pc' := 171) rfl rfl rfl ?_
            subst hQ
            exact ye_i C hr (vp_nar_int _) (mN (mN (mI (mI (mI (mI (mI M 15 (upd (M.2 15) (ix (M.2 12 jk)) (((M.2 15) (ix (M.2 12 jk))) + (nI ((M.1 7) * (amc M (M.2 13 jk) (X (ix (M.2 12 jk))) (M.1 2))))))) 16 (upd (M.2 16) (ix (M.2 12 jk)) (((M.2 16) (ix (M.2 12 jk))) + (nI (amc M (M.2 13 jk) (X (ix (M.2 12 jk))) (M.1 2)))))) 18 h) 19 v) 20 (upd (M.2 20) jk (nI 97))) 0 (cd1 (M.1 6) (nI jk))) 9 ((M.1 9) + ((M.1 7) * (amc M (M.2 13 jk) (X (ix (M.2 12 jk))) (M.1 2))))) dX7_answer_171 rfl (by decide) (by decide) ⟨(cd1 (M.1 6) (nI jk)), (show (cd1 (M.1 6) (nI jk)) = 0 by simp [cd1, zn1, ejk]).trans (ans_0 j6 hjk c_18).symm, Or.inl ⟨by simp [cd1, zn1, ejk], jk, h, v, ⟨rfl, hjk⟩, hrw, ho, rfl, rfl⟩⟩
          · skip
            refine yy_aload_n C 2 dX7_answer_48 (pc' := 49) rfl rfl rfl ?_
            refine yy_get C (v := .ref (bd 1)) fk_X7_13 0 dX7_answer_49 (pc' := 52) rfl rfl rfl ?_
            refine yy_iload C 1 dX7_answer_52 (pc' := 54) rfl rfl ?_
            refine yy_iald C 1 dX7_answer_54 (pc' := 55) rfl rfl (by omega) (by decide) ?_
            refine yy_aload_n C 2 dX7_answer_55 (pc' := 56) rfl rfl rfl ?_
            refine yy_get C (v := .ref (bd 14)) fk_X7_53 0 dX7_answer_56 (pc' := 59) rfl rfl rfl ?_
            refine yy_iload_n C 3 dX7_answer_59 (pc' := 60) rfl rfl rfl ?_
            refine yy_iald C 14 dX7_answer_60 (pc' := 61) rfl rfl (by omega) (by decide) ?_
            refine yy_icmp_ne C dX7_answer_61 (pc' := 64) rfl (tgt := 115) (by decide) (fun c_61 => ?_) (fun c_61 => ?_)
            · skip
              refine yy_iinc C (v := (nI (i + 1))) (L' := [(4, .int (nI (i + 1))), (3, .int (nI (amc M (M.2 13 jk) (X (ix (M.2 12 jk))) i))), (0, .ref (bd 0)), (1, .int (nI jk)), (2, .int (nI (ix (M.2 12 jk))))]) 1 dX7_answer_115 (pc' := 118) rfl rfl (nI_add i 1) (by decide) rfl ?_
              refine yy_goto C (tgt := 39) dX7_answer_118 (by decide) ?_
              obtain ⟨hg1, hg2⟩ := am_f (M := M) (d := M.2 13 jk) (x := X (ix (M.2 12 jk))) (i := i) (by simp [amB, show ¬ M.2 0 i = M.2 13 jk from c_61])
              refine yy_loc [1, 0, 2, 3, 4] rfl ?_
              rw [← hg2]
              exact ih (i + 1) h v (by omega) (by rw [hg1]; exact hrw) ho (by omega)
            · skip
              refine yy_aload_n C 2 dX7_answer_64 (pc' := 65) rfl rfl rfl ?_
              refine yy_get C (v := .ref (bd 19)) fk_X7_69 0 dX7_answer_65 (pc' := 68) rfl rfl rfl ?_
              refine yy_bipush C (v := (nI 40)) dX7_answer_68 (pc' := 70) rfl (by decide) ?_
              refine yy_iload_n C 4 dX7_answer_70 (pc' := 71) rfl rfl rfl ?_
              refine yy_imul C (v := (nI (40 * (ix (M.2 12 jk))))) dX7_answer_71 (pc' := 72) rfl (pk_mul 40 (ix (M.2 12 jk))) ?_
              refine yy_iload C 1 dX7_answer_72 (pc' := 74) rfl rfl ?_
              refine yy_iadd C (v := (nI ((40 * (ix (M.2 12 jk))) + i))) dX7_answer_74 (pc' := 75) rfl (nI_add (40 * (ix (M.2 12 jk))) i) ?_
              refine yy_zald C 19 dX7_answer_75 (pc' := 76) rfl rfl (by omega) (by decide) ?_
              refine yy_eqi (hrw i (by omega)) ?_
              refine yb_if_ne C dX7_answer_76 (pc' := 79) rfl (tgt := 115) (by decide) (fun c_76 => ?_) (fun c_76 => ?_)
              · skip
                refine yy_iinc C (v := (nI (i + 1))) (L' := [(4, .int (nI (i + 1))), (3, .int (nI (amc M (M.2 13 jk) (X (ix (M.2 12 jk))) i))), (0, .ref (bd 0)), (1, .int (nI jk)), (2, .int (nI (ix (M.2 12 jk))))]) 1 dX7_answer_115 (pc' := 118) rfl rfl (nI_add i 1) (by decide) rfl ?_
                refine yy_goto C (tgt := 39) dX7_answer_118 (by decide) ?_
                obtain ⟨hg1, hg2⟩ := am_f (M := M) (d := M.2 13 jk) (x := X (ix (M.2 12 jk))) (i := i) (by simp [amB, c_76])
                refine yy_loc [1, 0, 2, 3, 4] rfl ?_
                rw [← hg2]
                exact ih (i + 1) h v (by omega) (by rw [hg1]; exact hrw) ho (by omega)
              · skip
                refine yy_aload_n C 2 dX7_answer_79 (pc' := 80) rfl rfl rfl ?_
                refine yy_iload_n C 4 dX7_answer_80 (pc' := 81) rfl rfl rfl ?_
                refine yy_iload C 1 dX7_answer_81 (pc' := 83) rfl rfl ?_
                refine yc_i (yr_V C (As := [.int (nI (ix (M.2 12 jk))), .int (nI i)]) (rest := []) lk_X7_148 cd_X7_first im_X7_first se_X7_first (mX7_first l G B0 bd F (mN (mI (mI M 18 h) 19 v) 0 (cd1 (M.1 6) (nI jk))) (ix (M.2 12 jk)) i (amk M (M.2 13 jk) (X (ix (M.2 12 jk))) i) hA5 (show i < M.1 2 by omega) hrw (by exact hM)) ⟨by decide, by decide⟩ ⟨by decide, by decide⟩ 0 rfl rfl rfl rfl (Nat.le_of_ble_eq_true rfl) dX7_answer_83) (pc' := 86) rfl (fun r2 u1 hw2 => ?_)
                subst hw2
                refine yy_eqi (show _ = firM M (amk M (M.2 13 jk) (X (ix (M.2 12 jk))) i) i from rfl) ?_
                refine yy_bipush C (v := (nI 45)) dX7_answer_86 (pc' := 88) rfl (by decide) ?_
                refine yy_icmp_eq C dX7_answer_88 (pc' := 91) rfl (tgt := 94) (by decide) (fun c_88 => ?_) (fun c_88 => ?_)
                · skip
                  refine yy_aload_n C 2 dX7_answer_94 (pc' := 95) rfl rfl rfl ?_
                  refine yy_get C (v := .ref (bd 19)) fk_X7_69 0 dX7_answer_95 (pc' := 98) rfl rfl rfl ?_
                  refine yy_bipush C (v := (nI 40)) dX7_answer_98 (pc' := 100) rfl (by decide) ?_
                  refine yy_iload_n C 4 dX7_answer_100 (pc' := 101) rfl rfl rfl ?_
                  refine yy_imul C (v := (nI (40 * (ix (M.2 12 jk))))) dX7_answer_101 (pc' := 102) rfl (pk_mul 40 (ix (M.2 12 jk))) ?_
                  refine yy_iload C 1 dX7_answer_102 (pc' := 104) rfl rfl ?_
                  refine yy_iadd C (v := (nI ((40 * (ix (M.2 12 jk))) + i))) dX7_answer_104 (pc' := 105) rfl (nI_add (40 * (ix (M.2 12 jk))) i) ?_
                  refine yy_iconst C (v := (nI 1)) dX7_answer_105 (pc' := 106) rfl (by decide) ?_
                  refine yy_zast C (w' := wM G bd (mN (mI (mI M 18 (upd h ((40 * (ix (M.2 12 jk))) + i) (nI 1))) 19 u1) 0 (cd1 (M.1 6) (nI jk))) ++ F) 19 dX7_answer_106 (pc' := 107) rfl rfl (by omega) (by decide) rfl rfl ?_
                  refine yy_aload_n C 2 dX7_answer_107 (pc' := 108) rfl rfl rfl ?_
                  refine yy_iload_n C 4 dX7_answer_108 (pc' := 109) rfl rfl rfl ?_
                  refine yc_v (yr_V C (As := [.int (nI (ix (M.2 12 jk)))]) (rest := []) lk_X7_131 cd_X7_grows im_X7_grows se_X7_grows (mX7_grows l G B0 bd F (mN (mI (mI M 18 (upd h ((40 * (ix (M.2 12 jk))) + i) (nI 1))) 19 u1) 0 (cd1 (M.1 6) (nI jk))) (ix (M.2 12 jk)) (amk M (M.2 13 jk) (X (ix (M.2 12 jk))) i ||| 2 ^ i) hA5 (row_set hrw (by omega)) (by exact hM)) ⟨by decide, by decide⟩ ⟨by decide, by decide⟩ 0 rfl rfl rfl rfl (Nat.le_of_ble_eq_true rfl) dX7_answer_109) (pc' := 112) rfl (fun u2 hw3 => ?_)
                  obtain ⟨hg1a, hg1b⟩ := hw3
                  refine yy_iinc C (v := (nI ((amc M (M.2 13 jk) (X (ix (M.2 12 jk))) i) + 1))) (L' := [(3, .int (nI ((amc M (M.2 13 jk) (X (ix (M.2 12 jk))) i) + 1))), (4, .int (nI i)), (0, .ref (bd 0)), (1, .int (nI jk)), (2, .int (nI (ix (M.2 12 jk))))]) 0 dX7_answer_112 (pc' := 115) rfl rfl (nI_add (amc M (M.2 13 jk) (X (ix (M.2 12 jk))) i) 1) (by decide) rfl ?_
                  refine yy_iinc C (v := (nI (i + 1))) (L' := [(4, .int (nI (i + 1))), (3, .int (nI ((amc M (M.2 13 jk) (X (ix (M.2 12 jk))) i) + 1))), (0, .ref (bd 0)), (1, .int (nI jk)), (2, .int (nI (ix (M.2 12 jk))))]) 1 dX7_answer_115 (pc' := 118) rfl rfl (nI_add i 1) (by decide) rfl ?_
                  refine yy_goto C (tgt := 39) dX7_answer_118 (by decide) ?_
                  obtain ⟨hg1, hg2⟩ := am_t (M := M) (d := M.2 13 jk) (x := X (ix (M.2 12 jk))) (i := i) (by simp [amB, show M.2 0 i = M.2 13 jk from c_61, c_76, c_88])
                  refine yy_loc [1, 0, 2, 3, 4] rfl ?_
                  rw [← hg2]
                  exact ih (i + 1) u2 u1 (by omega) (by rw [hg1]; exact hg1a) (fun z hz => (hg1b z hz).trans (out_set (by omega) ho z hz)) (by omega)
                · skip
                  refine yy_goto C (tgt := 115) dX7_answer_91 (by decide) ?_
                  refine yy_iinc C (v := (nI (i + 1))) (L' := [(4, .int (nI (i + 1))), (3, .int (nI (amc M (M.2 13 jk) (X (ix (M.2 12 jk))) i))), (0, .ref (bd 0)), (1, .int (nI jk)), (2, .int (nI (ix (M.2 12 jk))))]) 1 dX7_answer_115 (pc' := 118) rfl rfl (nI_add i 1) (by decide) rfl ?_
                  refine yy_goto C (tgt := 39) dX7_answer_118 (by decide) ?_
                  obtain ⟨hg1, hg2⟩ := am_f (M := M) (d := M.2 13 jk) (x := X (ix (M.2 12 jk))) (i := i) (by simp [amB, c_88])
                  refine yy_loc [1, 0, 2, 3, 4] rfl ?_
                  rw [← hg2]
                  exact ih (i + 1) h u1 (by omega) (by rw [hg1]; exact hrw) ho (by omega)
      refine yy_loc (L' := [(3, .int (nI 0)), (4, .int (nI 0)), (0, .ref (bd 0)), (1, .int (nI jk)), (2, .int (nI (ix (M.2 12 jk))))]) [1, 0, 3, 4, 2] rfl ?_
      exact lp_39 (M.1 2 - 0 + 1) 0 (M.2 18) (M.2 19) (Nat.zero_le _) (hX _ hA5) (fun _ _ => rfl) (Nat.lt_succ_self _)
    · skip
      refine yy_aload_n C 0 dX7_answer_21 (pc' := 22) rfl rfl rfl ?_
      refine yy_iconst C (v := (nI 2)) dX7_answer_22 (pc' := 23) rfl (by decide) ?_
      refine yc_i (yr_V C (As := [.int (nI 2)]) (rest := []) lk_X7_92 cd_X7_refuse im_X7_refuse se_X7_refuse (mX7_refuse l G B0 bd F (mN M 0 (cd1 (M.1 6) (nI jk))) 2) ⟨by decide, by decide⟩ ⟨by decide, by decide⟩ 0 rfl rfl rfl rfl (Nat.le_of_ble_eq_true rfl) dX7_answer_23) (pc' := 26) rfl (fun r2 _ hw2 => ?_)
      subst hw2
      subst hQ
      exact ye_i C hr (vp_nar_int _) (mN M 0 2) dX7_answer_26 rfl (by decide) (by decide) ⟨2, (ans_2 j6 hjk c_18).symm, Or.inr ⟨by decide, rfl⟩⟩
  · skip
    have zn1 : inR k (M.1 6) = false := by simpa [mN, va_up] using c_5
    refine yy_iconst C (v := (nI 0)) dX7_answer_8 (pc' := 9) rfl (by decide) ?_
    subst hQ
    exact ye_i C hr (vp_nar_int _) (mN M 0 (cd1 (M.1 6) k)) dX7_answer_9 rfl (by decide) (by decide) ⟨(cd1 (M.1 6) k), by simp [cd1, cdAns, zn1], Or.inr ⟨(by simp [cd1, zn1]), rfl⟩⟩
