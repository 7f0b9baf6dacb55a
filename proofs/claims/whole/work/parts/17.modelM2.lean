def jp (M : SM) : Nat → Nat := fun j => ix (M.2 9 j)
def jq (M : SM) : Nat → Nat := fun j => ix (M.2 10 j)
def jt (M : SM) : Nat → Nat := fun j => ix (M.2 11 j)
def cloM (M : SM) (x : Nat) : Nat := cloP (jp M) (jq M) (jt M) (M.1 5) x
def rowB (f : Nat → Int32) (b n x : Nat) : Prop := ∀ k, k < n → f (b + k) = bI (x.testBit k)
def rowW (f : Nat → Int32) (n x : Nat) : Prop := ∀ k, k < n → f k = bI (x.testBit k)
def satM (M : SM) (y j : Nat) : Prop := ¬ (y.testBit (jp M j) = true ∧ y.testBit (jq M j) = true ∧ y.testBit (jt M j) = false)
def muM (M : SM) (y : Nat) : Nat := muP (jt M) (M.1 5) y
def b2n (b : Bool) : Nat := if b then 1 else 0
theorem row_set {f : Nat → Int32} {b n x t : Nat} (h : rowB f b n x) (ht : t < n) : rowB (upd f (b + t) (nI 1)) b n (x ||| 2 ^ t) := by
  intro k hk
  unfold upd
  rw [or_bit]
  by_cases hkt : k = t
  · subst hkt; simp; rfl
  · rw [if_neg (by omega), h k hk]
    rw [decide_eq_false (fun hh : t = k => hkt hh.symm), Bool.or_false]
theorem rowW_set {f : Nat → Int32} {n x t : Nat} (h : rowW f n x) : rowW (upd f t (nI 1)) n (x ||| 2 ^ t) := by
  intro k hk
  unfold upd
  rw [or_bit]
  by_cases hkt : k = t
  · subst hkt; simp; rfl
  · rw [if_neg hkt, h k hk]
    rw [decide_eq_false (fun hh : t = k => hkt hh.symm), Bool.or_false]
theorem out_set {f g : Nat → Int32} {b t : Nat} {v : Int32} (ht : t < 40) (h : ∀ i, (∀ k, k < 40 → i ≠ b + k) → f i = g i) : ∀ i, (∀ k, k < 40 → i ≠ b + k) → upd f (b + t) v i = g i := by
  intro i hi
  unfold upd
  rw [if_neg (hi t ht)]
  exact h i hi
theorem gr_s {M : SM} {b2 : Bool} {y y2 j : Nat} (hd : (b2 = false ∧ y2 = y ∧ ∀ i, i < j → satM M y i) ∨ (b2 = true ∧ muM M y2 < muM M y)) (hs : satM M y2 j) : (b2 = false ∧ y2 = y ∧ ∀ i, i < j + 1 → satM M y i) ∨ (b2 = true ∧ muM M y2 < muM M y) := by
  rcases hd with ⟨h1, h2, h3⟩ | h
  · exact Or.inl ⟨h1, h2, lt_s h3 (h2 ▸ hs)⟩
  · exact Or.inr h
theorem mu_set {M : SM} {y j : Nat} (hj : j < M.1 5) (h : y.testBit (jt M j) = false) : muM M (y ||| 2 ^ jt M j) < muM M y := mu_lt_of (sub_or _ _) ⟨j, hj, h, or_self_t⟩
theorem gr_t {M : SM} {b2 : Bool} {y y2 j : Nat} (hd : (b2 = false ∧ y2 = y ∧ ∀ i, i < j → satM M y i) ∨ (b2 = true ∧ muM M y2 < muM M y)) (hj : j < M.1 5) (h : y2.testBit (jt M j) = false) : muM M (y2 ||| 2 ^ jt M j) < muM M y := by
  have h1 := mu_set hj h
  rcases hd with ⟨-, h2, -⟩ | ⟨-, h2⟩
  · rw [h2] at h1 ⊢; exact h1
  · omega
theorem gr_in {M : SM} {x y j : Nat} (hj : j < M.1 5) (h : subM y (cloM M x)) (h1 : y.testBit (jp M j) = true) (h2 : y.testBit (jq M j) = true) : subM (y ||| 2 ^ jt M j) (cloM M x) := or_sub h (clo_closed _ _ _ _ _ j hj (h _ h1) (h _ h2))
theorem gr_end {M : SM} {x y : Nat} (hx : subM x y) (hy : subM y (cloM M x)) (hs : ∀ j, j < M.1 5 → satM M y j) : y = cloM M x := by
  refine bits_eq hy (clo_sub (fun j hj h1 h2 => ?_) hx)
  cases hb : y.testBit (jt M j)
  · exact absurd ⟨h1, h2, hb⟩ (hs j hj)
  · rfl
theorem gr_out {M : SM} {b2 : Bool} {y y2 j : Nat} (hd : (b2 = false ∧ y2 = y ∧ ∀ i, i < j → satM M y i) ∨ (b2 = true ∧ muM M y2 < muM M y)) (hj : M.1 5 ≤ j) : b2 = false → ∀ i, i < M.1 5 → satM M y2 i := by
  intro hb i hi
  rcases hd with ⟨-, h2, h3⟩ | ⟨h1, -⟩
  · rw [h2]; exact h3 i (by omega)
  · rw [h1] at hb; cases hb
theorem gr_me {M : SM} {b2 : Bool} {y y2 j f : Nat} (hd : (b2 = false ∧ y2 = y ∧ ∀ i, i < j → satM M y i) ∨ (b2 = true ∧ muM M y2 < muM M y)) (hf : 2 * muM M y + b2n true < f + 1) : 2 * muM M y2 + b2n b2 < f := by
  have e1 : b2n true = 1 := rfl
  have e2 : b2n false = 0 := rfl
  rw [e1] at hf
  rcases hd with ⟨h1, h2, -⟩ | ⟨h1, h2⟩
  · rw [h1, h2, e2]; omega
  · rw [h1, e1]; omega
def bpM (M : SM) (x z k : Nat) : Bool := (cloM M z).testBit k && !x.testBit k && hidM M k
def betI (M : SM) (x k : Nat) : Int32 := fstI (bpM M x (x ||| 2 ^ k)) (M.1 2)
def firM (M : SM) (x k : Nat) : Int32 := if hRM M k = true then nI 114 else if hSM M k = true then nI 115 else if 0 ≤ betI M x k then nI 106 else nI 45
def cauI (M : SM) (x k : Nat) : Int32 := if hidM M k = true then nI k else betI M x k
theorem fill_t {f : Nat → Int32} {i z : Nat} (h : rowW f i z) (hb : z.testBit i = true) : rowW (upd f i (nI 1)) (i + 1) z := by
  intro q hq
  unfold upd
  by_cases hqi : q = i
  · subst hqi; rw [if_pos rfl, hb]; rfl
  · rw [if_neg hqi]; exact h q (by omega)
theorem fill_f {f : Nat → Int32} {i z : Nat} (h : rowW f i z) (hb : z.testBit i = false) : rowW (upd f i (nI 0)) (i + 1) z := by
  intro q hq
  unfold upd
  by_cases hqi : q = i
  · subst hqi; rw [if_pos rfl, hb]; rfl
  · rw [if_neg hqi]; exact h q (by omega)
abbrev rX7_grows : Room := { frames := 0, cells := 0, slots := 0, locals := 0 }
set_option maxHeartbeats 4000000 in
set_option maxRecDepth 100000 in
theorem mX7_grows (l : Launch) (G : gG) (B0 : Nat) (bd : Nat → Nat) (F : va_W) (M : SM) (a x : Nat) (ha : a < 5) (hrow : rowB (M.2 18) (40 * a) 40 x) (hM : IM M) : Met l yX7_grows (Cond.code yX7_grows cX7_grows 4 none :: WG) rX7_grows (va_Pc [.ref (bd 0), .int (nI a)] (PR G B0 (wM G bd M ++ F))) (va_Qv (fun (u : Nat → Int32) => rowB u (40 * a) 40 (cloM M x) ∧ ∀ i, (∀ k, k < 40 → i ≠ 40 * a + k) → u i = M.2 18 i) (fun (u : Nat → Int32) (t_ : State) => va_P G.1 vwCl (wM G bd (mI M 18 u) ++ F) t_.heap ∧ va_D (fun q => B0 ≤ q) (wM G bd (mI M 18 u) ++ F)) (fun q => B0 ≤ q)) rX7_grows.cells rX7_grows.slots (fun q => B0 ≤ q) := by
  refine met_of RX7 [(0, .ref (bd 0)), (1, .int (nI a))] rfl (by decide) (Nat.le_of_ble_eq_true rfl) rfl ?_
  intro p e s m args below meth c C hr hnm
  refine yq ?_
  intro QQ hQ
  obtain ⟨j1, j2, j3, j4, j5, j6, j7, j8, jJ, jQ⟩ := id hM
  refine yy_iconst C (v := (nI 1)) dX7_grows_0 (pc' := 1) rfl (by decide) ?_
  refine yy_istore_n C (L' := [(2, .int (nI 1)), (0, .ref (bd 0)), (1, .int (nI a))]) dX7_grows_1 (pc' := 2) rfl rfl (by decide) rfl ?_
  have lp_2 : ∀ (f_ : Nat) (b : Bool) (f : Nat → Int32) (y : Nat), (hr1 : rowB f (40 * a) 40 y) → (ho1 : ∀ i, (∀ k, k < 40 → i ≠ 40 * a + k) → f i = M.2 18 i) → (hxy : subM x y) → (hyc : subM y (cloM M x)) → (hst : b = false → ∀ i, i < M.1 5 → satM M y i) → 2 * muM M y + b2n b < f_ → YY p l e rX7_grows s m args below meth c G B0 4 QQ 2 [(2, .int (bI b)), (0, .ref (bd 0)), (1, .int (nI a))] [] (wM G bd (mI M 18 f) ++ F) 0 0 := by
    intro f_
    induction f_ with
    | zero => intro b f y hr1 ho1 hxy hyc hst hf_; exact absurd hf_ (Nat.not_lt_zero _)
    | succ f_ ih =>
      intro b f y hr1 ho1 hxy hyc hst hf_
      refine yy_iload_n C 0 dX7_grows_2 (pc' := 3) rfl rfl rfl ?_
      refine yb_if_eq C dX7_grows_3 (pc' := 6) rfl (tgt := 106) (by decide) (fun c_3 => ?_) (fun c_3 => ?_)
      · skip
        have hye := gr_end hxy hyc (hst c_3)
        subst hQ
        exact ye_v C hr f dX7_grows_106 rfl (by decide) (by decide) ⟨hye ▸ hr1, ho1⟩
      · skip
        obtain rfl := c_3
        refine yy_iconst C (v := (nI 0)) dX7_grows_6 (pc' := 7) rfl (by decide) ?_
        refine yy_istore_n C (L' := [(2, .int (nI 0)), (0, .ref (bd 0)), (1, .int (nI a))]) dX7_grows_7 (pc' := 8) rfl rfl (by decide) rfl ?_
        refine yy_iconst C (v := (nI 0)) dX7_grows_8 (pc' := 9) rfl (by decide) ?_
        refine yy_istore_n C (L' := [(3, .int (nI 0)), (2, .int (nI 0)), (0, .ref (bd 0)), (1, .int (nI a))]) dX7_grows_9 (pc' := 10) rfl rfl (by decide) rfl ?_
        have lp_10 : ∀ (fi_ : Nat) (j : Nat) (b2 : Bool) (f2 : Nat → Int32) (y2 : Nat), (hj : j ≤ M.1 5) → (hr2 : rowB f2 (40 * a) 40 y2) → (ho2 : ∀ i, (∀ k, k < 40 → i ≠ 40 * a + k) → f2 i = M.2 18 i) → (hxy2 : subM y y2) → (hyc2 : subM y2 (cloM M x)) → (hd : (b2 = false ∧ y2 = y ∧ ∀ i, i < j → satM M y i) ∨ (b2 = true ∧ muM M y2 < muM M y)) → M.1 5 - j < fi_ → YY p l e rX7_grows s m args below meth c G B0 4 QQ 10 [(2, .int (bI b2)), (3, .int (nI j)), (0, .ref (bd 0)), (1, .int (nI a))] [] (wM G bd (mI M 18 f2) ++ F) 0 0 := by
          intro fi_
          induction fi_ with
          | zero => intro j b2 f2 y2 hj hr2 ho2 hxy2 hyc2 hd hfi_; exact absurd hfi_ (Nat.not_lt_zero _)
          | succ fi_ ihi =>
            intro j b2 f2 y2 hj hr2 ho2 hxy2 hyc2 hd hfi_
            refine yy_iload_n C 1 dX7_grows_10 (pc' := 11) rfl rfl rfl ?_
            refine yy_aload_n C 2 dX7_grows_11 (pc' := 12) rfl rfl rfl ?_
            refine yy_get C (v := .int (nI (M.1 5))) fk_X7_128 0 dX7_grows_12 (pc' := 15) rfl rfl rfl ?_
            refine yn_icmp_ge C (by omega) (by omega) dX7_grows_15 (pc' := 18) rfl (tgt := 103) (by decide) (fun c_15 => ?_) (fun c_15 => ?_)
            · skip
              refine yy_goto C (tgt := 2) dX7_grows_103 (by decide) ?_
              refine yy_loc [0, 2, 3] rfl ?_
              exact ih b2 f2 y2 hr2 ho2 (sub_tr hxy hxy2) hyc2 (gr_out hd (by omega)) (gr_me hd hf_)
            · skip
              refine yy_aload_n C 2 dX7_grows_18 (pc' := 19) rfl rfl rfl ?_
              refine yy_get C (v := .ref (bd 19)) fk_X7_69 0 dX7_grows_19 (pc' := 22) rfl rfl rfl ?_
              refine yy_bipush C (v := (nI 40)) dX7_grows_22 (pc' := 24) rfl (by decide) ?_
              refine yy_iload_n C 3 dX7_grows_24 (pc' := 25) rfl rfl rfl ?_
              refine yy_imul C (v := (nI (40 * a))) dX7_grows_25 (pc' := 26) rfl (pk_mul 40 a) ?_
              refine yy_aload_n C 2 dX7_grows_26 (pc' := 27) rfl rfl rfl ?_
              refine yy_get C (v := .ref (bd 10)) fk_X7_41 0 dX7_grows_27 (pc' := 30) rfl rfl rfl ?_
              refine yy_iload_n C 1 dX7_grows_30 (pc' := 31) rfl rfl rfl ?_
              refine yy_iald C 10 dX7_grows_31 (pc' := 32) rfl rfl (by omega) (by decide) ?_
              refine yy_ix ?_
              refine yy_iadd C (v := (nI ((40 * a) + (ix ((M.2 9) j))))) dX7_grows_32 (pc' := 33) rfl (nI_add (40 * a) (ix ((M.2 9) j))) ?_
              refine yy_zald C 19 dX7_grows_33 (pc' := 34) rfl rfl (by have h_ := jJ j (by omega); omega) (by decide) ?_
              refine yy_eqi (hr2 (ix ((M.2 9) j)) (by have h_ := jJ j (by omega); omega)) ?_
              refine yb_if_eq C dX7_grows_34 (pc' := 37) rfl (tgt := 97) (by decide) (fun c_34 => ?_) (fun c_34 => ?_)
              · skip
                refine yy_iinc C (v := (nI (j + 1))) (L' := [(3, .int (nI (j + 1))), (2, .int (bI b2)), (0, .ref (bd 0)), (1, .int (nI a))]) 1 dX7_grows_97 (pc' := 100) rfl rfl (nI_add j 1) (by decide) rfl ?_
                refine yy_goto C (tgt := 10) dX7_grows_100 (by decide) ?_
                refine yy_loc [1, 0, 2, 3] rfl ?_
                exact ihi (j + 1) b2 f2 y2 (by omega) hr2 ho2 hxy2 hyc2 (gr_s hd (by intro h_; simp [jp, jq, jt, c_34] at h_)) (by omega)
              · skip
                refine yy_aload_n C 2 dX7_grows_37 (pc' := 38) rfl rfl rfl ?_
                refine yy_get C (v := .ref (bd 19)) fk_X7_69 0 dX7_grows_38 (pc' := 41) rfl rfl rfl ?_
                refine yy_bipush C (v := (nI 40)) dX7_grows_41 (pc' := 43) rfl (by decide) ?_
                refine yy_iload_n C 3 dX7_grows_43 (pc' := 44) rfl rfl rfl ?_
                refine yy_imul C (v := (nI (40 * a))) dX7_grows_44 (pc' := 45) rfl (pk_mul 40 a) ?_
                refine yy_aload_n C 2 dX7_grows_45 (pc' := 46) rfl rfl rfl ?_
                refine yy_get C (v := .ref (bd 11)) fk_X7_44 0 dX7_grows_46 (pc' := 49) rfl rfl rfl ?_
                refine yy_iload_n C 1 dX7_grows_49 (pc' := 50) rfl rfl rfl ?_
                refine yy_iald C 11 dX7_grows_50 (pc' := 51) rfl rfl (by omega) (by decide) ?_
                refine yy_ix ?_
                refine yy_iadd C (v := (nI ((40 * a) + (ix ((M.2 10) j))))) dX7_grows_51 (pc' := 52) rfl (nI_add (40 * a) (ix ((M.2 10) j))) ?_
                refine yy_zald C 19 dX7_grows_52 (pc' := 53) rfl rfl (by have h_ := jJ j (by omega); omega) (by decide) ?_
                refine yy_eqi (hr2 (ix ((M.2 10) j)) (by have h_ := jJ j (by omega); omega)) ?_
                refine yb_if_eq C dX7_grows_53 (pc' := 56) rfl (tgt := 97) (by decide) (fun c_53 => ?_) (fun c_53 => ?_)
                · skip
                  refine yy_iinc C (v := (nI (j + 1))) (L' := [(3, .int (nI (j + 1))), (2, .int (bI b2)), (0, .ref (bd 0)), (1, .int (nI a))]) 1 dX7_grows_97 (pc' := 100) rfl rfl (nI_add j 1) (by decide) rfl ?_
                  refine yy_goto C (tgt := 10) dX7_grows_100 (by decide) ?_
                  refine yy_loc [1, 0, 2, 3] rfl ?_
                  exact ihi (j + 1) b2 f2 y2 (by omega) hr2 ho2 hxy2 hyc2 (gr_s hd (by intro h_; simp [jp, jq, jt, c_34, c_53] at h_)) (by omega)
                · skip
                  refine yy_aload_n C 2 dX7_grows_56 (pc' := 57) rfl rfl rfl ?_
                  refine yy_get C (v := .ref (bd 19)) fk_X7_69 0 dX7_grows_57 (pc' := 60) rfl rfl rfl ?_
                  refine yy_bipush C (v := (nI 40)) dX7_grows_60 (pc' := 62) rfl (by decide) ?_
                  refine yy_iload_n C 3 dX7_grows_62 (pc' := 63) rfl rfl rfl ?_
                  refine yy_imul C (v := (nI (40 * a))) dX7_grows_63 (pc' := 64) rfl (pk_mul 40 a) ?_
                  refine yy_aload_n C 2 dX7_grows_64 (pc' := 65) rfl rfl rfl ?_
                  refine yy_get C (v := .ref (bd 12)) fk_X7_47 0 dX7_grows_65 (pc' := 68) rfl rfl rfl ?_
                  refine yy_iload_n C 1 dX7_grows_68 (pc' := 69) rfl rfl rfl ?_
                  refine yy_iald C 12 dX7_grows_69 (pc' := 70) rfl rfl (by omega) (by decide) ?_
                  refine yy_ix ?_
                  refine yy_iadd C (v := (nI ((40 * a) + (ix ((M.2 11) j))))) dX7_grows_70 (pc' := 71) rfl (nI_add (40 * a) (ix ((M.2 11) j))) ?_
                  refine yy_zald C 19 dX7_grows_71 (pc' := 72) rfl rfl (by have h_ := jJ j (by omega); omega) (by decide) ?_
                  refine yy_eqi (hr2 (ix ((M.2 11) j)) (by have h_ := jJ j (by omega); omega)) ?_
                  refine yb_if_eq C dX7_grows_72 (pc' := 75) rfl (tgt := 78) (by decide) (fun c_72 => ?_) (fun c_72 => ?_)
                  · skip
                    refine yy_aload_n C 2 dX7_grows_78 (pc' := 79) rfl rfl rfl ?_
                    refine yy_get C (v := .ref (bd 19)) fk_X7_69 0 dX7_grows_79 (pc' := 82) rfl rfl rfl ?_
                    refine yy_bipush C (v := (nI 40)) dX7_grows_82 (pc' := 84) rfl (by decide) ?_
                    refine yy_iload_n C 3 dX7_grows_84 (pc' := 85) rfl rfl rfl ?_
                    refine yy_imul C (v := (nI (40 * a))) dX7_grows_85 (pc' := 86) rfl (pk_mul 40 a) ?_
                    refine yy_aload_n C 2 dX7_grows_86 (pc' := 87) rfl rfl rfl ?_
                    refine yy_get C (v := .ref (bd 12)) fk_X7_47 0 dX7_grows_87 (pc' := 90) rfl rfl rfl ?_
                    refine yy_iload_n C 1 dX7_grows_90 (pc' := 91) rfl rfl rfl ?_
                    refine yy_iald C 12 dX7_grows_91 (pc' := 92) rfl rfl (by omega) (by decide) ?_
                    refine yy_ix ?_
                    refine yy_iadd C (v := (nI ((40 * a) + (ix ((M.2 11) j))))) dX7_grows_92 (pc' := 93) rfl (nI_add (40 * a) (ix ((M.2 11) j))) ?_
                    refine yy_iconst C (v := (nI 1)) dX7_grows_93 (pc' := 94) rfl (by decide) ?_
                    refine yy_zast C (w' := wM G bd (mI M 18 (upd f2 ((40 * a) + (ix ((M.2 11) j))) (nI 1))) ++ F) 19 dX7_grows_94 (pc' := 95) rfl rfl (by have h_ := jJ j (by omega); omega) (by decide) rfl rfl ?_
                    refine yy_iconst C (v := (nI 1)) dX7_grows_95 (pc' := 96) rfl (by decide) ?_
                    refine yy_istore_n C (L' := [(2, .int (nI 1)), (3, .int (nI j)), (0, .ref (bd 0)), (1, .int (nI a))]) dX7_grows_96 (pc' := 97) rfl rfl (by decide) rfl ?_
                    refine yy_iinc C (v := (nI (j + 1))) (L' := [(3, .int (nI (j + 1))), (2, .int (nI 1)), (0, .ref (bd 0)), (1, .int (nI a))]) 1 dX7_grows_97 (pc' := 100) rfl rfl (nI_add j 1) (by decide) rfl ?_
                    refine yy_goto C (tgt := 10) dX7_grows_100 (by decide) ?_
                    refine yy_loc [1, 0, 2, 3] rfl ?_
                    exact ihi (j + 1) true (upd f2 ((40 * a) + (ix ((M.2 11) j))) (nI 1)) (y2 ||| 2 ^ jt M j) (by omega) (row_set hr2 (by have h_ := jJ j (by omega); omega)) (out_set (by have h_ := jJ j (by omega); omega) ho2) (sub_tr hxy2 (sub_or _ _)) (gr_in (by omega) hyc2 c_34 c_53) (Or.inr ⟨rfl, gr_t hd (by omega) c_72⟩) (by omega)
                  · skip
                    refine yy_goto C (tgt := 97) dX7_grows_75 (by decide) ?_
                    refine yy_iinc C (v := (nI (j + 1))) (L' := [(3, .int (nI (j + 1))), (2, .int (bI b2)), (0, .ref (bd 0)), (1, .int (nI a))]) 1 dX7_grows_97 (pc' := 100) rfl rfl (nI_add j 1) (by decide) rfl ?_
                    refine yy_goto C (tgt := 10) dX7_grows_100 (by decide) ?_
                    refine yy_loc [1, 0, 2, 3] rfl ?_
                    exact ihi (j + 1) b2 f2 y2 (by omega) hr2 ho2 hxy2 hyc2 (gr_s hd (by intro h_; simp [jp, jq, jt, c_34, c_53, c_72] at h_)) (by omega)
        refine yy_loc (L' := [(2, .int (nI 0)), (3, .int (nI 0)), (0, .ref (bd 0)), (1, .int (nI a))]) [1, 0, 2, 3] rfl ?_
        exact lp_10 (M.1 5 - 0 + 1) 0 false f y (Nat.zero_le _) hr1 ho1 (sub_rf _) hyc (Or.inl ⟨rfl, rfl, fun i hi => absurd hi (Nat.not_lt_zero i)⟩) (Nat.lt_succ_self _)
  refine yy_loc (L' := [(2, .int (nI 1)), (0, .ref (bd 0)), (1, .int (nI a))]) [0, 1, 2] rfl ?_
  exact lp_2 (2 * muM M x + b2n true + 1) true (M.2 18) x hrow (fun _ _ => rfl) (sub_rf _) (clo_up _ _ _ _ _) (fun h_ => by cases h_) (Nat.lt_succ_self _)

abbrev rX7_betrayed : Room := { frames := 3, cells := 0, slots := 0, locals := 66 }
set_option maxHeartbeats 4000000 in
set_option maxRecDepth 100000 in
theorem mX7_betrayed (l : Launch) (G : gG) (B0 : Nat) (bd : Nat → Nat) (F : va_W) (M : SM) (a k x : Nat) (ha : a < 5) (hk : k < M.1 2) (hrow : rowB (M.2 18) (40 * a) 40 x) (hM : IM M) : Met l yX7_betrayed (Cond.code yX7_betrayed cX7_betrayed 5 (some .int) :: WG) rX7_betrayed (va_Pc [.ref (bd 0), .int (nI a), .int (nI k)] (PR G B0 (wM G bd M ++ F))) (va_Qi (fun (r : Int32) (u : Nat → Int32) => r = betI M x k) (fun (u : Nat → Int32) (t_ : State) => va_P G.1 vwCl (wM G bd (mI M 19 u) ++ F) t_.heap ∧ va_D (fun q => B0 ≤ q) (wM G bd (mI M 19 u) ++ F)) (fun q => B0 ≤ q)) rX7_betrayed.cells rX7_betrayed.slots (fun q => B0 ≤ q) := by
  refine met_of RX7 [(0, .ref (bd 0)), (1, .int (nI a)), (2, .int (nI k))] rfl (by decide) (Nat.le_of_ble_eq_true rfl) rfl ?_
  intro p e s m args below meth c C hr hnm
  refine yq ?_
  intro QQ hQ
  obtain ⟨j1, j2, j3, j4, j5, j6, j7, j8, jJ, jQ⟩ := id hM
  refine yy_iconst C (v := (nI 0)) dX7_betrayed_0 (pc' := 1) rfl (by decide) ?_
  refine yy_istore_n C (L' := [(3, .int (nI 0)), (0, .ref (bd 0)), (1, .int (nI a)), (2, .int (nI k))]) dX7_betrayed_1 (pc' := 2) rfl rfl (by decide) rfl ?_
  have lp_2 : ∀ (f0_ : Nat) (i : Nat) (f0 : Nat → Int32), (hi : i ≤ M.1 2) → (hf0 : rowW f0 i (x ||| 2 ^ k)) → M.1 2 - i < f0_ → YY p l e rX7_betrayed s m args below meth c G B0 5 QQ 2 [(3, .int (nI i)), (0, .ref (bd 0)), (1, .int (nI a)), (2, .int (nI k))] [] (wM G bd (mI M 19 f0) ++ F) 0 0 := by
    intro f0_
    induction f0_ with
    | zero => intro i f0 hi hf0 hf0_; exact absurd hf0_ (Nat.not_lt_zero _)
    | succ f0_ ih0 =>
      intro i f0 hi hf0 hf0_
      refine yy_iload_n C 0 dX7_betrayed_2 (pc' := 3) rfl rfl rfl ?_
      refine yy_aload_n C 1 dX7_betrayed_3 (pc' := 4) rfl rfl rfl ?_
      refine yy_get C (v := .int (nI (M.1 2))) fk_X7_89 0 dX7_betrayed_4 (pc' := 7) rfl rfl rfl ?_
      refine yn_icmp_ge C (by omega) (by omega) dX7_betrayed_7 (pc' := 10) rfl (tgt := 46) (by decide) (fun c_7 => ?_) (fun c_7 => ?_)
      · skip
        obtain rfl : i = M.1 2 := by omega
        obtain ⟨z0, hz0⟩ : ∃ z, z = x ||| 2 ^ k := ⟨_, rfl⟩
        rw [← hz0] at hf0
        have hw0 := hf0
        refine yy_iconst C (v := (nI 1)) dX7_betrayed_46 (pc' := 47) rfl (by decide) ?_
        refine yy_istore_n C (L' := [(3, .int (nI 1)), (0, .ref (bd 0)), (1, .int (nI a)), (2, .int (nI k))]) dX7_betrayed_47 (pc' := 48) rfl rfl (by decide) rfl ?_
        have lp_48 : ∀ (f_ : Nat) (b : Bool) (f : Nat → Int32) (y : Nat), (hr1 : rowW f (M.1 2) y) → (ho1 : True) → (hxy : subM z0 y) → (hyc : subM y (cloM M z0)) → (hst : b = false → ∀ i, i < M.1 5 → satM M y i) → 2 * muM M y + b2n b < f_ → YY p l e rX7_betrayed s m args below meth c G B0 5 QQ 48 [(3, .int (bI b)), (0, .ref (bd 0)), (1, .int (nI a)), (2, .int (nI k))] [] (wM G bd (mI M 19 f) ++ F) 0 0 := by
          intro f_
          induction f_ with
          | zero => intro b f y hr1 ho1 hxy hyc hst hf_; exact absurd hf_ (Nat.not_lt_zero _)
          | succ f_ ih =>
            intro b f y hr1 ho1 hxy hyc hst hf_
            refine yy_iload_n C 0 dX7_betrayed_48 (pc' := 49) rfl rfl rfl ?_
            refine yb_if_eq C dX7_betrayed_49 (pc' := 52) rfl (tgt := 138) (by decide) (fun c_49 => ?_) (fun c_49 => ?_)
            · skip
              have hye := gr_end hxy hyc (hst c_49)
              rw [hz0] at hye
              have hre : rowW f (M.1 2) (cloM M (x ||| 2 ^ k)) := hye ▸ hr1
              refine yy_iconst C (v := (nI 0)) dX7_betrayed_138 (pc' := 139) rfl (by decide) ?_
              refine yy_istore C (L' := [(4, .int (nI 0)), (3, .int (bI b)), (0, .ref (bd 0)), (1, .int (nI a)), (2, .int (nI k))]) dX7_betrayed_139 (pc' := 141) rfl (by decide) rfl ?_
              have lp_141 : ∀ (f3_ : Nat) (n : Nat), (hn : n ≤ M.1 2) → (hn2 : fstB (bpM M x (x ||| 2 ^ k)) n = none) → M.1 2 - n < f3_ → YY p l e rX7_betrayed s m args below meth c G B0 5 QQ 141 [(4, .int (nI n)), (0, .ref (bd 0)), (1, .int (nI a)), (2, .int (nI k))] [] (wM G bd (mI M 19 f) ++ F) 0 0 := by
                intro f3_
                induction f3_ with
                | zero => intro n hn hn2 hf3_; exact absurd hf3_ (Nat.not_lt_zero _)
                | succ f3_ ih3 =>
                  intro n hn hn2 hf3_
                  refine yy_iload C 0 dX7_betrayed_141 (pc' := 143) rfl rfl ?_
                  refine yy_aload_n C 1 dX7_betrayed_143 (pc' := 144) rfl rfl rfl ?_
                  refine yy_get C (v := .int (nI (M.1 2))) fk_X7_89 0 dX7_betrayed_144 (pc' := 147) rfl rfl rfl ?_
                  refine yn_icmp_ge C (by omega) (by omega) dX7_betrayed_147 (pc' := 150) rfl (tgt := 193) (by decide) (fun c_147 => ?_) (fun c_147 => ?_)
                  · skip
                    refine yy_iconst C (v := (-1)) dX7_betrayed_193 (pc' := 194) rfl (by decide) ?_
                    subst hQ
                    exact ye_i C hr (vp_nar_int _) f dX7_betrayed_194 rfl (by decide) (by decide) (fst_n (p := bpM M x (x ||| 2 ^ k)) ((show n = M.1 2 by omega) ▸ hn2)).symm
                  · skip
                    refine yy_aload_n C 1 dX7_betrayed_150 (pc' := 151) rfl rfl rfl ?_
                    refine yy_get C (v := .ref (bd 20)) fk_X7_72 0 dX7_betrayed_151 (pc' := 154) rfl rfl rfl ?_
                    refine yy_iload C 0 dX7_betrayed_154 (pc' := 156) rfl rfl ?_
                    refine yy_zald C 20 dX7_betrayed_156 (pc' := 157) rfl rfl (by omega) (by decide) ?_
                    refine yy_eqi (hre n (by omega)) ?_
                    refine yb_if_eq C dX7_betrayed_157 (pc' := 160) rfl (tgt := 187) (by decide) (fun c_157 => ?_) (fun c_157 => ?_)
                    · skip
                      refine yy_iinc C (v := (nI (n + 1))) (L' := [(4, .int (nI (n + 1))), (0, .ref (bd 0)), (1, .int (nI a)), (2, .int (nI k))]) 0 dX7_betrayed_187 (pc' := 190) rfl rfl (nI_add n 1) (by decide) rfl ?_
                      refine yy_goto C (tgt := 141) dX7_betrayed_190 (by decide) ?_
                      refine yy_loc [0, 1, 2, 3] rfl ?_
                      exact ih3 (n + 1) (by omega) (fst_s hn2 (by simp [bpM, c_157])) (by omega)
                    · skip
                      refine yy_aload_n C 1 dX7_betrayed_160 (pc' := 161) rfl rfl rfl ?_
                      refine yy_get C (v := .ref (bd 19)) fk_X7_69 0 dX7_betrayed_161 (pc' := 164) rfl rfl rfl ?_
                      refine yy_bipush C (v := (nI 40)) dX7_betrayed_164 (pc' := 166) rfl (by decide) ?_
                      refine yy_iload_n C 2 dX7_betrayed_166 (pc' := 167) rfl rfl rfl ?_
                      refine yy_imul C (v := (nI (40 * a))) dX7_betrayed_167 (pc' := 168) rfl (pk_mul 40 a) ?_
                      refine yy_iload C 0 dX7_betrayed_168 (pc' := 170) rfl rfl ?_
                      refine yy_iadd C (v := (nI ((40 * a) + n))) dX7_betrayed_170 (pc' := 171) rfl (nI_add (40 * a) n) ?_
                      refine yy_zald C 19 dX7_betrayed_171 (pc' := 172) rfl rfl (by omega) (by decide) ?_
                      refine yy_eqi (hrow n (by omega)) ?_
                      refine yb_if_ne C dX7_betrayed_172 (pc' := 175) rfl (tgt := 187) (by decide) (fun c_172 => ?_) (fun c_172 => ?_)
                      · skip
                        refine yy_iinc C (v := (nI (n + 1))) (L' := [(4, .int (nI (n + 1))), (0, .ref (bd 0)), (1, .int (nI a)), (2, .int (nI k))]) 0 dX7_betrayed_187 (pc' := 190) rfl rfl (nI_add n 1) (by decide) rfl ?_
                        refine yy_goto C (tgt := 141) dX7_betrayed_190 (by decide) ?_
                        refine yy_loc [0, 1, 2, 3] rfl ?_
                        exact ih3 (n + 1) (by omega) (fst_s hn2 (by simp [bpM, c_157, c_172])) (by omega)
                      · skip
                        refine yy_aload_n C 1 dX7_betrayed_175 (pc' := 176) rfl rfl rfl ?_
                        refine yy_iload C 0 dX7_betrayed_176 (pc' := 178) rfl rfl ?_
                        refine yc_i (yr_V C (As := [.int (nI n)]) (rest := []) lk_X7_121 cd_X7_hides im_X7_hides se_X7_hides (mX7_hides l G B0 bd F (mI M 19 f) n (by omega) (by exact hM)) ⟨by decide, by decide⟩ ⟨by decide, by decide⟩ 0 rfl rfl rfl rfl (Nat.le_of_ble_eq_true rfl) dX7_betrayed_178) (pc' := 181) rfl (fun r1 _ hw1 => ?_)
                        subst hw1
                        refine yy_eqi (show _ = bI (hidM M n) from rfl) ?_
                        refine yb_if_eq C dX7_betrayed_181 (pc' := 184) rfl (tgt := 187) (by decide) (fun c_181 => ?_) (fun c_181 => ?_)
                        · skip
                          refine yy_iinc C (v := (nI (n + 1))) (L' := [(4, .int (nI (n + 1))), (0, .ref (bd 0)), (1, .int (nI a)), (2, .int (nI k))]) 0 dX7_betrayed_187 (pc' := 190) rfl rfl (nI_add n 1) (by decide) rfl ?_
                          refine yy_goto C (tgt := 141) dX7_betrayed_190 (by decide) ?_
                          refine yy_loc [0, 1, 2, 3] rfl ?_
                          exact ih3 (n + 1) (by omega) (fst_s hn2 (by simp [bpM, c_157, c_172, c_181])) (by omega)
                        · skip
                          refine yy_iload C 0 dX7_betrayed_184 (pc' := 186) rfl rfl ?_
                          subst hQ
                          exact ye_i C hr (vp_nar_int _) f dX7_betrayed_186 rfl (by decide) (by decide) (fst_t (p := bpM M x (x ||| 2 ^ k)) hn2 (by omega) (by simp [bpM, c_157, c_172, c_181])).symm
              refine yy_loc (L' := [(4, .int (nI 0)), (0, .ref (bd 0)), (1, .int (nI a)), (2, .int (nI k))]) [0, 2, 3, 4] rfl ?_
              exact lp_141 (M.1 2 - 0 + 1) 0 (Nat.zero_le _) rfl (Nat.lt_succ_self _)
            · skip
              obtain rfl := c_49
              refine yy_iconst C (v := (nI 0)) dX7_betrayed_52 (pc' := 53) rfl (by decide) ?_
              refine yy_istore_n C (L' := [(3, .int (nI 0)), (0, .ref (bd 0)), (1, .int (nI a)), (2, .int (nI k))]) dX7_betrayed_53 (pc' := 54) rfl rfl (by decide) rfl ?_
              refine yy_iconst C (v := (nI 0)) dX7_betrayed_54 (pc' := 55) rfl (by decide) ?_
              refine yy_istore C (L' := [(4, .int (nI 0)), (3, .int (nI 0)), (0, .ref (bd 0)), (1, .int (nI a)), (2, .int (nI k))]) dX7_betrayed_55 (pc' := 57) rfl (by decide) rfl ?_
              have lp_57 : ∀ (fi_ : Nat) (j : Nat) (b2 : Bool) (f2 : Nat → Int32) (y2 : Nat), (hj : j ≤ M.1 5) → (hr2 : rowW f2 (M.1 2) y2) → (ho2 : True) → (hxy2 : subM y y2) → (hyc2 : subM y2 (cloM M z0)) → (hd : (b2 = false ∧ y2 = y ∧ ∀ i, i < j → satM M y i) ∨ (b2 = true ∧ muM M y2 < muM M y)) → M.1 5 - j < fi_ → YY p l e rX7_betrayed s m args below meth c G B0 5 QQ 57 [(3, .int (bI b2)), (4, .int (nI j)), (0, .ref (bd 0)), (1, .int (nI a)), (2, .int (nI k))] [] (wM G bd (mI M 19 f2) ++ F) 0 0 := by
                intro fi_
                induction fi_ with
                | zero => intro j b2 f2 y2 hj hr2 ho2 hxy2 hyc2 hd hfi_; exact absurd hfi_ (Nat.not_lt_zero _)
                | succ fi_ ihi =>
                  intro j b2 f2 y2 hj hr2 ho2 hxy2 hyc2 hd hfi_
                  refine yy_iload C 1 dX7_betrayed_57 (pc' := 59) rfl rfl ?_
                  refine yy_aload_n C 2 dX7_betrayed_59 (pc' := 60) rfl rfl rfl ?_
                  refine yy_get C (v := .int (nI (M.1 5))) fk_X7_128 0 dX7_betrayed_60 (pc' := 63) rfl rfl rfl ?_
                  refine yn_icmp_ge C (by omega) (by omega) dX7_betrayed_63 (pc' := 66) rfl (tgt := 135) (by decide) (fun c_63 => ?_) (fun c_63 => ?_)
                  · skip
                    refine yy_goto C (tgt := 48) dX7_betrayed_135 (by decide) ?_
                    refine yy_loc [0, 2, 3, 4] rfl ?_
                    exact ih b2 f2 y2 hr2 ho2 (sub_tr hxy hxy2) hyc2 (gr_out hd (by omega)) (gr_me hd hf_)
                  · skip
                    refine yy_aload_n C 2 dX7_betrayed_66 (pc' := 67) rfl rfl rfl ?_
                    refine yy_get C (v := .ref (bd 20)) fk_X7_72 0 dX7_betrayed_67 (pc' := 70) rfl rfl rfl ?_
                    refine yy_aload_n C 2 dX7_betrayed_70 (pc' := 71) rfl rfl rfl ?_
                    refine yy_get C (v := .ref (bd 10)) fk_X7_41 0 dX7_betrayed_71 (pc' := 74) rfl rfl rfl ?_
                    refine yy_iload C 1 dX7_betrayed_74 (pc' := 76) rfl rfl ?_
                    refine yy_iald C 10 dX7_betrayed_76 (pc' := 77) rfl rfl (by omega) (by decide) ?_
                    refine yy_ix ?_
                    refine yy_zald C 20 dX7_betrayed_77 (pc' := 78) rfl rfl (show ix (M.2 9 j) < 40 from by have h_ := jJ j (by omega); omega) (by decide) ?_
                    refine yy_eqi (hr2 (ix ((M.2 9) j)) (by have h_ := jJ j (by omega); omega)) ?_
                    refine yb_if_eq C dX7_betrayed_78 (pc' := 81) rfl (tgt := 129) (by decide) (fun c_78 => ?_) (fun c_78 => ?_)
                    · skip
                      refine yy_iinc C (v := (nI (j + 1))) (L' := [(4, .int (nI (j + 1))), (3, .int (bI b2)), (0, .ref (bd 0)), (1, .int (nI a)), (2, .int (nI k))]) 1 dX7_betrayed_129 (pc' := 132) rfl rfl (nI_add j 1) (by decide) rfl ?_
                      refine yy_goto C (tgt := 57) dX7_betrayed_132 (by decide) ?_
                      refine yy_loc [1, 0, 2, 3, 4] rfl ?_
                      exact ihi (j + 1) b2 f2 y2 (by omega) hr2 ho2 hxy2 hyc2 (gr_s hd (by intro h_; simp [jp, jq, jt, c_78] at h_)) (by omega)
                    · skip
                      refine yy_aload_n C 2 dX7_betrayed_81 (pc' := 82) rfl rfl rfl ?_
                      refine yy_get C (v := .ref (bd 20)) fk_X7_72 0 dX7_betrayed_82 (pc' := 85) rfl rfl rfl ?_
                      refine yy_aload_n C 2 dX7_betrayed_85 (pc' := 86) rfl rfl rfl ?_
                      refine yy_get C (v := .ref (bd 11)) fk_X7_44 0 dX7_betrayed_86 (pc' := 89) rfl rfl rfl ?_
                      refine yy_iload C 1 dX7_betrayed_89 (pc' := 91) rfl rfl ?_
                      refine yy_iald C 11 dX7_betrayed_91 (pc' := 92) rfl rfl (by omega) (by decide) ?_
                      refine yy_ix ?_
                      refine yy_zald C 20 dX7_betrayed_92 (pc' := 93) rfl rfl (show ix (M.2 10 j) < 40 from by have h_ := jJ j (by omega); omega) (by decide) ?_
                      refine yy_eqi (hr2 (ix ((M.2 10) j)) (by have h_ := jJ j (by omega); omega)) ?_
                      refine yb_if_eq C dX7_betrayed_93 (pc' := 96) rfl (tgt := 129) (by decide) (fun c_93 => ?_) (fun c_93 => ?_)
                      · skip
                        refine yy_iinc C (v := (nI (j + 1))) (L' := [(4, .int (nI (j + 1))), (3, .int (bI b2)), (0, .ref (bd 0)), (1, .int (nI a)), (2, .int (nI k))]) 1 dX7_betrayed_129 (pc' := 132) rfl rfl (nI_add j 1) (by decide) rfl ?_
                        refine yy_goto C (tgt := 57) dX7_betrayed_132 (by decide) ?_
                        refine yy_loc [1, 0, 2, 3, 4] rfl ?_
                        exact ihi (j + 1) b2 f2 y2 (by omega) hr2 ho2 hxy2 hyc2 (gr_s hd (by intro h_; simp [jp, jq, jt, c_78, c_93] at h_)) (by omega)
                      · skip
                        refine yy_aload_n C 2 dX7_betrayed_96 (pc' := 97) rfl rfl rfl ?_
                        refine yy_get C (v := .ref (bd 20)) fk_X7_72 0 dX7_betrayed_97 (pc' := 100) rfl rfl rfl ?_
                        refine yy_aload_n C 2 dX7_betrayed_100 (pc' := 101) rfl rfl rfl ?_
                        refine yy_get C (v := .ref (bd 12)) fk_X7_47 0 dX7_betrayed_101 (pc' := 104) rfl rfl rfl ?_
                        refine yy_iload C 1 dX7_betrayed_104 (pc' := 106) rfl rfl ?_
                        refine yy_iald C 12 dX7_betrayed_106 (pc' := 107) rfl rfl (by omega) (by decide) ?_
                        refine yy_ix ?_
                        refine yy_zald C 20 dX7_betrayed_107 (pc' := 108) rfl rfl (show ix (M.2 11 j) < 40 from by have h_ := jJ j (by omega); omega) (by decide) ?_
                        refine yy_eqi (hr2 (ix ((M.2 11) j)) (by have h_ := jJ j (by omega); omega)) ?_
                        refine yb_if_eq C dX7_betrayed_108 (pc' := 111) rfl (tgt := 114) (by decide) (fun c_108 => ?_) (fun c_108 => ?_)
                        · skip
                          refine yy_aload_n C 2 dX7_betrayed_114 (pc' := 115) rfl rfl rfl ?_
                          refine yy_get C (v := .ref (bd 20)) fk_X7_72 0 dX7_betrayed_115 (pc' := 118) rfl rfl rfl ?_
                          refine yy_aload_n C 2 dX7_betrayed_118 (pc' := 119) rfl rfl rfl ?_
                          refine yy_get C (v := .ref (bd 12)) fk_X7_47 0 dX7_betrayed_119 (pc' := 122) rfl rfl rfl ?_
                          refine yy_iload C 1 dX7_betrayed_122 (pc' := 124) rfl rfl ?_
                          refine yy_iald C 12 dX7_betrayed_124 (pc' := 125) rfl rfl (by omega) (by decide) ?_
                          refine yy_ix ?_
                          refine yy_iconst C (v := (nI 1)) dX7_betrayed_125 (pc' := 126) rfl (by decide) ?_
                          refine yy_zast C (w' := wM G bd (mI M 19 (upd f2 (ix ((M.2 11) j)) (nI 1))) ++ F) 20 dX7_betrayed_126 (pc' := 127) rfl rfl (show ix (M.2 11 j) < 40 from by have h_ := jJ j (by omega); omega) (by decide) rfl rfl ?_
                          refine yy_iconst C (v := (nI 1)) dX7_betrayed_127 (pc' := 128) rfl (by decide) ?_
                          refine yy_istore_n C (L' := [(3, .int (nI 1)), (4, .int (nI j)), (0, .ref (bd 0)), (1, .int (nI a)), (2, .int (nI k))]) dX7_betrayed_128 (pc' := 129) rfl rfl (by decide) rfl ?_
                          refine yy_iinc C (v := (nI (j + 1))) (L' := [(4, .int (nI (j + 1))), (3, .int (nI 1)), (0, .ref (bd 0)), (1, .int (nI a)), (2, .int (nI k))]) 1 dX7_betrayed_129 (pc' := 132) rfl rfl (nI_add j 1) (by decide) rfl ?_
                          refine yy_goto C (tgt := 57) dX7_betrayed_132 (by decide) ?_
                          refine yy_loc [1, 0, 2, 3, 4] rfl ?_
                          exact ihi (j + 1) true (upd f2 (ix ((M.2 11) j)) (nI 1)) (y2 ||| 2 ^ jt M j) (by omega) (rowW_set hr2) trivial (sub_tr hxy2 (sub_or _ _)) (gr_in (by omega) hyc2 c_78 c_93) (Or.inr ⟨rfl, gr_t hd (by omega) c_108⟩) (by omega)
                        · skip
                          refine yy_goto C (tgt := 129) dX7_betrayed_111 (by decide) ?_
                          refine yy_iinc C (v := (nI (j + 1))) (L' := [(4, .int (nI (j + 1))), (3, .int (bI b2)), (0, .ref (bd 0)), (1, .int (nI a)), (2, .int (nI k))]) 1 dX7_betrayed_129 (pc' := 132) rfl rfl (nI_add j 1) (by decide) rfl ?_
                          refine yy_goto C (tgt := 57) dX7_betrayed_132 (by decide) ?_
                          refine yy_loc [1, 0, 2, 3, 4] rfl ?_
                          exact ihi (j + 1) b2 f2 y2 (by omega) hr2 ho2 hxy2 hyc2 (gr_s hd (by intro h_; simp [jp, jq, jt, c_78, c_93, c_108] at h_)) (by omega)
              refine yy_loc (L' := [(3, .int (nI 0)), (4, .int (nI 0)), (0, .ref (bd 0)), (1, .int (nI a)), (2, .int (nI k))]) [1, 0, 2, 3, 4] rfl ?_
              exact lp_57 (M.1 5 - 0 + 1) 0 false f y (Nat.zero_le _) hr1 ho1 (sub_rf _) hyc (Or.inl ⟨rfl, rfl, fun i hi => absurd hi (Nat.not_lt_zero i)⟩) (Nat.lt_succ_self _)
        refine yy_loc (L' := [(3, .int (nI 1)), (0, .ref (bd 0)), (1, .int (nI a)), (2, .int (nI k))]) [0, 1, 2, 3] rfl ?_
        exact lp_48 (2 * muM M z0 + b2n true + 1) true f0 z0 hw0 trivial (sub_rf _) (clo_up _ _ _ _ _) (fun h_ => by cases h_) (Nat.lt_succ_self _)
      · skip
        refine yy_aload_n C 1 dX7_betrayed_10 (pc' := 11) rfl rfl rfl ?_
        refine yy_get C (v := .ref (bd 20)) fk_X7_72 0 dX7_betrayed_11 (pc' := 14) rfl rfl rfl ?_
        refine yy_iload_n C 0 dX7_betrayed_14 (pc' := 15) rfl rfl rfl ?_
        refine yy_iload_n C 0 dX7_betrayed_15 (pc' := 16) rfl rfl rfl ?_
        refine yy_iload_n C 3 dX7_betrayed_16 (pc' := 17) rfl rfl rfl ?_
        refine yn_icmp_eq C (by omega) (by omega) dX7_betrayed_17 (pc' := 20) rfl (tgt := 34) (by decide) (fun c_17 => ?_) (fun c_17 => ?_)
        · skip
          refine yy_iconst C (v := (nI 1)) dX7_betrayed_34 (pc' := 35) rfl (by decide) ?_
          refine yy_goto C (tgt := 39) dX7_betrayed_35 (by decide) ?_
          refine yy_zast C (w' := wM G bd (mI M 19 (upd f0 i (nI 1))) ++ F) 20 dX7_betrayed_39 (pc' := 40) rfl rfl (by omega) (by decide) rfl rfl ?_
          refine yy_iinc C (v := (nI (i + 1))) (L' := [(3, .int (nI (i + 1))), (0, .ref (bd 0)), (1, .int (nI a)), (2, .int (nI k))]) 0 dX7_betrayed_40 (pc' := 43) rfl rfl (nI_add i 1) (by decide) rfl ?_
          refine yy_goto C (tgt := 2) dX7_betrayed_43 (by decide) ?_
          refine yy_loc [0, 1, 2, 3] rfl ?_
          exact ih0 (i + 1) (upd f0 i (nI 1)) (by omega) (fill_t hf0 (by rw [c_17]; exact or_self_t)) (by omega)
        · skip
          refine yy_aload_n C 1 dX7_betrayed_20 (pc' := 21) rfl rfl rfl ?_
          refine yy_get C (v := .ref (bd 19)) fk_X7_69 0 dX7_betrayed_21 (pc' := 24) rfl rfl rfl ?_
          refine yy_bipush C (v := (nI 40)) dX7_betrayed_24 (pc' := 26) rfl (by decide) ?_
          refine yy_iload_n C 2 dX7_betrayed_26 (pc' := 27) rfl rfl rfl ?_
          refine yy_imul C (v := (nI (40 * a))) dX7_betrayed_27 (pc' := 28) rfl (pk_mul 40 a) ?_
          refine yy_iload_n C 0 dX7_betrayed_28 (pc' := 29) rfl rfl rfl ?_
          refine yy_iadd C (v := (nI ((40 * a) + i))) dX7_betrayed_29 (pc' := 30) rfl (nI_add (40 * a) i) ?_
          refine yy_zald C 19 dX7_betrayed_30 (pc' := 31) rfl rfl (by omega) (by decide) ?_
          refine yy_eqi (hrow i (by omega)) ?_
          refine yb_if_eq C dX7_betrayed_31 (pc' := 34) rfl (tgt := 38) (by decide) (fun c_31 => ?_) (fun c_31 => ?_)
          · skip
            refine yy_iconst C (v := (nI 0)) dX7_betrayed_38 (pc' := 39) rfl (by decide) ?_
            refine yy_zast C (w' := wM G bd (mI M 19 (upd f0 i (nI 0))) ++ F) 20 dX7_betrayed_39 (pc' := 40) rfl rfl (by omega) (by decide) rfl rfl ?_
            refine yy_iinc C (v := (nI (i + 1))) (L' := [(3, .int (nI (i + 1))), (0, .ref (bd 0)), (1, .int (nI a)), (2, .int (nI k))]) 0 dX7_betrayed_40 (pc' := 43) rfl rfl (nI_add i 1) (by decide) rfl ?_
            refine yy_goto C (tgt := 2) dX7_betrayed_43 (by decide) ?_
            refine yy_loc [0, 1, 2, 3] rfl ?_
            exact ih0 (i + 1) (upd f0 i (nI 0)) (by omega) (fill_f hf0 (by rw [or_bit, c_31]; rw [decide_eq_false (fun h_ : k = i => c_17 h_.symm)]; rfl)) (by omega)
          · skip
            refine yy_iconst C (v := (nI 1)) dX7_betrayed_34 (pc' := 35) rfl (by decide) ?_
            refine yy_goto C (tgt := 39) dX7_betrayed_35 (by decide) ?_
            refine yy_zast C (w' := wM G bd (mI M 19 (upd f0 i (nI 1))) ++ F) 20 dX7_betrayed_39 (pc' := 40) rfl rfl (by omega) (by decide) rfl rfl ?_
            refine yy_iinc C (v := (nI (i + 1))) (L' := [(3, .int (nI (i + 1))), (0, .ref (bd 0)), (1, .int (nI a)), (2, .int (nI k))]) 0 dX7_betrayed_40 (pc' := 43) rfl rfl (nI_add i 1) (by decide) rfl ?_
            refine yy_goto C (tgt := 2) dX7_betrayed_43 (by decide) ?_
            refine yy_loc [0, 1, 2, 3] rfl ?_
            exact ih0 (i + 1) (upd f0 i (nI 1)) (by omega) (fill_t hf0 (by rw [or_bit, c_31]; rfl)) (by omega)
  refine yy_loc (L' := [(3, .int (nI 0)), (0, .ref (bd 0)), (1, .int (nI a)), (2, .int (nI k))]) [0, 1, 2, 3] rfl ?_
  exact lp_2 (M.1 2 - 0 + 1) 0 (M.2 19) (Nat.zero_le _) (fun q hq => absurd hq (Nat.not_lt_zero q)) (Nat.lt_succ_self _)
