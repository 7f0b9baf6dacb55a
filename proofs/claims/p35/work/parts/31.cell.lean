def PX (G : gG) (B0 : Nat) (w : va_W) (b L0 : Nat) (xs : Nat → Int32) (U : State) : Prop := PR G B0 w U ∧ va_X b L0 xs U U.heap ∧ b < U.heap.size
theorem PX.blind {G : gG} {B0 : Nat} {w : va_W} {b L0 : Nat} {xs : Nat → Int32} {av : List Value} : FrameBlind (va_Pc av (PX G B0 w b L0 xs)) := fun a U g mk h => by
  obtain ⟨h1, h2, h3, h4⟩ := h
  have h5 := PR.blind (G := G) (B0 := B0) (w := w) (av := av) a U g mk ⟨h1, h2⟩
  exact ⟨h1, h5.2, va_X.moved (u := U) (U := U.calling g mk a) (Vm.Alike.refl U.vm) h3, h4⟩
theorem metX_of {l : Launch} {y : MethodName} {cc : ByteArray} {maxL : Nat} {ret : Option FieldType} {rm : Room} {av : List Value} {G : gG} {B0 : Nat} {w : va_W} {b L0 : Nat} {xs : Nat → Int32} {Qc : Array Value → State → Outcome → State → Prop} (own : String) (L : List (Nat × Value)) (hown : y.cls = own) (hy : plainName y.cls = true) (hLl : (lg_sl av).length ≤ maxL) (hL : lv_args 0 av = L)
    (body : ∀ (p : Program) (e : Env) (s : State) (m : MethodId) (args : Array Value) (below : List Frame) (meth : Method) (c : Code), CX p s m args meth c cc own maxL G B0 → meth.sig.returnType = ret → va_X b L0 xs s s.heap → b < s.heap.size → YY p l e rm s m args below meth c G B0 maxL (MQ below Qc args s rm.cells rm.slots (fun q => B0 ≤ q)) 0 L [] w 0 0) : Met l y (Cond.code y cc maxL ret :: WG) rm (va_Pc av (PX G B0 w b L0 xs)) Qc rm.cells rm.slots (fun q => B0 ≤ q) := by
  refine Met.ofW (cc := cc) (maxL := maxL) (ret := ret) hy rfl ?_
  intro p e s m args below meth c s₁ B hml hv
  obtain ⟨rfl, ⟨h1, h2, h3, h4, h5⟩, h6, h7⟩ := hv
  have hts := atoms_spec (ws := Cond.code y cc maxL ret :: WG) B.pre
  have hl := lv_entry av (n := maxL) hLl
  rw [lg_entry_eq]
  subst hown; subst hL
  exact body p e s m _ below meth c ⟨B.exec, B.bytes, hml, findClass_of_methodNamed B.named, fun w hw => hts w (List.mem_cons_of_mem _ hw), h3, h5, h1, B.notSynchronized⟩ B.returns h6 h7 s.heap [] _ hl h2 h4 va_S.rf
section YX2
variable {p : Program} {l : Launch} {e : Env} {R : Room} {s : State} {m : MethodId} {args : Array Value} {below : List Frame} {meth : Method} {c : Code} {cc : ByteArray} {own : String} {nL : Nat} {G : gG} {B0 : Nat} {Q : State → Prop} {pc pc' : Nat} {L L' : List (Nat × Value)} {st rest : List Value} {w w' : va_W} {cs ss : Nat}
theorem yr_SX (C : CX p s m args meth c cc own nL G B0) {bb L0 : Nat} {xs : Nat → Int32} (hX : va_X bb L0 xs s s.heap) (hbl : bb < s.heap.size) (hbB : bb < B0) {y : MethodName} {bytes : ByteArray} {maxL index n : Nat} {ret : Option FieldType} {rm : Room} {Qc : Array Value → State → Outcome → State → Prop} {As : List Value} (lk : lkP own index y n) (cd : Cond.code y bytes maxL ret ∈ WG) (hsta : Cond.static y ∈ WG) (hM : Met l y (Cond.code y bytes maxL ret :: WG) rm (va_Pc (As) (PX G B0 w bb L0 xs)) Qc rm.cells rm.slots (fun q => B0 ≤ q)) (hR : rm.frames + 1 ≤ R.frames ∧ 8 + (maxL + 11) + rm.locals ≤ R.locals) (hf : cs + rm.cells ≤ R.cells ∧ ss + rm.slots ≤ R.slots) (hlen : As.length = n) (hst : st = As.reverse ++ rest) (hcat : (rest.map fun v => v.category).sum ≤ 8) (hd : decode cc pc = .ok (.invokestatic index, 3)) : ∀ (H : Heap) (locs : List Loc) (ls : Array Slot), lv_has ls nL L → va_P G.1 vwCl w H → va_D (fun q => B0 ≤ q) w → va_S (fun q => B0 ≤ q) s.heap H locs → va_Run p l e R s m args below meth c H locs cs ss rm.cells rm.slots (F0 m pc ls st) rest (Qc As.toArray) (fun q => B0 ≤ q) := by
  intro H locs ls hl hP hD hS
  have hpre : PreS s H (va_Pc As (PX G B0 w bb L0 xs)) As := ⟨PX.blind, fun U hU hW => ⟨rfl, pr_of C.2.2.2.2.2.2.2.1 C.2.2.2.2.2.1 C.2.2.2.2.2.2.1 hP hD hS hU hW, va_X.moved hW.alike (by rw [hU]; exact va_X.kept hX (hS.2.1 bb hbl (Nat.not_le.mpr hbB))), by rw [hU]; exact Nat.lt_of_lt_of_le hbl hS.1⟩⟩
  exact va_runS ⟨C.1, C.2.1, C.2.2.1, C.2.2.2.1, C.2.2.2.2.1⟩ hM ⟨okB C lk cd hR, C.2.2.2.2.1 _ hsta⟩ hpre rfl hlen hl.1 hst (lv_room hcat) hd hf
end YX2
theorem cell_and {k : Nat} (h : k < 65536) : nI k &&& nI 65535 = nI k := by
  rw [← nI_ix (nI k &&& nI 65535)]
  refine congrArg nI ?_
  have h1 : ix (nI k &&& nI 65535) = ix (nI k) &&& 65535 := rfl
  rw [h1, ix_nI (by omega), show 65535 = 2 ^ 16 - 1 from rfl, Nat.and_two_pow_sub_one_eq_mod]
  exact Nat.mod_eq_of_lt h
def and8 (x : Int32) : Int32 := x &&& nI 255
theorem and8_lt (x : Int32) : ∃ m, m < 256 ∧ and8 x = nI m := by
  refine ⟨(x &&& nI 255).toBitVec.toNat, ?_, ?_⟩
  · have h : (x &&& nI 255).toBitVec.toNat = x.toBitVec.toNat &&& 255 := rfl
    rw [h]
    exact Nat.lt_succ_of_le Nat.and_le_right
  · exact (nI_ix _).symm
theorem p4 {α : Type} (A B : List α) (x y z t : α) : (A ++ (x :: y :: z :: t :: B)).Perm (x :: y :: z :: t :: (A ++ B)) :=
  List.perm_middle.trans (List.Perm.cons x (List.perm_middle.trans (List.Perm.cons y (List.perm_middle.trans (List.Perm.cons z List.perm_middle)))))
theorem def_X7 : ∀ j, j < 1 → defaultValue (tyX7 j) = vp_V [.int (nI 0)] j := by
  intro j hj
  iterate 1 (rcases j with _ | j; · rfl)
  omega
abbrev rJ9_maxI : Room := { frames := 0, cells := 0, slots := 0, locals := 0 }
set_option maxHeartbeats 4000000 in
set_option maxRecDepth 100000 in
theorem mJ9_maxI (l : Launch) (G : gG) (B0 : Nat) (w : va_W) (v : Int32) (k : Nat) (h : v = nI k ∨ (v = (-1) ∧ k = 0)) (hk : k < 2 ^ 31) : Met l yJ9_max_7cf53 (Cond.code yJ9_max_7cf53 cJ9_max_7cf53 2 (some .int) :: WG) rJ9_maxI (va_Pc [.int (nI 0), .int v] (PR G B0 (w))) (va_Qi (fun (r : Int32) (_ : Unit) => r = nI k) (fun (_ : Unit) (t_ : State) => va_P G.1 vwCl (w) t_.heap ∧ va_D (fun q => B0 ≤ q) (w)) (fun q => B0 ≤ q)) rJ9_maxI.cells rJ9_maxI.slots (fun q => B0 ≤ q) := by
  refine metF_of RJ9 [(0, .int (nI 0)), (1, .int v)] rfl (by decide +kernel) (Nat.le_of_ble_eq_true rfl) rfl ?_
  intro p e s m args below meth c C hr hnm
  refine yq ?_
  intro QQ hQ
  rcases h with rfl | ⟨rfl, rfl⟩
  · skip
    refine yy_iload_n C 0 dJ9_max_7cf53_0 (pc' := 1) rfl rfl rfl ?_
    refine yy_iload_n C 1 dJ9_max_7cf53_1 (pc' := 2) rfl rfl rfl ?_
    refine yn_icmp_lt C (by decide) (by omega) dJ9_max_7cf53_2 (pc' := 5) rfl (tgt := 9) (by decide) (fun c_2 => ?_) (fun c_2 => ?_)
    · skip
      refine yy_iload_n C 1 dJ9_max_7cf53_9 (pc' := 10) rfl rfl rfl ?_
      subst hQ
      exact ye_i C hr (vp_nar_int _) () dJ9_max_7cf53_10 rfl (by decide) (by decide) rfl
    · skip
      refine yy_iload_n C 0 dJ9_max_7cf53_5 (pc' := 6) rfl rfl rfl ?_
      refine yy_goto C (tgt := 10) dJ9_max_7cf53_6 (by decide) ?_
      subst hQ
      exact ye_i C hr (vp_nar_int _) () dJ9_max_7cf53_10 rfl (by decide) (by decide) (congrArg nI (by omega))
  · skip
    refine yy_iload_n C 0 dJ9_max_7cf53_0 (pc' := 1) rfl rfl rfl ?_
    refine yy_iload_n C 1 dJ9_max_7cf53_1 (pc' := 2) rfl rfl rfl ?_
    refine yy_icmp_lt C dJ9_max_7cf53_2 (pc' := 5) rfl (tgt := 9) (by decide) (fun c_2 => ?_) (fun c_2 => ?_)
    · skip
      exact absurd c_2 (by decide)
    · skip
      refine yy_iload_n C 0 dJ9_max_7cf53_5 (pc' := 6) rfl rfl rfl ?_
      refine yy_goto C (tgt := 10) dJ9_max_7cf53_6 (by decide) ?_
      subst hQ
      exact ye_i C hr (vp_nar_int _) () dJ9_max_7cf53_10 rfl (by decide) (by decide) rfl

abbrev rL_cell : Room := { frames := 0, cells := 0, slots := 0, locals := 0 }
set_option maxHeartbeats 4000000 in
set_option maxRecDepth 100000 in
theorem mL_cell (l : Launch) (G : gG) (B0 : Nat) (w : va_W) (b L0 k : Nat) (xs : Nat → Int32) (hbB : b < B0) (hL31 : L0 < 2 ^ 31) (hk : k < 65536) : Met l yL_cell (Cond.code yL_cell cL_cell 2 (some .int) :: WG) rL_cell (va_Pc [.ref (b), .int (nI k)] (PX G B0 (w) b L0 xs)) (va_Qi (fun (r : Int32) (_ : Unit) => True) (fun (_ : Unit) (t_ : State) => va_P G.1 vwCl (w) t_.heap ∧ va_D (fun q => B0 ≤ q) (w)) (fun q => B0 ≤ q)) rL_cell.cells rL_cell.slots (fun q => B0 ≤ q) := by
  refine metX_of RL [(0, .ref (b)), (1, .int (nI k))] rfl (by decide) (Nat.le_of_ble_eq_true rfl) rfl ?_
  intro p e s m args below meth c C hr hX hbl
  refine yq ?_
  intro QQ hQ
  refine yy_aload_n C 0 dL_cell_0 (pc' := 1) rfl rfl rfl ?_
  refine yy_slen C hX hbl hbB dL_cell_1 (pc' := 2) rfl ?_
  refine yy_if_ne C dL_cell_2 (pc' := 5) rfl (tgt := 15) (by decide) (fun c_2 => ?_) (fun c_2 => ?_)
  · skip
    have hL0 : 0 < L0 := Nat.pos_of_ne_zero (fun z => c_2 (by rw [z]; rfl))
    refine yy_aload_n C 0 dL_cell_15 (pc' := 16) rfl rfl rfl ?_
    refine yy_iload_n C 1 dL_cell_16 (pc' := 17) rfl rfl rfl ?_
    refine yy_ldci C (v := (nI 65535)) dL_cell_17 (pc' := 19) rfl li_L_7 ?_
    refine yy_iand C (v := (nI k)) dL_cell_19 (pc' := 20) rfl (cell_and hk) ?_
    refine yy_aload_n C 0 dL_cell_20 (pc' := 21) rfl rfl rfl ?_
    refine yy_slen C hX hbl hbB dL_cell_21 (pc' := 22) rfl ?_
    refine yy_irem C (v := (nI (k % L0))) dL_cell_22 (pc' := 23) rfl (fun z => absurd ((nI_eq (by omega) (by decide)).mp (z.trans nI_0.symm)) (by omega)) (pk_rem (by omega) (by omega) (by omega)) ?_
    refine yy_sld C hX hbl hbB (Nat.mod_lt _ (by omega)) hL31 dL_cell_23 (pc' := 24) rfl ?_
    subst hQ
    exact ye_i C hr (vp_nar_int _) () dL_cell_24 rfl (by decide) (by decide) trivial
  · skip
    refine yy_bipush C (v := (nI 71)) dL_cell_5 (pc' := 7) rfl (by decide) ?_
    refine yy_iload_n C 1 dL_cell_7 (pc' := 8) rfl rfl rfl ?_
    refine yy_imul C (v := (nI (71 * k))) dL_cell_8 (pc' := 9) rfl (pk_mul 71 k) ?_
    refine yy_bipush C (v := (nI 13)) dL_cell_9 (pc' := 11) rfl (by decide) ?_
    refine yy_iadd C (v := (nI ((71 * k) + 13))) dL_cell_11 (pc' := 12) rfl (nI_add (71 * k) 13) ?_
    refine yy_goto C (tgt := 24) dL_cell_12 (by decide) ?_
    subst hQ
    exact ye_i C hr (vp_nar_int _) () dL_cell_24 rfl (by decide) (by decide) trivial
theorem ln_le {S : SA} {d : Int32} {n : Nat} : linesIn S d n ≤ n := fb_ct_le _ n
theorem ac_0 {c : Nat} {S u : SA} {r : Int32} (h : AC (acI c) S u r) (hc : ¬ (1 ≤ c ∧ c < 3)) : S.1 1 + 0 = u.1 1 := by
  have e : acI c = 0 := if_neg (by omega)
  rw [h.2.2, e]
  split <;> rfl
theorem ac_n {c : Nat} {S u : SA} {r : Int32} (h : AC (acI c) S u r) (hr : r < 0) : S.1 1 + 0 = u.1 1 := by
  rw [h.2.2, if_neg (Int32.not_le.mpr hr)]
theorem ac_1 {c : Nat} {S u : SA} {r : Int32} (h : AC (acI c) S u r) (h1 : 1 ≤ c) (h2 : c < 3) (hr : ¬ r < 0) : S.1 1 + 1 = u.1 1 := by
  rw [h.2.2, if_pos (Int32.not_lt.mp hr), acI, if_pos (by omega)]
theorem nI_le0 {k : Nat} (hk : k < 2 ^ 31) : nI k ≤ 0 ↔ k = 0 := by
  rw [Int32.le_iff_toInt_le, nI_toInt hk, Int32.toInt_zero]
  omega
