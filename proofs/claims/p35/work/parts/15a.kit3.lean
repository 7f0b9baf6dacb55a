section YK3
variable {p : Program} {l : Launch} {e : Env} {R : Room} {s : State} {m : MethodId} {args : Array Value} {below : List Frame} {meth : Method} {c : Code} {cc : ByteArray} {own : String} {nL : Nat} {G : gG} {B0 : Nat} {Q : State → Prop} {pc pc' : Nat} {L L' : List (Nat × Value)} {st rest : List Value} {w w' : va_W} {cs ss : Nat}
theorem cSV (C : CX p s m args meth c cc own nL G B0) : SV B0 s s.heap := C.2.2.2.2.2.2.1.2.2.2.2.2.2.2
theorem yy_drop (hs : w'.Sublist w) (k : YY p l e R s m args below meth c G B0 nL Q (pc) (L) (st) (w') (cs) (ss)) : YY p l e R s m args below meth c G B0 nL Q (pc) (L) (st) (w) (cs) (ss) := fun H locs ls hl hP hD hS => k H locs ls hl (fun i q hi => by
  obtain ⟨j, hj⟩ := List.getElem?_of_mem (hs.subset (List.mem_of_getElem? hi))
  exact hP j q hj) (va_D_iff.mpr ⟨((va_D_iff.mp hD).1).sublist (hs.map Prod.fst), fun q hq => (va_D_iff.mp hD).2 q (hs.subset hq)⟩) hS
theorem yy_ldcf (C : CX p s m args meth c cc own nL G B0) {i : Nat} {v : UInt32} (hd : decode cc pc = .ok (.ldc i, 2)) (hn : pc + 2 = pc') (hc : Cond.constantFloat own i v ∈ WG) (k : YY p l e R s m args below meth c G B0 nL Q (pc') (L) (.float v :: st) (w) (cs) (ss)) : YY p l e R s m args below meth c G B0 nL Q (pc) (L) (st) (w) (cs) (ss) := by
  subst hn
  exact fun H locs ls hl hP hD hS => lv_ldcf C.1 C.2.1 C.2.2.2.1 (C.2.2.2.2.1 _ hc) hd (k H locs ls hl hP hD hS)
theorem yy_ldci (C : CX p s m args meth c cc own nL G B0) {i : Nat} {v : Int32} (hd : decode cc pc = .ok (.ldc i, 2)) (hn : pc + 2 = pc') (hc : Cond.constant own i v ∈ WG) (k : YY p l e R s m args below meth c G B0 nL Q (pc') (L) (.int v :: st) (w) (cs) (ss)) : YY p l e R s m args below meth c G B0 nL Q (pc) (L) (st) (w) (cs) (ss) := by
  subst hn
  exact fun H locs ls hl hP hD hS => lv_ldc C.1 C.2.1 C.2.2.2.1 (C.2.2.2.2.1 _ hc) hd (k H locs ls hl hP hD hS)
theorem yy_ldcw (C : CX p s m args meth c cc own nL G B0) {i : Nat} {v : Int32} (hd : decode cc pc = .ok (.ldc_w i, 3)) (hn : pc + 3 = pc') (hc : Cond.constant own i v ∈ WG) (k : YY p l e R s m args below meth c G B0 nL Q (pc') (L) (.int v :: st) (w) (cs) (ss)) : YY p l e R s m args below meth c G B0 nL Q (pc) (L) (st) (w) (cs) (ss) := by
  subst hn
  exact fun H locs ls hl hP hD hS => lv_ldcw C.1 C.2.1 C.2.2.2.1 (C.2.2.2.2.1 _ hc) hd (k H locs ls hl hP hD hS)
theorem yy_idiv (C : CX p s m args meth c cc own nL G B0) {x y v : Int32} (hd : decode cc pc = .ok (.idiv, 1)) (hn : pc + 1 = pc') (hne : ¬ y = 0) (hv : x / y = v) (k : YY p l e R s m args below meth c G B0 nL Q (pc') (L) (.int v :: st) (w) (cs) (ss)) : YY p l e R s m args below meth c G B0 nL Q (pc) (L) (.int y :: .int x :: st) (w) (cs) (ss) := by
  subst hn
  subst hv
  exact fun H locs ls hl hP hD hS => lv_idiv C.1 C.2.1 hd hne (k H locs ls hl hP hD hS)
theorem yy_irem (C : CX p s m args meth c cc own nL G B0) {x y v : Int32} (hd : decode cc pc = .ok (.irem, 1)) (hn : pc + 1 = pc') (hne : ¬ y = 0) (hv : x - x / y * y = v) (k : YY p l e R s m args below meth c G B0 nL Q (pc') (L) (.int v :: st) (w) (cs) (ss)) : YY p l e R s m args below meth c G B0 nL Q (pc) (L) (.int y :: .int x :: st) (w) (cs) (ss) := by
  subst hn
  subst hv
  exact fun H locs ls hl hP hD hS => lv_irem C.1 C.2.1 hd hne (k H locs ls hl hP hD hS)
theorem yy_ior (C : CX p s m args meth c cc own nL G B0) {x y v : Int32} (hd : decode cc pc = .ok (.ior, 1)) (hn : pc + 1 = pc') (hv : x ||| y = v) (k : YY p l e R s m args below meth c G B0 nL Q (pc') (L) (.int v :: st) (w) (cs) (ss)) : YY p l e R s m args below meth c G B0 nL Q (pc) (L) (.int y :: .int x :: st) (w) (cs) (ss) := by
  subst hn
  subst hv
  exact fun H locs ls hl hP hD hS => lv_ior C.1 C.2.1 hd (k H locs ls hl hP hD hS)
theorem yy_lmul (C : CX p s m args meth c cc own nL G B0) {x y v : Int64} (hd : decode cc pc = .ok (.lmul, 1)) (hn : pc + 1 = pc') (hv : x * y = v) (k : YY p l e R s m args below meth c G B0 nL Q (pc') (L) (.long v :: st) (w) (cs) (ss)) : YY p l e R s m args below meth c G B0 nL Q (pc) (L) (.long y :: .long x :: st) (w) (cs) (ss) := by
  subst hn
  subst hv
  exact fun H locs ls hl hP hD hS => lv_lmul C.1 C.2.1 hd (k H locs ls hl hP hD hS)
theorem yy_ishl (C : CX p s m args meth c cc own nL G B0) {x y v : Int32} (hd : decode cc pc = .ok (.ishl, 1)) (hn : pc + 1 = pc') (hv : x <<< (y &&& 31) = v) (k : YY p l e R s m args below meth c G B0 nL Q (pc') (L) (.int v :: st) (w) (cs) (ss)) : YY p l e R s m args below meth c G B0 nL Q (pc) (L) (.int y :: .int x :: st) (w) (cs) (ss) := by
  subst hn
  subst hv
  exact fun H locs ls hl hP hD hS => lv_ishl C.1 C.2.1 hd (k H locs ls hl hP hD hS)
theorem yy_ishr (C : CX p s m args meth c cc own nL G B0) {x y v : Int32} (hd : decode cc pc = .ok (.ishr, 1)) (hn : pc + 1 = pc') (hv : x >>> (y &&& 31) = v) (k : YY p l e R s m args below meth c G B0 nL Q (pc') (L) (.int v :: st) (w) (cs) (ss)) : YY p l e R s m args below meth c G B0 nL Q (pc) (L) (.int y :: .int x :: st) (w) (cs) (ss) := by
  subst hn
  subst hv
  exact fun H locs ls hl hP hD hS => lv_ishr C.1 C.2.1 hd (k H locs ls hl hP hD hS)
theorem yy_ineg (C : CX p s m args meth c cc own nL G B0) {x v : Int32} (hd : decode cc pc = .ok (.ineg, 1)) (hn : pc + 1 = pc') (hv : -x = v) (k : YY p l e R s m args below meth c G B0 nL Q (pc') (L) (.int v :: st) (w) (cs) (ss)) : YY p l e R s m args below meth c G B0 nL Q (pc) (L) (.int x :: st) (w) (cs) (ss) := by
  subst hn
  subst hv
  exact fun H locs ls hl hP hD hS => lv_ineg C.1 C.2.1 hd (k H locs ls hl hP hD hS)
theorem yy_lneg (C : CX p s m args meth c cc own nL G B0) {x v : Int64} (hd : decode cc pc = .ok (.lneg, 1)) (hn : pc + 1 = pc') (hv : -x = v) (k : YY p l e R s m args below meth c G B0 nL Q (pc') (L) (.long v :: st) (w) (cs) (ss)) : YY p l e R s m args below meth c G B0 nL Q (pc) (L) (.long x :: st) (w) (cs) (ss) := by
  subst hn
  subst hv
  exact fun H locs ls hl hP hD hS => lv_lneg C.1 C.2.1 hd (k H locs ls hl hP hD hS)
theorem yy_i2b (C : CX p s m args meth c cc own nL G B0) {x v : Int32} (hd : decode cc pc = .ok (.i2b, 1)) (hn : pc + 1 = pc') (hv : x.toInt8.toInt32 = v) (k : YY p l e R s m args below meth c G B0 nL Q (pc') (L) (.int v :: st) (w) (cs) (ss)) : YY p l e R s m args below meth c G B0 nL Q (pc) (L) (.int x :: st) (w) (cs) (ss) := by
  subst hn
  exact fun H locs ls hl hP hD hS => lv_i2b C.1 C.2.1 hd hv (k H locs ls hl hP hD hS)
theorem yy_i2c (C : CX p s m args meth c cc own nL G B0) {x v : Int32} (hd : decode cc pc = .ok (.i2c, 1)) (hn : pc + 1 = pc') (hv : (x.toUInt32 % 65536).toInt32 = v) (k : YY p l e R s m args below meth c G B0 nL Q (pc') (L) (.int v :: st) (w) (cs) (ss)) : YY p l e R s m args below meth c G B0 nL Q (pc) (L) (.int x :: st) (w) (cs) (ss) := by
  subst hn
  exact fun H locs ls hl hP hD hS => lv_i2c C.1 C.2.1 hd hv (k H locs ls hl hP hD hS)
theorem yy_iushr (C : CX p s m args meth c cc own nL G B0) {x y v : Int32} (hd : decode cc pc = .ok (.iushr, 1)) (hn : pc + 1 = pc') (hv : (x.toUInt32 >>> (y.toUInt32 &&& Int32.toUInt32 31)).toInt32 = v) (k : YY p l e R s m args below meth c G B0 nL Q (pc') (L) (.int v :: st) (w) (cs) (ss)) : YY p l e R s m args below meth c G B0 nL Q (pc) (L) (.int y :: .int x :: st) (w) (cs) (ss) := by
  subst hn
  exact fun H locs ls hl hP hD hS => lv_iushr C.1 C.2.1 hd hv (k H locs ls hl hP hD hS)
theorem yy_lshr (C : CX p s m args meth c cc own nL G B0) {x v : Int64} {y : Int32} (hd : decode cc pc = .ok (.lshr, 1)) (hn : pc + 1 = pc') (hv : x >>> (y.toInt64 &&& 63) = v) (k : YY p l e R s m args below meth c G B0 nL Q (pc') (L) (.long v :: st) (w) (cs) (ss)) : YY p l e R s m args below meth c G B0 nL Q (pc) (L) (.int y :: .long x :: st) (w) (cs) (ss) := by
  subst hn
  exact fun H locs ls hl hP hD hS => lv_lshr C.1 C.2.1 hd hv (k H locs ls hl hP hD hS)
theorem yy_pop (C : CX p s m args meth c cc own nL G B0) {v : Value} (hd : decode cc pc = .ok (.pop, 1)) (hn : pc + 1 = pc') (hv : v.category = 1) (k : YY p l e R s m args below meth c G B0 nL Q (pc') (L) (st) (w) (cs) (ss)) : YY p l e R s m args below meth c G B0 nL Q (pc) (L) (v :: st) (w) (cs) (ss) := by
  subst hn
  exact fun H locs ls hl hP hD hS => lv_pop C.1 C.2.1 hd hv (k H locs ls hl hP hD hS)
theorem yy_gets (C : CX p s m args meth c cc own nL G B0) {Cn n d ref : String} {v : Value} {index : Nat} (hZ : va_Z Cn n d v (fun q => B0 ≤ q) s s.heap) (hl1 : Cond.fieldLink own index ref n d ∈ WG) (hr : ref = Cn) (hd : decode cc pc = .ok (.getstatic index, 3)) (hn : pc + 3 = pc') (k : YY p l e R s m args below meth c G B0 nL Q (pc') (L) (v :: st) (w) (cs) (ss)) : YY p l e R s m args below meth c G B0 nL Q (pc) (L) (st) (w) (cs) (ss) := by
  subst hn
  subst hr
  exact fun H locs ls hl hP hD hS => va_gets C.1 C.2.1 hZ hS C.2.2.2.1 (C.2.2.2.2.1 _ hl1) (fun _ h => h) hd (k H locs ls hl hP hD hS)
theorem yy_tb (C : CX p s m args meth c cc own nL G B0) {t N i : Nat} {f : Nat → Int32} (hT : va_T .byte t N (fun j => .int (f j)) (fun q => B0 ≤ q) s s.heap) (hd : decode cc pc = .ok (.baload, 1)) (hn : pc + 1 = pc') (hi : i < N) (h31 : N < 2 ^ 31) (k : YY p l e R s m args below meth c G B0 nL Q (pc') (L) (.int (f i) :: st) (w) (cs) (ss)) : YY p l e R s m args below meth c G B0 nL Q (pc) (L) (.int (nI i) :: .ref t :: st) (w) (cs) (ss) := by
  subst hn
  exact fun H locs ls hl hP hD hS => va_tb C.1 C.2.1 hT hS (vp_in_nI hi h31) (by rw [nI_clamp (Nat.lt_trans hi h31)]) hd (k H locs ls hl hP hD hS)
theorem yy_tl (C : CX p s m args meth c cc own nL G B0) {t N i : Nat} {f : Nat → Int64} (hT : va_T .long t N (fun j => .long (f j)) (fun q => B0 ≤ q) s s.heap) (hd : decode cc pc = .ok (.laload, 1)) (hn : pc + 1 = pc') (hi : i < N) (h31 : N < 2 ^ 31) (k : YY p l e R s m args below meth c G B0 nL Q (pc') (L) (.long (f i) :: st) (w) (cs) (ss)) : YY p l e R s m args below meth c G B0 nL Q (pc) (L) (.int (nI i) :: .ref t :: st) (w) (cs) (ss) := by
  subst hn
  exact fun H locs ls hl hP hD hS => va_tl C.1 C.2.1 hT hS (vp_in_nI hi h31) (by rw [nI_clamp (Nat.lt_trans hi h31)]) hd (k H locs ls hl hP hD hS)
theorem yy_alenI (C : CX p s m args meth c cc own nL G B0) {a n : Nat} {f : Nat → Int32} (q0 : Nat) (hd : decode cc pc = .ok (.arraylength, 1)) (hn : pc + 1 = pc') (ha : w[q0]? = some (a, .inl (G.2.1, n, .inl f))) (k : YY p l e R s m args below meth c G B0 nL Q (pc') (L) (.int (nI n) :: st) (w) (cs) (ss)) : YY p l e R s m args below meth c G B0 nL Q (pc) (L) (.ref a :: st) (w) (cs) (ss) := by
  subst hn
  exact fun H locs ls hl hP hD hS => va_alen C.1 C.2.1 C.2.2.2.2.2.1 hP q0 0 ha (ty := .int) rfl rfl hd (k H locs ls hl hP hD hS)
theorem yy_alenB (C : CX p s m args meth c cc own nL G B0) {a n : Nat} {f : Nat → Int32} (q0 : Nat) (hd : decode cc pc = .ok (.arraylength, 1)) (hn : pc + 1 = pc') (ha : w[q0]? = some (a, .inl (G.2.2.2.1, n, .inl f))) (k : YY p l e R s m args below meth c G B0 nL Q (pc') (L) (.int (nI n) :: st) (w) (cs) (ss)) : YY p l e R s m args below meth c G B0 nL Q (pc) (L) (.ref a :: st) (w) (cs) (ss) := by
  subst hn
  exact fun H locs ls hl hP hD hS => va_alen C.1 C.2.1 C.2.2.2.2.2.1 hP q0 2 ha (ty := .byte) rfl rfl hd (k H locs ls hl hP hD hS)
theorem yy_alenC (C : CX p s m args meth c cc own nL G B0) {a n : Nat} {f : Nat → Int32} (q0 : Nat) (hd : decode cc pc = .ok (.arraylength, 1)) (hn : pc + 1 = pc') (ha : w[q0]? = some (a, .inl (G.2.2.2.2, n, .inl f))) (k : YY p l e R s m args below meth c G B0 nL Q (pc') (L) (.int (nI n) :: st) (w) (cs) (ss)) : YY p l e R s m args below meth c G B0 nL Q (pc) (L) (.ref a :: st) (w) (cs) (ss) := by
  subst hn
  exact fun H locs ls hl hP hD hS => va_alen C.1 C.2.1 C.2.2.2.2.2.1 hP q0 3 ha (ty := .char) rfl rfl hd (k H locs ls hl hP hD hS)
theorem yy_copyB (C : CX p s m args meth c cc own nL G B0) {index a0 a1 n0 n1 sp dp n : Nat} {f g : Nat → Int32} (hlk : Cond.methodLink own index arraycopyName ∈ WG) (hnat : Cond.native arraycopyName ∈ WG) (hsta : Cond.static arraycopyName ∈ WG) (hini : Cond.initialized "java/lang/System" ∈ WG) (q0 q1 : Nat) (hd : decode cc pc = .ok (.invokestatic index, 3)) (hn : pc + 3 = pc') (h0 : w[q0]? = some (a0, .inl (G.2.2.2.1, n0, .inl f))) (h1 : w[q1]? = some (a1, .inl (G.2.2.2.1, n1, .inl g))) (hs : sp + n ≤ n0) (hdp : dp + n ≤ n1) (hb0 : n0 < 2 ^ 31) (hb1 : n1 < 2 ^ 31) (hfit : ∀ i, i < n → fits .byte (.int (f (sp + i))) = true) (hfr : 1 ≤ R.frames) (hlo : (st.map fun v => v.category).sum + (nativeFrameWords "java/lang/System" "arraycopy" 5 + 11) ≤ R.locals) (hw : w.set q1 (a1, .inl (G.2.2.2.1, n1, .inl (va_cpy f g sp dp n))) = w') (k : YY p l e R s m args below meth c G B0 nL Q (pc') (L) (st) (w') (cs) (ss)) : YY p l e R s m args below meth c G B0 nL Q (pc) (L) (.int (nI n) :: .int (nI dp) :: .ref a1 :: .int (nI sp) :: .ref a0 :: st) (w) (cs) (ss) := by
  subst hn; subst hw
  intro H locs ls hl hP hD hS
  have e1 : (nI sp).toNatClampNeg = sp := nI_clamp (by omega)
  have e2 : (nI dp).toNatClampNeg = dp := nI_clamp (by omega)
  have e3 : (nI n).toNatClampNeg = n := nI_clamp (by omega)
  refine va_copyi C.1 C.2.1 (C.2.2.1.trans hl.1.symm) C.2.2.2.1 (C.2.2.2.2.1 _ hlk) (C.2.2.2.2.1 _ hnat) (C.2.2.2.2.1 _ hsta) (C.2.2.2.2.1 _ hini) C.2.2.2.2.2.1 hP hD hS q0 q1 2 2 (ty := .byte) h0 h1 rfl rfl rfl (nI_pos (by omega)) (nI_pos (by omega)) (nI_pos (by omega)) (by rw [e1, e3]; exact hs) (by rw [e2, e3]; exact hdp) (by rw [e1, e3]; exact hfit) hfr hlo hd ?_
  rw [e1, e2, e3]
  exact fun H1 locs1 hP1 hD1 hS1 => k H1 locs1 ls hl hP1 hD1 hS1
theorem yy_f2i (C : CX p s m args meth c cc own nL G B0) {index : Nat} {b : UInt32} (hlk : Cond.methodLink own index ⟨"java/lang/Float", "floatToRawIntBits", "(F)I"⟩ ∈ WG) (hnat : Cond.native ⟨"java/lang/Float", "floatToRawIntBits", "(F)I"⟩ ∈ WG) (hsta : Cond.static ⟨"java/lang/Float", "floatToRawIntBits", "(F)I"⟩ ∈ WG) (hini : Cond.initialized "java/lang/Float" ∈ WG) (hd : decode cc pc = .ok (.invokestatic index, 3)) (hn : pc + 3 = pc') (hfr : 1 ≤ R.frames) (hlo : (st.map fun v => v.category).sum + 15 ≤ R.locals) (k : YY p l e R s m args below meth c G B0 nL Q (pc') (L) (.int b.toInt32 :: st) (w) (cs) (ss)) : YY p l e R s m args below meth c G B0 nL Q (pc) (L) (.float b :: st) (w) (cs) (ss) := by
  subst hn
  exact fun H locs ls hl hP hD hS => vn_f2i C.1 C.2.1 (C.2.2.1.trans hl.1.symm) C.2.2.2.1 (C.2.2.2.2.1 _ hlk) (C.2.2.2.2.1 _ hnat) (C.2.2.2.2.1 _ hsta) (C.2.2.2.2.1 _ hini) hfr hlo hd (k H locs ls hl hP hD hS)
theorem w_recv (C : CX p s m args meth c cc own nL G B0) {Cn : String} {T : u_T} {N ci b q0 : Nat} {fs : List Value} {H : Heap} (he : w[q0]? = some (b, .inr (ci, fs))) (hcl : vwCl[ci]? = some (Cn, T, N)) (hP : va_P G.1 vwCl w H) : (∃ cell : Cell, H[b]? = some cell ∧ cell.vm.isStatics = false ∧ s.vm.findClass Cn = some cell.cls) ∧ ∃ cC, ClassAt s Cn cC := by
  obtain ⟨r, h1, cell, q1, q2, q3, q4⟩ := hP q0 _ he
  obtain ⟨g1, g2⟩ := C.2.2.2.2.2.1.1 ci _ hcl
  exact ⟨⟨cell, q1, by rw [q3]; rfl, by rw [q2]; exact g2.1⟩, _, g2⟩
theorem yy_inst (C : CX p s m args meth c cc own nL G B0) {Cn : String} {T : u_T} {N ci b index : Nat} {fs : List Value} (q0 : Nat) (he : w[q0]? = some (b, .inr (ci, fs))) (hcl : vwCl[ci]? = some (Cn, T, N)) (hlk : Cond.classLink own index Cn ∈ WG) (hd : decode cc pc = .ok (.instanceof index, 3)) (hn : pc + 3 = pc') (k : YY p l e R s m args below meth c G B0 nL Q (pc') (L) (.int 1 :: st) (w) (cs) (ss)) : YY p l e R s m args below meth c G B0 nL Q (pc) (L) (.ref b :: st) (w) (cs) (ss) := by
  subst hn
  intro H locs ls hl hP hD hS
  obtain ⟨h1, cC, h2⟩ := w_recv C he hcl hP
  exact va_instS C.1 C.2.1 C.2.2.2.1 (C.2.2.2.2.1 _ hlk) h2 h1 hd (k H locs ls hl hP hD hS)
theorem yy_chk (C : CX p s m args meth c cc own nL G B0) {Cn : String} {T : u_T} {N ci b index : Nat} {fs : List Value} (q0 : Nat) (he : w[q0]? = some (b, .inr (ci, fs))) (hcl : vwCl[ci]? = some (Cn, T, N)) (hlk : Cond.classLink own index Cn ∈ WG) (hd : decode cc pc = .ok (.checkcast index, 3)) (hn : pc + 3 = pc') (k : YY p l e R s m args below meth c G B0 nL Q (pc') (L) (.ref b :: st) (w) (cs) (ss)) : YY p l e R s m args below meth c G B0 nL Q (pc) (L) (.ref b :: st) (w) (cs) (ss) := by
  subst hn
  intro H locs ls hl hP hD hS
  obtain ⟨h1, cC, h2⟩ := w_recv C he hcl hP
  exact va_castS C.1 C.2.1 C.2.2.2.1 (C.2.2.2.2.1 _ hlk) h2 h1 hd (k H locs ls hl hP hD hS)
theorem yy_acmpne (C : CX p s m args meth c cc own nL G B0) {x y : Nat} {off : Int} {tgt : Nat} (hd : decode cc pc = .ok (.if_acmp .ne off, 3)) (hn : pc + 3 = pc') (ht : (pc : Int) + off = (tgt : Int)) (kt : ¬ x = y → YY p l e R s m args below meth c G B0 nL Q (tgt) (L) (st) (w) (cs) (ss)) (kf : x = y → YY p l e R s m args below meth c G B0 nL Q (pc') (L) (st) (w) (cs) (ss)) : YY p l e R s m args below meth c G B0 nL Q (pc) (L) (.ref y :: .ref x :: st) (w) (cs) (ss) := by
  subst hn
  exact fun H locs ls hl hP hD hS => lv_acmp_ne (rx := some x) (ry := some y) C.1 C.2.1 hd ht (fun q => kt (fun z => q (by rw [z])) H locs ls hl hP hD hS) (fun q => kf (Option.some.inj q) H locs ls hl hP hD hS)
theorem yy_null (C : CX p s m args meth c cc own nL G B0) (hd : decode cc pc = .ok (.aconst_null, 1)) (hn : pc + 1 = pc') (k : YY p l e R s m args below meth c G B0 nL Q (pc') (L) (.null :: st) (w) (cs) (ss)) : YY p l e R s m args below meth c G B0 nL Q (pc) (L) (st) (w) (cs) (ss) := by
  subst hn
  exact fun H locs ls hl hP hD hS => lv_null C.1 C.2.1 hd (k H locs ls hl hP hD hS)
theorem yy_tab (C : CX p s m args meth c cc own nL G B0) {dflt hi : Int} {offs : Array Int} {len j tgt : Nat} {off : Int} (hd : decode cc pc = .ok (.tableswitch dflt 0 hi offs, len)) (hj : j < 2 ^ 31) (hh : (j : Int) ≤ hi) (ho : offs[j]? = some off) (ht : (pc : Int) + off = (tgt : Int)) (k : YY p l e R s m args below meth c G B0 nL Q (tgt) (L) (st) (w) (cs) (ss)) : YY p l e R s m args below meth c G B0 nL Q (pc) (L) (.int (nI j) :: st) (w) (cs) (ss) := by
  intro H locs ls hl hP hD hS
  have e1 : (nI j).toInt = (j : Int) := nI_toInt hj
  exact lv_tableIn C.1 C.2.1 hd (by rw [e1]; omega) (by rw [e1]; omega) (by rw [e1]; simpa using ho) ht (k H locs ls hl hP hD hS)
theorem yy_tabO (C : CX p s m args meth c cc own nL G B0) {dflt hi : Int} {offs : Array Int} {len j tgt : Nat} (hd : decode cc pc = .ok (.tableswitch dflt 0 hi offs, len)) (hj : j < 2 ^ 31) (hh : hi < (j : Int)) (ht : (pc : Int) + dflt = (tgt : Int)) (k : YY p l e R s m args below meth c G B0 nL Q (tgt) (L) (st) (w) (cs) (ss)) : YY p l e R s m args below meth c G B0 nL Q (pc) (L) (.int (nI j) :: st) (w) (cs) (ss) := by
  intro H locs ls hl hP hD hS
  have e1 : (nI j).toInt = (j : Int) := nI_toInt hj
  exact lv_tableOut C.1 C.2.1 hd (by rw [e1]; omega) ht (k H locs ls hl hP hD hS)
theorem yy_slen (C : CX p s m args meth c cc own nL G B0) {b L0 : Nat} {xs : Nat → Int32} (hX : va_X b L0 xs s s.heap) (hbl : b < s.heap.size) (hbB : b < B0) (hd : decode cc pc = .ok (.arraylength, 1)) (hn : pc + 1 = pc') (k : YY p l e R s m args below meth c G B0 nL Q (pc') (L) (.int (nI L0) :: st) (w) (cs) (ss)) : YY p l e R s m args below meth c G B0 nL Q (pc) (L) (.ref b :: st) (w) (cs) (ss) := by
  subst hn
  intro H locs ls hl hP hD hS
  exact va_slen C.1 C.2.1 hX hbl (Nat.not_le.mpr hbB) hS hd (k H locs ls hl hP hD hS)
theorem yy_sld (C : CX p s m args meth c cc own nL G B0) {b L0 : Nat} {xs : Nat → Int32} (hX : va_X b L0 xs s s.heap) (hbl : b < s.heap.size) (hbB : b < B0) {i : Nat} (hi : i < L0) (h31 : L0 < 2 ^ 31) (hd : decode cc pc = .ok (.iaload, 1)) (hn : pc + 1 = pc') (k : YY p l e R s m args below meth c G B0 nL Q (pc') (L) (.int (xs i) :: st) (w) (cs) (ss)) : YY p l e R s m args below meth c G B0 nL Q (pc) (L) (.int (nI i) :: .ref b :: st) (w) (cs) (ss) := by
  subst hn
  intro H locs ls hl hP hD hS
  refine va_sld C.1 C.2.1 hX hbl (Nat.not_le.mpr hbB) hS (vp_in_nI hi h31) hd ?_
  rw [nI_clamp (Nat.lt_trans hi h31)]
  exact k H locs ls hl hP hD hS
theorem fB (C : CX p s m args meth c cc own nL G B0) : s.vm.findClass "[B" = some G.2.2.2.1 := by
  have h := (C.2.2.2.2.2.1.2 2 (G.2.2.2.1, .byte) rfl).2
  exact h
theorem yy_cloneB (C : CX p s m args meth c cc own nL G B0) {index a n : Nat} {f : Nat → Int32} (hlk : Cond.methodLink own index ⟨"[B", "clone", "()Ljava/lang/Object;"⟩ ∈ WG) (hsm : Cond.sameMethod "[B" "java/lang/Object" "clone" "()Ljava/lang/Object;" ∈ WG) (hnat : Cond.native ⟨"java/lang/Object", "clone", "()Ljava/lang/Object;"⟩ ∈ WG) (hin : Cond.instanceMethod ⟨"java/lang/Object", "clone", "()Ljava/lang/Object;"⟩ ∈ WG) (hse : Cond.selects "[B" ⟨"[B", "clone", "()Ljava/lang/Object;"⟩ ⟨"java/lang/Object", "clone", "()Ljava/lang/Object;"⟩ ∈ WG) (q0 : Nat) (hd : decode cc pc = .ok (.invokevirtual index, 3)) (hn : pc + 3 = pc') (ha : w[q0]? = some (a, .inl (G.2.2.2.1, n, .inl f))) (hfit : ∀ i, fits .byte (.int (f i)) = true) (hfr : 1 ≤ R.frames) (hlo : (st.map fun v => v.category).sum + 14 ≤ R.locals) (hcc : cs + 1 ≤ R.cells) (hss : ss + n ≤ R.slots) (k : ∀ q : Nat, YY p l e R s m args below meth c G B0 nL Q (pc') (L) (.ref q :: st) ((q, .inl (G.2.2.2.1, n, .inl f)) :: w) (cs + 1) (ss + n)) : YY p l e R s m args below meth c G B0 nL Q (pc) (L) (.ref a :: st) (w) (cs) (ss) := by
  subst hn
  intro H locs ls hl hP hD hS
  refine va_clone (x := (n, .inl f)) (ty := .byte) C.1 C.2.1 (C.2.2.1.trans hl.1.symm) C.2.2.2.1 (C.2.2.2.2.1 _ hlk) (C.2.2.2.2.1 _ hsm) (C.2.2.2.2.1 _ hnat) (C.2.2.2.2.1 _ hin) (C.2.2.2.2.1 _ hse) (C.2.2.2.2.2.2.1.2.2.2.2.1 ("[B", "java/lang/Cloneable") (by decide)) C.2.2.2.2.2.1 hP hD hS (fun q h => Nat.le_trans C.2.2.2.2.2.2.2.1 h) q0 2 ha rfl (fB C) (fun i v hv => ?_) hfr hlo hcc hss hd (fun q H1 hK1 hP1 hD1 hS1 => k q H1 locs ls hl (pP pSnoc hP1) (pD pSnoc hD1) hS1)
  have hi : i < n := by
    have h1 := (Array.getElem?_eq_some_iff.mp hv).1
    have h2 : (vp_cell G.2.2.2.1 (n, .inl f)).slots.size = n := arrV_size _ _ _
    omega
  have h3 : (vp_cell G.2.2.2.1 (n, .inl f)).slots[i]? = some (.int (f i)) := arrV_read _ _ hi
  cases h3.symm.trans hv
  exact hfit i
theorem yy_chkB (C : CX p s m args meth c cc own nL G B0) {a n index : Nat} {f : Nat → Int32} (q0 : Nat) (ha : w[q0]? = some (a, .inl (G.2.2.2.1, n, .inl f))) (hlk : Cond.classLink own index "[B" ∈ WG) (hd : decode cc pc = .ok (.checkcast index, 3)) (hn : pc + 3 = pc') (k : YY p l e R s m args below meth c G B0 nL Q (pc') (L) (.ref a :: st) (w) (cs) (ss)) : YY p l e R s m args below meth c G B0 nL Q (pc) (L) (.ref a :: st) (w) (cs) (ss) := by
  subst hn
  intro H locs ls hl hP hD hS
  exact va_castA C.1 C.2.1 C.2.2.2.1 (C.2.2.2.2.1 _ hlk) hP q0 ha (fB C) hd (k H locs ls hl hP hD hS)
/-- a private method is the one that is called, whatever the receiver's class -/
theorem sel_priv {Cn : String} {N : Nat} {y : MethodName} {U : State} {a : Array Value} (hy : y.cls ≠ "java/lang/invoke/MethodHandle" ∧ y.cls ≠ "java/lang/invoke/VarHandle") (hins : (Cond.instantiable Cn N).before a U = true) (hpriv : (Cond.privateMethod y).before a U = true) (hinst : (Cond.instanceMethod y).before a U = true) (hsm : (Cond.sameMethod y.cls y.cls y.name y.desc).before a U = true) : (Cond.selects Cn y y).before a U = true := by
  obtain ⟨c, -, hc, -, -, -, -, -⟩ := Cond.instantiable_spec hins
  obtain ⟨cn, ck, r1, hcn, hck, hni, -, -⟩ := Cond.sameMethod_found hsm
  obtain ⟨mk, methM, hnamed, hmethM, -, -⟩ := Cond.instanceMethod_spec hinst
  have hfound : U.methodFound? y.cls y.name y.desc = some mk := State.methodFound?_of_named hnamed hy
  have hsel : selectMethod {} U.vm c mk = .method mk := selectMethod_private hmethM (Cond.privateMethod_at hpriv mk methM hnamed hmethM)
  have hcls : mk.cls = cn := Option.some.inj ((findClass_of_methodNamed hnamed).symm.trans hcn)
  simp only [Cond.before, Cond.holds, Cond.value, hc, hfound, hnamed, hsel, hcls, hck]
  simp; exact hni
theorem yr_U (C : CX p s m args meth c cc own nL G B0) {y : MethodName} {bytes : ByteArray} {maxL index n : Nat} {ret : Option FieldType} {rm : Room} {Qc : Array Value → State → Outcome → State → Prop} {As : List Value} {x : MethodName} {owner Cn : String} {T : u_T} {N ci b : Nat} {fs : List Value} {bx : ByteArray} {mx : Nat} {rx : Option FieldType} (lk : Cond.methodLink own index x ∈ WG) (hini : Cond.initialized y.cls ∈ WG) (hno : owner ≠ "java/lang/invoke/MethodHandle" ∧ owner ≠ "java/lang/invoke/VarHandle" ∧ (parseMethodDescriptor x.desc).map (fun d => d.parameters.length) = some n) (hsm : Cond.sameMethod x.cls owner x.name x.desc ∈ WG) (hix : Cond.instanceMethod ⟨owner, x.name, x.desc⟩ ∈ WG) (hcx : Cond.code ⟨owner, x.name, x.desc⟩ bx mx rx ∈ WG) (cd : Cond.code y bytes maxL ret ∈ WG) (hin : Cond.instanceMethod y ∈ WG) (hse : (Cond.selects Cn x y).before args s = true) (hM : Met l y (Cond.code y bytes maxL ret :: WG) rm (va_Pc (.ref b :: As) (PR G B0 w)) Qc rm.cells rm.slots (fun q => B0 ≤ q)) (hR : rm.frames + 1 ≤ R.frames ∧ 8 + (maxL + 11) + rm.locals ≤ R.locals) (hf : cs + rm.cells ≤ R.cells ∧ ss + rm.slots ≤ R.slots) (q0 : Nat) (he : w[q0]? = some (b, .inr (ci, fs))) (hcl : vwCl[ci]? = some (Cn, T, N)) (hlen : As.length = n) (hst : st = As.reverse ++ .ref b :: rest) (hcat : (rest.map fun v => v.category).sum ≤ 8) (hd : decode cc pc = .ok (.invokevirtual index, 3)) : ∀ (H : Heap) (locs : List Loc) (ls : Array Slot), lv_has ls nL L → va_P G.1 vwCl w H → va_D (fun q => B0 ≤ q) w → va_S (fun q => B0 ≤ q) s.heap H locs → va_Run p l e R s m args below meth c H locs cs ss rm.cells rm.slots (F0 m pc ls st) rest (Qc (Value.ref b :: As).toArray) (fun q => B0 ≤ q) := by
  intro H locs ls hl hP hD hS
  exact va_runU (C := Cn) (owner := owner) (x := x) ⟨C.1, C.2.1, C.2.2.1, C.2.2.2.1, C.2.2.2.2.1⟩ hM ⟨⟨rfl, rfl, hR.1, hR.2, pay_in C.2.2.2.2.1 (cdWG cd), List.mem_cons_self⟩, C.2.2.2.2.1 _ cd, C.2.2.2.2.1 _ hini, ⟨hno.1, hno.2.1⟩, lk_len hno.2.2, C.2.2.2.2.1 _ lk, C.2.2.2.2.1 _ hsm, va_Decl.of (C.2.2.2.2.1 _ hix) (C.2.2.2.2.1 _ hcx), hse, C.2.2.2.2.1 _ hin⟩ (okV C he hcl hP hD hS) rfl hlen hl.1 hst (lv_room hcat) hd hf
theorem yr_SU (C : CX p s m args meth c cc own nL G B0) {y : MethodName} {bytes : ByteArray} {maxL index n : Nat} {ret : Option FieldType} {rm : Room} {Qc : Array Value → State → Outcome → State → Prop} {As : List Value} {Cn : String} {T : u_T} {N ci b : Nat} {fs : List Value} (lk : Cond.methodLink own index y ∈ WG) (hini : Cond.initialized y.cls ∈ WG) (hno : y.name ≠ "<init>" ∧ (parseMethodDescriptor y.desc).map (fun d => d.parameters.length) = some n) (hsm : Cond.sameMethod y.cls y.cls y.name y.desc ∈ WG) (hsup : Cond.superclass own y.cls ∈ WG) (cd : Cond.code y bytes maxL ret ∈ WG) (hin : Cond.instanceMethod y ∈ WG) (hM : Met l y (Cond.code y bytes maxL ret :: WG) rm (va_Pc (.ref b :: As) (PR G B0 w)) Qc rm.cells rm.slots (fun q => B0 ≤ q)) (hR : rm.frames + 1 ≤ R.frames ∧ 8 + (maxL + 11) + rm.locals ≤ R.locals) (hf : cs + rm.cells ≤ R.cells ∧ ss + rm.slots ≤ R.slots) (q0 : Nat) (he : w[q0]? = some (b, .inr (ci, fs))) (hcl : vwCl[ci]? = some (Cn, T, N)) (hlen : As.length = n) (hst : st = As.reverse ++ .ref b :: rest) (hcat : (rest.map fun v => v.category).sum ≤ 8) (hd : decode cc pc = .ok (.invokespecial index, 3)) : ∀ (H : Heap) (locs : List Loc) (ls : Array Slot), lv_has ls nL L → va_P G.1 vwCl w H → va_D (fun q => B0 ≤ q) w → va_S (fun q => B0 ≤ q) s.heap H locs → va_Run p l e R s m args below meth c H locs cs ss rm.cells rm.slots (F0 m pc ls st) rest (Qc (Value.ref b :: As).toArray) (fun q => B0 ≤ q) := by
  intro H locs ls hl hP hD hS
  obtain ⟨-, cC, hat⟩ := w_recv C he hcl hP
  exact va_runSU hat ⟨C.1, C.2.1, C.2.2.1, C.2.2.2.1, C.2.2.2.2.1⟩ hM ⟨⟨rfl, rfl, hR.1, hR.2, pay_in C.2.2.2.2.1 (cdWG cd), List.mem_cons_self⟩, C.2.2.2.2.1 _ lk, C.2.2.2.2.1 _ hsm, C.2.2.2.2.1 _ hsup, C.2.2.2.2.1 _ hin, C.2.2.2.2.1 _ hini, C.2.2.2.2.1 _ cd, hno.1, lk_len hno.2⟩ (okV C he hcl hP hD hS) rfl hlen hl.1 hst (lv_room hcat) hd hf
theorem yc_r {S : Type} {mc ms : Nat} {a : Array Value} {post : S → Prop} {rf : S → Nat} {W2 : S → va_W} (hr : ∀ (H : Heap) (locs : List Loc) (ls : Array Slot), lv_has ls nL L → va_P G.1 vwCl w H → va_D (fun q => B0 ≤ q) w → va_S (fun q => B0 ≤ q) s.heap H locs → va_Run p l e R s m args below meth c H locs cs ss mc ms (F0 m pc ls st) rest (va_Qr post (fun (u : S) (a_ : Nat) (t : State) => a_ = rf u ∧ va_P G.1 vwCl (W2 u) t.heap ∧ va_D (fun q => B0 ≤ q) (W2 u)) (fun q => B0 ≤ q) a) (fun q => B0 ≤ q)) (hn : pc + 3 = pc') (k : ∀ (u : S), post u → YY p l e R s m args below meth c G B0 nL Q (pc') (L) (.ref (rf u) :: rest) (W2 u) (cs + mc) (ss + ms)) : YY p l e R s m args below meth c G B0 nL Q (pc) (L) (st) (w) (cs) (ss) := by
  subst hn
  intro H locs ls hl hP hD hS
  refine va_callr (hr H locs ls hl hP hD hS) hS (fun q _ h => h) (fun q h => h) (fun u ra t H1 locs1 ht hvm hw hB hz hk hS1 => ?_)
  rw [ht] at hB
  obtain ⟨hB0, hB1, hB2⟩ := hB
  subst hB0
  exact k u hw H1 locs1 ls hl hB1 hB2 hS1
theorem ye_r (C : CX p s m args meth c cc own nL G B0) {S : Type} {post : S → Prop} {rf : S → Nat} {W2 : S → va_W} {mc ms : Nat} {rt : FieldType} (hr : meth.sig.returnType = some rt) (hrt : (∃ n, rt = .object n) ∨ ∃ t, rt = .array t) (u : S) (hd : decode cc pc = .ok (.areturn, 1)) (hw : W2 u = w) (hc : cs ≤ mc) (hs : ss ≤ ms) (hp : post u) : YY p l e R s m args below meth c G B0 nL (MQ below (va_Qr post (fun (u : S) (a_ : Nat) (t : State) => a_ = rf u ∧ va_P G.1 vwCl (W2 u) t.heap ∧ va_D (fun q => B0 ≤ q) (W2 u)) (fun q => B0 ≤ q)) args s mc ms (fun q => B0 ≤ q)) (pc) (L) (.ref (rf u) :: []) (w) (cs) (ss) := by
  subst hw
  intro H locs ls hl hP hD hS
  have hlocks := C.2.2.2.2.2.2.2.2
  refine W.widen hc hs ?_
  exact W.aret C.1 C.2.1 hr hrt (Or.inr ⟨_, rfl⟩) (fun t ht hW => ⟨⟨u, rf u, rfl, hp, by subst ht; exact ⟨rfl, hP, hD⟩⟩, hS.F ht⟩) hS.2.2 hd
end YK3
theorem metF_ofW {l : Launch} {y : MethodName} {ws ws' : List Cond} {rm : Room} {Pc : Array Value → State → Prop} {Qc : Array Value → State → Outcome → State → Prop} {mc ms : Nat} {free : Addr → Prop} {cc : ByteArray} {maxL : Nat} {ret : Option FieldType}
    (hy : plainFor y = true) (hw : ws = Cond.code y cc maxL ret :: ws')
    (body : ∀ p e s m args below meth c s₁, BodyLoose p l y (headSpec ws rm) cc maxL ret e s m args below meth c s₁ → c.maxLocals = maxL → Pc args s →
      W p l e (headSpec ws rm).room s m args below meth c s.heap [] 0 0 (MQ below Qc args s mc ms free) (entryFrame m args maxL)) : Met l y ws rm Pc Qc mc ms free := by
  refine MetFree.of_bodySF (code := cc) (maxLocals := maxL) (ret := ret) hy ?_ ?_
  · intro args s m h hn
    obtain ⟨meth, c, h1, h2, h3, h4, h5, h6, -, -⟩ := Cond.code_spec hn (atoms_spec (ws := ws) h _ (by rw [hw]; exact List.mem_cons_self))
    exact ⟨meth, c, h1, h2, h3, h4, h5, h6⟩
  · intro p e s m args below meth c s₁ B hml hP _
    have hh0 : s₁.heap = s.heap := by rw [B.state]; rfl
    obtain ⟨t, a1, o, b1, b2, b3⟩ := body p e s m args below meth c s₁ B hml hP s₁ hh0 (Stand.of_body B)
    exact ⟨t, o, a1, b1, b2, ⟨b3.1, b3.2⟩⟩
theorem metF_of {l : Launch} {y : MethodName} {cc : ByteArray} {maxL : Nat} {ret : Option FieldType} {rm : Room} {av : List Value} {G : gG} {B0 : Nat} {w : va_W} {Qc : Array Value → State → Outcome → State → Prop} (own : String) (L : List (Nat × Value)) (hown : y.cls = own) (hy : plainFor y = true) (hLl : (lg_sl av).length ≤ maxL) (hL : lv_args 0 av = L)
    (body : ∀ (p : Program) (e : Env) (s : State) (m : MethodId) (args : Array Value) (below : List Frame) (meth : Method) (c : Code), CX p s m args meth c cc own maxL G B0 → meth.sig.returnType = ret → meth.name = y.name → YY p l e rm s m args below meth c G B0 maxL (MQ below Qc args s rm.cells rm.slots (fun q => B0 ≤ q)) 0 L [] w 0 0) : Met l y (Cond.code y cc maxL ret :: WG) rm (va_Pc av (PR G B0 w)) Qc rm.cells rm.slots (fun q => B0 ≤ q) := by
  refine metF_ofW (cc := cc) (maxL := maxL) (ret := ret) hy rfl ?_
  intro p e s m args below meth c s₁ B hml hv
  obtain ⟨rfl, h1, h2, h3, h4, h5⟩ := hv
  have hts := atoms_spec (ws := Cond.code y cc maxL ret :: WG) B.pre
  have hl := lv_entry av (n := maxL) hLl
  rw [lg_entry_eq]
  subst hown; subst hL
  exact body p e s m _ below meth c ⟨B.exec, B.bytes, hml, findClass_of_methodNamed B.named, fun w hw => hts w (List.mem_cons_of_mem _ hw), h3, h5, h1, B.notSynchronized⟩ B.returns (name_of_methodNamed B.named B.method).1  s.heap [] _ hl h2 h4 va_S.rf

