/-! the claim's start: what the tables give -/
theorem st_arr {s : State} {args : Array Value} {ty : FieldType} (hty : ∀ cA, s.vm.findClass ("[" ++ ty.toString) = some cA → va_RA s cA ty) (h : (Cond.arrayClass ty).before args s = true) : ∃ cA, ArrOfT s cA ty ∧ va_RA s cA ty := by
  obtain ⟨cA, kA, comp, h1, h2, h3⟩ := Cond.arrayClass_spec h
  exact ⟨cA, fun n z => ⟨fun k h => (by cases h), kA, h2, comp, h3⟩, hty cA h1⟩
theorem st_G {s : State} {args : Array Value} (hts : ∀ w ∈ WG, w.before args s = true) : ∃ G : gG, va_K G.1 vwCl (gTy G) s := by
  obtain ⟨c0, i0, k0⟩ := u_known hts inJ0 (hts _ ia_J0)
  obtain ⟨c1, i1, k1⟩ := u_known hts inJ4 (hts _ ia_J4)
  obtain ⟨c2, i2, k2⟩ := u_known hts inJx40b00 (hts _ ia_Jx40b00)
  obtain ⟨c3, i3, k3⟩ := u_known hts inX0 (hts _ ia_X0)
  obtain ⟨c4, i4, k4⟩ := u_known hts inX1 (hts _ ia_X1)
  obtain ⟨c5, i5, k5⟩ := u_known hts inX2 (hts _ ia_X2)
  obtain ⟨c6, i6, k6⟩ := u_known hts inX3 (hts _ ia_X3)
  obtain ⟨c7, i7, k7⟩ := u_known hts inX4 (hts _ ia_X4)
  obtain ⟨c8, i8, k8⟩ := u_known hts inX5 (hts _ ia_X5)
  obtain ⟨c9, i9, k9⟩ := u_known hts inX6 (hts _ ia_X6)
  obtain ⟨c10, i10, k10⟩ := u_known hts inX7 (hts _ ia_X7)
  obtain ⟨aI, rI⟩ := st_arr (s := s) (ty := .int) (fun _ h => h) (hts _ ac_int)
  obtain ⟨aJ, rJ⟩ := st_arr (s := s) (ty := .long) (fun _ h => h) (hts _ ac_long)
  obtain ⟨aB, rB⟩ := st_arr (s := s) (ty := .byte) (fun _ h => h) (hts _ ac_byte)
  obtain ⟨aC, rC⟩ := st_arr (s := s) (ty := .char) (fun _ h => h) (hts _ ac_char)
  refine ⟨((fun k => match k with | 0 => c0 | 1 => c1 | 2 => c2 | 3 => c3 | 4 => c4 | 5 => c5 | 6 => c6 | 7 => c7 | 8 => c8 | 9 => c9 | _ => c10, fun k => match k with | 0 => i0 | 1 => i1 | 2 => i2 | 3 => i3 | 4 => i4 | 5 => i5 | 6 => i6 | 7 => i7 | 8 => i8 | 9 => i9 | _ => i10), aI, aJ, aB, aC), fun k q hq => ?_, fun k q hq => ?_⟩
  · match k, hq with
    | 0, hq => cases hq; exact k0
    | 1, hq => cases hq; exact k1
    | 2, hq => cases hq; exact k2
    | 3, hq => cases hq; exact k3
    | 4, hq => cases hq; exact k4
    | 5, hq => cases hq; exact k5
    | 6, hq => cases hq; exact k6
    | 7, hq => cases hq; exact k7
    | 8, hq => cases hq; exact k8
    | 9, hq => cases hq; exact k9
    | 10, hq => cases hq; exact k10
    | k + 11, hq => simp at hq
  · match k, hq with
    | 0, hq => cases hq; exact rI
    | 1, hq => cases hq; exact rJ
    | 2, hq => cases hq; exact rB
    | 3, hq => cases hq; exact rC
    | k + 4, hq => simp [gTy] at hq
theorem st_str : ∀ q ∈ eStr, Cond.stringRef q.1 q.2.1 q.2.2 ∈ lw_tbl ∧ Cond.exactly (.string q.1 q.2.1) "java/lang/String" ∈ flatC (Jvm.Cond.and given_1 narrow_1) := by decide +kernel
theorem st_nest : ∀ q ∈ eNest, Cond.methodLinkNest q.1 q.2.1 q.2.2.1 q.2.2.2 ∈ lw_tbl := by decide +kernel
theorem st_cast : ∀ q ∈ eCast, Cond.castable q.1 q.2 ∈ lw_tbl := by decide +kernel
theorem st_decl : ∀ y ∈ eDecl, Cond.declares y ∈ lw_tbl := by decide +kernel
theorem st_nc : ∀ q ∈ eNc, Cond.not (.castable q.1 q.2) ∈ flatC (Jvm.Cond.and given_1 narrow_1) := by decide +kernel
theorem st_tabB {s : State} {args : Array Value} (hts : ∀ w ∈ lw_tbl, w.before args s = true) (hs : ∀ w ∈ GV, w.before args s = true) {C n : String} {f : Nat → Int32} (h1 : Cond.laysStatic C n "[B" ∈ lw_tbl) (h2 : Cond.initialized C ∈ lw_tbl) (h3 : Cond.arrayOf (.static C n "[B") .byte ∈ GV) (h4 : Cond.eq (.length (.static C n "[B")) (.int 100) ∈ GV) (h5 : ∀ j, j < 100 → Cond.eq (.elem (.static C n "[B") (.int (Int32.ofNat j))) (.int (f j)) ∈ GV) (hA : ∀ a : Nat, a < s.heap.size → ¬ s.heap.size ≤ a) : STb C n "[B" .byte 100 (fun j => .int (f j)) (fun q => s.heap.size ≤ q) s s.heap := by
  obtain ⟨t, e1, e2⟩ := va_Tof (args := args) (s := s) (tm := .static C n "[B") (ty := .byte) (N := 100) (f := fun j => .int (f j)) (A := fun q => s.heap.size ≤ q) (by decide) (hs _ h3) (va_eqt (hs _ h4)) (fun j hj => va_eqt (hs _ (h5 j hj))) hA
  exact ⟨t, va_Zof (hts _ h1) (hts _ h2) e1 hA, e2⟩
theorem st_tabJ {s : State} {args : Array Value} (hts : ∀ w ∈ lw_tbl, w.before args s = true) (hs : ∀ w ∈ GV, w.before args s = true) {C n : String} {N : Nat} {z : Int32} {f : Nat → Int64} (hN : N < 2 ^ 31) (hz : z = Int32.ofNat N) (h1 : Cond.laysStatic C n "[J" ∈ lw_tbl) (h2 : Cond.initialized C ∈ lw_tbl) (h3 : Cond.arrayOf (.static C n "[J") .long ∈ GV) (h4 : Cond.eq (.length (.static C n "[J")) (.int z) ∈ GV) (h5 : ∀ j, j < N → Cond.eq (.elem (.static C n "[J") (.int (Int32.ofNat j))) (.long (f j)) ∈ GV) (hA : ∀ a : Nat, a < s.heap.size → ¬ s.heap.size ≤ a) : STb C n "[J" .long N (fun j => .long (f j)) (fun q => s.heap.size ≤ q) s s.heap := by
  subst hz
  obtain ⟨t, e1, e2⟩ := va_Tof (args := args) (s := s) (tm := .static C n "[J") (ty := .long) (N := N) (f := fun j => .long (f j)) (A := fun q => s.heap.size ≤ q) hN (hs _ h3) (va_eqt (hs _ h4)) (fun j hj => va_eqtl (hs _ (h5 j hj))) hA
  exact ⟨t, va_Zof (hts _ h1) (hts _ h2) e1 hA, e2⟩
theorem st_EV {s : State} {args : Array Value} (hts : ∀ w ∈ lw_tbl, w.before args s = true) (hgv : (Jvm.Cond.and given_1 narrow_1).before args s = true) : EV s.heap.size s s.heap := by
  have hs : ∀ w ∈ GV, w.before args s = true := flat_of_before _ hgv
  have hA : ∀ a : Nat, a < s.heap.size → ¬ s.heap.size ≤ a := fun a h => Nat.not_le.mpr h
  refine ⟨vx_Zqof (hts _ (by decide +kernel)) (hts _ (by decide +kernel)) (hs _ (by decide +kernel)) hA, vx_Zqof (hts _ (by decide +kernel)) (hts _ (by decide +kernel)) (hs _ (by decide +kernel)) hA, fun q hq => ?_, fun q hq => va_Nw.of rfl (hts _ (st_nest q hq)), fun q hq => va_Nw.of rfl (hts _ (st_cast q hq)), fun q hq => va_Nc.of (hs _ (st_nc q hq)), fun y hy => va_Nw.of rfl (hts _ (st_decl y hy)), va_Zof (hts _ (by decide +kernel)) (hts _ (by decide +kernel)) (va_eqt (hs _ (by decide +kernel))) hA, st_tabB hts hs (by decide +kernel) (by decide +kernel) (by decide +kernel) (by decide +kernel) tab_O hA, st_tabB hts hs (by decide +kernel) (by decide +kernel) (by decide +kernel) (by decide +kernel) tab_T hA, st_tabJ hts hs (by decide) (z := 1234) rfl (by decide +kernel) (by decide +kernel) (by decide +kernel) (by decide +kernel) tab_G hA, st_tabJ hts hs (by decide) (z := 18) rfl (by decide +kernel) (by decide +kernel) (by decide +kernel) (by decide +kernel) tab_P hA⟩
  obtain ⟨h1, h2⟩ := st_str q hq
  obtain ⟨a, ca, cell, ka, q1, -⟩ := Cond.exactly_spec (hs _ h2)
  exact ⟨a, vk_R.of (hts _ h1) q1⟩
theorem st_sel : ∀ q ∈ [((⟨"java/lang/AbstractStringBuilder", "ensureCapacityInternal", "(I)V"⟩ : MethodName)), ⟨"java/lang/AbstractStringBuilder", "newCapacity", "(I)I"⟩, ⟨"java/lang/AbstractStringBuilder", "appendChars", "([CII)V"⟩], (Cond.privateMethod q ∈ lw_tbl ∧ Cond.instanceMethod q ∈ lw_tbl) ∧ Cond.sameMethod q.cls q.cls q.name q.desc ∈ lw_tbl := by decide +kernel
theorem st_inst : Cond.instantiable "java/lang/StringBuilder" 4 ∈ lw_tbl := by decide +kernel
theorem st_WG {s : State} {args : Array Value} (hts : ∀ w ∈ lw_tbl, w.before args s = true) : ∀ w ∈ WG, w.before args s = true := fun w hw => by
  have h1 := (List.mem_filter.mp hw).1
  rcases List.mem_append.mp h1 with h | h
  · exact hts w h
  · have key : ∀ q : MethodName, q ∈ [((⟨"java/lang/AbstractStringBuilder", "ensureCapacityInternal", "(I)V"⟩ : MethodName)), ⟨"java/lang/AbstractStringBuilder", "newCapacity", "(I)I"⟩, ⟨"java/lang/AbstractStringBuilder", "appendChars", "([CII)V"⟩] → q.cls = "java/lang/AbstractStringBuilder" → (Cond.selects "java/lang/StringBuilder" q q).before args s = true := fun q hq hc => by
      obtain ⟨⟨g1, g2⟩, g3⟩ := st_sel q hq
      exact sel_priv (by rw [hc]; exact ⟨by decide, by decide⟩) (hts _ st_inst) (hts _ g1) (hts _ g2) (hts _ g3)
    simp only [WX, List.mem_cons, List.not_mem_nil, or_false] at h
    rcases h with rfl | rfl | rfl
    · exact key _ (by simp) rfl
    · exact key _ (by simp) rfl
    · exact key _ (by simp) rfl
