/-! the claim's start: what the tables give, the two objects and the two cells, the loop, the end -/
theorem rel_0 : Rel S0 M0 := by
  have e0 : mk 0 = 0 := by decide
  have hl : ∀ a, lgA S0 a = 0 := fun _ => rfl
  refine ⟨⟨by decide, by decide, by decide, by decide, by decide, by decide, by decide, by decide, by decide, fun j h => absurd h (Nat.not_lt_zero j), fun a _ => ?_, fun k h => absurd h (Nat.not_lt_zero k), fun k h => absurd h (Nat.not_lt_zero k)⟩, ⟨fun a _ k h => ?_, by decide +kernel⟩, ⟨⟨rfl, rfl, rfl, rfl, rfl, rfl, rfl, rfl, rfl⟩, ⟨rfl, rfl, rfl, rfl, rfl, rfl, rfl, rfl, rfl, fun _ _ => rfl⟩, ⟨rfl, rfl, rfl, rfl, rfl⟩⟩, ⟨fun k h => absurd h (Nat.not_lt_zero k), fun d _ => nI_0.symm, fun k h => absurd h (Nat.not_lt_zero k)⟩, fun j h => absurd h (Nat.not_lt_zero j), fun a _ => ⟨fun k _ => ?_, ?_, ?_, ?_⟩, ⟨fun k h => absurd h (Nat.not_lt_zero k), fun k h => absurd h (Nat.not_lt_zero k)⟩⟩
  · show mk 0 < 2 ^ 40
    decide
  · rw [hl, Nat.zero_testBit] at h
    cases h
  · show (0 : Int32) = bI ((mk 0).testBit k)
    rw [e0, Nat.zero_testBit]
    rfl
  · show mk 0 < 2 ^ 0
    decide
  · rw [hl]
    show (0 : Int32) = _
    have h1 : fb_ct (fun k => Nat.testBit 0 k) 40 = 0 := fb_ct_zero.mpr (fun k _ => Nat.zero_testBit k)
    rw [h1, nI_0]
  · rw [hl]
    show cloA S0 0 = mk 0
    rw [e0]
    rfl
theorem st_arr {s : State} {args : Array Value} {ty : FieldType} (hty : ∀ cA, s.vm.findClass ("[" ++ ty.toString) = some cA → va_RA s cA ty) (h : (Cond.arrayClass ty).before args s = true) : ∃ cA, ArrOfT s cA ty ∧ va_RA s cA ty := by
  obtain ⟨cA, kA, comp, h1, h2, h3⟩ := Cond.arrayClass_spec h
  exact ⟨cA, fun n z => ⟨fun k h => (by cases h), kA, h2, comp, h3⟩, hty cA h1⟩
theorem st_G {s : State} {args : Array Value} (hts : ∀ w ∈ WG, w.before args s = true) : ∃ G : gG, va_K G.1 vwCl (gTy G) s := by
  obtain ⟨c0, i0, k0⟩ := u_known hts inW0 (hts _ ia_X0)
  obtain ⟨c1, i1, k1⟩ := u_known hts inW1 (hts _ ia_X1)
  obtain ⟨c2, i2, k2⟩ := u_known hts inW2 (hts _ ia_X2)
  obtain ⟨c3, i3, k3⟩ := u_known hts inW3 (hts _ ia_X3)
  obtain ⟨c4, i4, k4⟩ := u_known hts inW4 (hts _ ia_X4)
  obtain ⟨c5, i5, k5⟩ := u_known hts inW5 (hts _ ia_X5)
  obtain ⟨c6, i6, k6⟩ := u_known hts inW6 (hts _ ia_X6)
  obtain ⟨c7, i7, k7⟩ := u_known hts inW7 (hts _ ia_X7)
  obtain ⟨aI, rI⟩ := st_arr (s := s) (ty := .int) (fun _ h => h) (hts _ ac_int)
  obtain ⟨aJ, rJ⟩ := st_arr (s := s) (ty := .long) (fun _ h => h) (hts _ ac_long)
  obtain ⟨aZ, rZ⟩ := st_arr (s := s) (ty := .boolean) (fun _ h => h) (hts _ ac_boolean)
  obtain ⟨aC, rC⟩ := st_arr (s := s) (ty := .char) (fun _ h => h) (hts _ ac_char)
  obtain ⟨aD, rD⟩ := st_arr (s := s) (ty := .double) (fun _ h => h) (hts _ ac_double)
  refine ⟨((fun k => match k with | 0 => c0 | 1 => c1 | 2 => c2 | 3 => c3 | 4 => c4 | 5 => c5 | 6 => c6 | _ => c7, fun k => match k with | 0 => i0 | 1 => i1 | 2 => i2 | 3 => i3 | 4 => i4 | 5 => i5 | 6 => i6 | _ => i7), aI, aJ, aZ, aC, aD), fun k q hq => ?_, fun k q hq => ?_⟩
  · match k, hq with
    | 0, hq => cases hq; exact k0
    | 1, hq => cases hq; exact k1
    | 2, hq => cases hq; exact k2
    | 3, hq => cases hq; exact k3
    | 4, hq => cases hq; exact k4
    | 5, hq => cases hq; exact k5
    | 6, hq => cases hq; exact k6
    | 7, hq => cases hq; exact k7
    | k + 8, hq => simp at hq
  · match k, hq with
    | 0, hq => cases hq; exact rI
    | 1, hq => cases hq; exact rJ
    | 2, hq => cases hq; exact rZ
    | 3, hq => cases hq; exact rC
    | 4, hq => cases hq; exact rD
    | k + 5, hq => simp [gTy] at hq
theorem st_str : ∀ q ∈ eStr, Cond.stringRef q.1 q.2.1 q.2.2 ∈ lw_tbl ∧ Cond.exactly (.string q.1 q.2.1) "java/lang/String" ∈ flatC (Jvm.Cond.and given_1 narrow_1) := by decide +kernel
theorem st_nest : ∀ q ∈ eNest, Cond.methodLinkNest q.1 q.2.1 q.2.2.1 q.2.2.2 ∈ lw_tbl := by decide +kernel
theorem st_cast : ∀ q ∈ eCast, Cond.castable q.1 q.2 ∈ lw_tbl := by decide +kernel
theorem st_decl : ∀ y ∈ eDecl, Cond.declares y ∈ lw_tbl := by decide +kernel
theorem st_nc : ∀ q ∈ eNc, Cond.not (.castable q.1 q.2) ∈ flatC (Jvm.Cond.and given_1 narrow_1) := by decide +kernel
theorem st_EV {s : State} {args : Array Value} (hts : ∀ w ∈ lw_tbl, w.before args s = true) (hgv : (Jvm.Cond.and given_1 narrow_1).before args s = true) : EV s.heap.size s s.heap := by
  have hs := flat_of_before _ hgv
  have hA : ∀ a : Nat, a < s.heap.size → ¬ s.heap.size ≤ a := fun a h => Nat.not_le.mpr h
  refine ⟨vx_Zqof (hts _ (by decide +kernel)) (hts _ (by decide +kernel)) (hs _ (by decide +kernel)) hA, vx_Zqof (hts _ (by decide +kernel)) (hts _ (by decide +kernel)) (hs _ (by decide +kernel)) hA, fun q hq => ?_, fun q hq => va_Nw.of rfl (hts _ (st_nest q hq)), fun q hq => va_Nw.of rfl (hts _ (st_cast q hq)), fun q hq => va_Nc.of (hs _ (st_nc q hq)), fun y hy => va_Nw.of rfl (hts _ (st_decl y hy))⟩
  obtain ⟨h1, h2⟩ := st_str q hq
  obtain ⟨a, ca, cell, ka, q1, -⟩ := Cond.exactly_spec (hs _ h2)
  exact ⟨a, vk_R.of (hts _ h1) q1⟩
theorem p_st {α : Type} (A B : List α) (x y : α) : (x :: y :: (B ++ (A ++ []))).Perm (A ++ (y :: x :: B)) := by
  rw [List.append_nil]
  exact (List.Perm.swap y x _).trans (List.perm_append_comm (l₁ := y :: x :: B))
