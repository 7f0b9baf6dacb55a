def cellL (G : gG) (fo : Nat → Int64) : va_E := .inl (G.2.2.1, 1, .inr (.inl fo))
def cellD (G : gG) (fd : Nat → UInt64) : va_E := .inl (G.2.2.2.2.2, 1, .inr (.inr (.inr (.inl fd))))
abbrev w1L (G : gG) (ad bd : Nat → Nat) (o1 o2 : Nat) (S : SA) (M : SM) (fo : Nat → Int64) (fd : Nat → UInt64) : va_W := wA G ad S ++ ((o1, .inl (G.2.2.1, 1, .inr (.inl fo))) :: (o2, .inl (G.2.2.2.2.2, 1, .inr (.inr (.inr (.inl fd))))) :: wM G bd M)
abbrev w2L (G : gG) (ad bd : Nat → Nat) (o1 o2 : Nat) (S : SA) (M : SM) (fo : Nat → Int64) (fd : Nat → UInt64) : va_W := wM G bd M ++ (wA G ad S ++ [(o1, .inl (G.2.2.1, 1, .inr (.inl fo))), (o2, .inl (G.2.2.2.2.2, 1, .inr (.inr (.inr (.inl fd)))))])
abbrev w3L (G : gG) (ad bd : Nat → Nat) (o1 o2 : Nat) (S : SA) (M : SM) (fo : Nat → Int64) (fd : Nat → UInt64) : va_W := wA G ad S ++ ((o2, .inl (G.2.2.2.2.2, 1, .inr (.inr (.inr (.inl fd))))) :: (o1, .inl (G.2.2.1, 1, .inr (.inl fo))) :: wM G bd M)
theorem p_law {α : Type} (A B : List α) (x y : α) : (A ++ (x :: y :: B)).Perm (B ++ (A ++ [x, y])) := by
  have h : A ++ (x :: y :: B) = (A ++ [x, y]) ++ B := by simp
  rw [h]
  exact List.perm_append_comm
theorem p_sw {α : Type} (A B : List α) (x y : α) : (A ++ (x :: y :: B)).Perm (A ++ (y :: x :: B)) := List.Perm.append_left A (List.Perm.swap y x B)
theorem p12 {G : gG} {ad bd : Nat → Nat} {o1 o2 : Nat} {S : SA} {M : SM} {fo : Nat → Int64} {fd : Nat → UInt64} : (w1L G ad bd o1 o2 S M fo fd).Perm (w2L G ad bd o1 o2 S M fo fd) := p_law _ _ _ _
theorem p21 {G : gG} {ad bd : Nat → Nat} {o1 o2 : Nat} {S : SA} {M : SM} {fo : Nat → Int64} {fd : Nat → UInt64} : (w2L G ad bd o1 o2 S M fo fd).Perm (w1L G ad bd o1 o2 S M fo fd) := (p_law _ _ _ _).symm
theorem p13 {G : gG} {ad bd : Nat → Nat} {o1 o2 : Nat} {S : SA} {M : SM} {fo : Nat → Int64} {fd : Nat → UInt64} : (w1L G ad bd o1 o2 S M fo fd).Perm (w3L G ad bd o1 o2 S M fo fd) := p_sw _ _ _ _
theorem p31 {G : gG} {ad bd : Nat → Nat} {o1 o2 : Nat} {S : SA} {M : SM} {fo : Nat → Int64} {fd : Nat → UInt64} : (w3L G ad bd o1 o2 S M fo fd).Perm (w1L G ad bd o1 o2 S M fo fd) := p_sw _ _ _ _
theorem lg_self (x : Int64) : lg_cmp x x = nI 0 := by simp [lg_cmp]; rfl
theorem nI_and31 {x : Int32} : ∃ j : Nat, j < 32 ∧ x &&& nI 31 = nI j := by
  refine ⟨(x &&& nI 31).toBitVec.toNat, ?_, ?_⟩
  · have h : (x &&& nI 31).toBitVec.toNat = x.toBitVec.toNat &&& 31 := rfl
    rw [h]
    exact Nat.lt_succ_of_le Nat.and_le_right
  · exact (nI_ix _).symm
section YL
variable {p : Program} {l : Launch} {e : Env} {R : Room} {s : State} {m : MethodId} {args : Array Value} {below : List Frame} {meth : Method} {c : Code} {cc : ByteArray} {own : String} {nL : Nat} {G : gG} {B0 : Nat} {Q : State → Prop} {pc pc' : Nat} {L L' : List (Nat × Value)} {st rest : List Value} {w w' : va_W} {cs ss : Nat}
theorem yy_slen (C : CX p s m args meth c cc own nL G B0) {b L0 : Nat} {xs : Nat → Int32} (hX : va_X b L0 xs s s.heap) (hbl : b < s.heap.size) (hbB : b < B0) (hd : decode cc pc = .ok (.arraylength, 1)) (hn : pc + 1 = pc') (k : YY p l e R s m args below meth c G B0 nL Q (pc') (L) (.int (nI L0) :: st) (w) (cs) (ss)) : YY p l e R s m args below meth c G B0 nL Q (pc) (L) (.ref b :: st) (w) (cs) (ss) := by
  subst hn
  intro H locs ls hl hP hD hS
  exact va_slen C.1 C.2.1 hX hbl (Nat.not_le.mpr hbB) hS hd (k H locs ls hl hP hD hS)
theorem yy_sld (C : CX p s m args meth c cc own nL G B0) {b L0 : Nat} {xs : Nat → Int32} (hX : va_X b L0 xs s s.heap) (hbl : b < s.heap.size) (hbB : b < B0) {i : Nat} (hi : i < L0) (h31 : L0 < 2 ^ 31) (hd : decode cc pc = .ok (.iaload, 1)) (hn : pc + 1 = pc') (k : YY p l e R s m args below meth c G B0 nL Q (pc') (L) (.int (xs i) :: st) (w) (cs) (ss)) : YY p l e R s m args below meth c G B0 nL Q (pc) (L) (.int (nI i) :: .ref b :: st) (w) (cs) (ss) := by
  subst hn
  intro H locs ls hl hP hD hS
  refine va_sld C.1 C.2.1 hX hbl (Nat.not_le.mpr hbB) hS (vp_in_nI hi h31) hd ?_
  rw [nI_clamp (Nat.lt_trans hi h31)]
  exact k H locs ls hl hP hD hS
theorem yy_tab (C : CX p s m args meth c cc own nL G B0) {dflt hi : Int} {offs : Array Int} {len j tgt : Nat} {off : Int} (hd : decode cc pc = .ok (.tableswitch dflt 0 hi offs, len)) (hj : j < 2 ^ 31) (hh : (j : Int) ≤ hi) (ho : offs[j]? = some off) (ht : (pc : Int) + off = (tgt : Int)) (k : YY p l e R s m args below meth c G B0 nL Q (tgt) (L) (st) (w) (cs) (ss)) : YY p l e R s m args below meth c G B0 nL Q (pc) (L) (.int (nI j) :: st) (w) (cs) (ss) := by
  intro H locs ls hl hP hD hS
  have e1 : (nI j).toInt = (j : Int) := nI_toInt hj
  exact lv_tableIn C.1 C.2.1 hd (by rw [e1]; omega) (by rw [e1]; omega) (by rw [e1]; simpa using ho) ht (k H locs ls hl hP hD hS)
end YL
def lfd (lf sl : Nat → Int32) : Nat → Int32 := fun k => if lf k = 0 then sl k else -1
theorem m1_lt {d : Nat} (h : d < 2 ^ 31) : (-1 : Int32) < nI d := by
  rw [Int32.lt_iff_toInt_lt, nI_toInt h]
  have h3 : ((-1 : Int32)).toInt = -1 := by decide
  omega
theorem frc_lfd {lf sl : Nat → Int32} {d k : Nat} (h : d < 2 ^ 31) : frc lf sl d k = !decide (lfd lf sl k < nI d) := by
  unfold frc lfd
  by_cases hc : lf k = 0
  · simp [hc]
  · simp [hc, m1_lt h]
theorem lfd_up {lf sl : Nat → Int32} {j : Nat} : lfd (upd lf j (nI 1)) sl = upd (lfd lf sl) j (-1) := by
  funext k
  unfold lfd upd
  by_cases hc : k = j
  · have h1 : ¬ nI 1 = (0 : Int32) := by decide
    simp [hc, h1]
  · simp [hc]
theorem lfd_ad {lf sl : Nat → Int32} {n : Nat} {t : Int32} (h : lf n = 0) : upd (lfd lf sl) n t = lfd lf (upd sl n t) := by
  funext k
  unfold lfd upd
  by_cases hc : k = n
  · simp [hc, h]
  · simp [hc]
theorem lift_cd {ns : Nat} {lf sl : Nat → Int32} {d : Nat} {k : Int32} (h : d < 2 ^ 31) : cdLift ns lf sl d k = cdLiftA ns (lfd lf sl) d k := by
  unfold cdLift cdLiftA
  rw [frc_lfd h]
  by_cases hc : lfd lf sl (ix k) < nI d <;> simp [hc]
def RelD (S : SA) (M : SM) : Prop :=
  (M.1 1 = S.1 0 ∧ M.1 2 = S.1 1 ∧ M.1 3 = S.1 2 ∧ M.1 4 = S.1 3 ∧ M.1 5 = S.1 4 ∧ M.1 6 = S.1 6 ∧ M.1 7 = S.1 8 ∧ M.1 8 = S.1 7 ∧ M.1 9 = S.1 9) ∧
  (M.2 0 = S.2.1 2 ∧ M.2 1 = S.2.1 4 ∧ M.2 2 = S.2.1 5 ∧ M.2 3 = S.2.1 6 ∧ M.2 4 = S.2.1 7 ∧ M.2 5 = S.2.1 8 ∧ M.2 6 = S.2.1 9 ∧ M.2 7 = S.2.1 10 ∧ S.2.1 11 = lfd (M.2 17) (M.2 8) ∧ ∀ k, S.1 3 ≤ k → M.2 17 k = 0) ∧
  (M.2 12 = S.2.1 15 ∧ M.2 13 = S.2.1 16 ∧ M.2 20 = S.2.1 17 ∧ M.2 14 = S.2.1 18 ∧ M.2 15 = S.2.1 0)
def RelT (S : SA) : Prop :=
  (∀ k, k < S.1 1 → S.2.1 3 k = nI (idxN (S.2.1 2) k)) ∧ (∀ d, d < 8 → S.2.1 1 d = nI (fb_ct (fun k => decide (S.2.1 2 k = nI d)) (S.1 1))) ∧ (∀ k, k < S.1 1 → ∃ j, j < S.1 0 ∧ S.2.1 2 k = nI j)
def RelJ (S : SA) (M : SM) : Prop :=
  ∀ j, j < S.1 4 → (ix (M.2 9 j) < S.1 1 ∧ ix (M.2 10 j) < S.1 1 ∧ ix (M.2 11 j) < S.1 1) ∧ mk (S.2.2 1 j) = 2 ^ ix (M.2 9 j) ||| 2 ^ ix (M.2 10 j) ∧ mk (S.2.2 2 j) = 2 ^ ix (M.2 11 j)
def RelH (S : SA) (M : SM) : Prop :=
  ∀ a, a < 5 → rowB (M.2 18) (40 * a) 40 (mk (S.2.2 0 a)) ∧ mk (S.2.2 0 a) < 2 ^ S.1 1 ∧ M.2 16 a = nI (fb_ct (fun k => (lgA S a).testBit k) 40) ∧ cloA S (lgA S a) = mk (S.2.2 0 a)
def RelQ (S : SA) : Prop := (∀ k, k < S.1 6 → S.2.1 17 k = nI 119 ∨ S.2.1 17 k = nI 97 ∨ S.2.1 17 k = nI 120) ∧ (∀ k, k < S.1 6 → ix (S.2.1 15 k) < 5)
/-- class and model stand for the same -/
def Rel (S : SA) (M : SM) : Prop := IA S ∧ JA S ∧ RelD S M ∧ RelT S ∧ RelJ S M ∧ RelH S M ∧ RelQ S
theorem Rel.im {S : SA} {M : SM} (h : Rel S M) : IM M := by
  obtain ⟨hI, -, ⟨⟨d1, d2, d3, d4, d5, d6, d7, d8, d9⟩, -, ⟨q1, -⟩⟩, -, hJ, -, hQ⟩ := h
  obtain ⟨i0, i1, i2, i3, i4, i5, i6, i7, i8, -⟩ := hI
  refine ⟨by omega, by omega, by omega, by omega, by omega, by omega, by omega, by omega, fun j hj => ?_, fun k hk => ?_⟩
  · have h1 := (hJ j (by omega)).1
    rw [d2]; exact h1
  · rw [q1]; exact hQ.2 k (by omega)
theorem Rel.rows {S : SA} {M : SM} (h : Rel S M) : ∀ i, i < 5 → rowB (M.2 18) (40 * i) 40 ((fun a => mk (S.2.2 0 a)) i) := fun i hi => (h.2.2.2.2.2.1 i hi).1
theorem st_nar {z : Int32} (h : z = nI 119 ∨ z = nI 97 ∨ z = nI 120) : narrow .char (.int z) = .int z := by
  rcases h with rfl | rfl | rfl <;> rfl
theorem Rel.nar {S : SA} {M : SM} (h : Rel S M) : ∀ j, j < S.1 6 → narrow .char (.int (S.2.1 17 j)) = .int (S.2.1 17 j) := fun j hj => st_nar (h.2.2.2.2.2.2.1 j hj)
theorem Rel.narM {S : SA} {M : SM} (h : Rel S M) : ∀ j, j < M.1 6 → narrow .char (.int (M.2 20 j)) = .int (M.2 20 j) := by
  intro j hj
  obtain ⟨-, -, ⟨⟨-, -, -, -, -, d6, -⟩, -, ⟨-, -, q3, -⟩⟩, -, -, -, hQ⟩ := h
  rw [q3]; exact st_nar (hQ.1 j (by omega))
