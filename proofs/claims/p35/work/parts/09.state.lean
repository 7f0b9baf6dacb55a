/-! what a state is: the class's cells, and the words for them -/
abbrev SA : Type := (Nat → Nat) × (Nat → Nat → Int32) × (Nat → Nat → Int64)
def sN (S : SA) (k v : Nat) : SA := (va_up S.1 k v, S.2.1, S.2.2)
def sI (S : SA) (k : Nat) (f : Nat → Int32) : SA := (S.1, va_up S.2.1 k f, S.2.2)
def sJ (S : SA) (k : Nat) (f : Nat → Int64) : SA := (S.1, S.2.1, va_up S.2.2 k f)

def wA (G : gG) (ad : Nat → Nat) (S : SA) : va_W := [(ad 0, .inr (9, [.ref (ad 1), .ref (ad 2), .ref (ad 3), .ref (ad 4), .ref (ad 5), .ref (ad 6), .ref (ad 7), .ref (ad 8), .int (nI (S.1 8)), .int (nI (S.1 7)), .long (lN (S.1 9))])), (ad 1, .inr (4, [.ref (ad 9), .ref (ad 10), .ref (ad 11), .ref (ad 12), .int (nI (S.1 0)), .int (nI (S.1 1))])), (ad 2, .inr (7, [.ref (ad 13), .ref (ad 14), .ref (ad 15), .int (nI (S.1 2))])), (ad 3, .inr (8, [.ref (ad 16), .ref (ad 17), .ref (ad 18), .ref (ad 19), .int (nI (S.1 3))])), (ad 4, .inr (3, [.ref (ad 20), .ref (ad 21), .int (nI (S.1 4))])), (ad 5, .inr (5, [.ref (ad 22), .ref (ad 23), .int (nI (S.1 5))])), (ad 6, .inr (6, [.ref (ad 24), .ref (ad 25), .ref (ad 26), .ref (ad 27), .int (nI (S.1 6))])), (ad 7, .inl (G.2.2.1, 5, .inr (.inl (S.2.2 0)))), (ad 8, .inl (G.2.1, 5, .inl (S.2.1 0))), (ad 9, .inl (G.2.1, 8, .inl (S.2.1 1))), (ad 10, .inl (G.2.1, 40, .inl (S.2.1 2))), (ad 11, .inl (G.2.1, 40, .inl (S.2.1 3))), (ad 12, .inl (G.2.1, 40, .inl (S.2.1 4))), (ad 13, .inl (G.2.1, 8, .inl (S.2.1 5))), (ad 14, .inl (G.2.1, 8, .inl (S.2.1 6))), (ad 15, .inl (G.2.1, 8, .inl (S.2.1 7))), (ad 16, .inl (G.2.1, 12, .inl (S.2.1 8))), (ad 17, .inl (G.2.1, 12, .inl (S.2.1 9))), (ad 18, .inl (G.2.1, 12, .inl (S.2.1 10))), (ad 19, .inl (G.2.1, 12, .inl (S.2.1 11))), (ad 20, .inl (G.2.2.1, 10, .inr (.inl (S.2.2 1)))), (ad 21, .inl (G.2.2.1, 10, .inr (.inl (S.2.2 2)))), (ad 22, .inl (G.2.1, 200, .inl (S.2.1 13))), (ad 23, .inl (G.2.1, 200, .inl (S.2.1 14))), (ad 24, .inl (G.2.1, 20, .inl (S.2.1 15))), (ad 25, .inl (G.2.1, 20, .inl (S.2.1 16))), (ad 26, .inl (G.2.2.2.2, 20, .inl (S.2.1 17))), (ad 27, .inl (G.2.1, 20, .inl (S.2.1 18)))]
def mk (z : Int64) : Nat := z.toBitVec.toNat
theorem lN_mk (z : Int64) : lN (mk z) = z := by
  unfold lN mk
  apply Int64.toBitVec_inj.mp
  simp
theorem mk_lN {n : Nat} (h : n < 2 ^ 64) : mk (lN n) = n := by
  unfold lN mk
  simp
  omega
def ix (v : Int32) : Nat := v.toBitVec.toNat
theorem nI_ix (v : Int32) : nI (ix v) = v := by
  unfold nI ix
  apply Int32.toBitVec_inj.mp
  simp
theorem ix_nI {n : Nat} (h : n < 2 ^ 32) : ix (nI n) = n := by
  unfold nI ix
  simp
  omega
def anyB (p : Nat → Bool) : Nat → Bool
  | 0 => false
  | n + 1 => anyB p n || p n
theorem anyB_t {p : Nat → Bool} {i : Nat} : ∀ {n : Nat}, i < n → p i = true → anyB p n = true
  | 0, h, _ => absurd h (Nat.not_lt_zero _)
  | n + 1, h, hp => by
    rcases Nat.lt_succ_iff_lt_or_eq.mp h with h | rfl
    · simp [anyB, anyB_t h hp]
    · simp [anyB, hp]
theorem anyB_s {p : Nat → Bool} {i : Nat} (h : anyB p i = false) (hp : p i = false) : anyB p (i + 1) = false := by simp [anyB, h, hp]
theorem anyB_c {p q : Nat → Bool} : ∀ {n : Nat}, (∀ k, k < n → p k = q k) → anyB p n = anyB q n
  | 0, _ => rfl
  | n + 1, h => by rw [anyB, anyB, anyB_c (fun k hk => h k (Nat.lt_succ_of_lt hk)), h n (Nat.lt_succ_self n)]
def fstB (p : Nat → Bool) : Nat → Option Nat
  | 0 => none
  | n + 1 => match fstB p n with | some k => some k | none => if p n then some n else none
theorem ct_t {p : Nat → Bool} {i : Nat} (h : p i = true) : fb_ct p (i + 1) = fb_ct p i + 1 := by rw [fb_ct_succ, if_pos h]
theorem ct_f {p : Nat → Bool} {i : Nat} (h : p i = false) : fb_ct p (i + 1) = fb_ct p i := by rw [fb_ct_succ, if_neg (by simp [h])]; rfl
theorem nar_b (b : Bool) : narrow .boolean (.int (bI b)) = .int (bI b) := by cases b <;> rfl
theorem bI_t {b : Bool} (h : b = true) : nI 1 = bI b := by rw [h]; rfl
theorem bI_f {b : Bool} (h : b = false) : nI 0 = bI b := by rw [h]; rfl
def inB (x lo hi : Int32) : Bool := !decide (x < lo) && !decide (hi < x)
def inR (x : Int32) (n : Nat) : Bool := !decide (x < 0) && decide (x < nI n)
theorem inR_of {x : Int32} {n : Nat} (hn : n < 2 ^ 31) (h : inR x n = true) : ∃ j : Nat, j < n ∧ x = nI j := by
  simp only [inR, Bool.and_eq_true, Bool.not_eq_true', decide_eq_false_iff_not, decide_eq_true_eq] at h
  obtain ⟨j, hj, rfl⟩ := nI_of h.1
  exact ⟨j, (nI_ltI hj hn).mp h.2, rfl⟩
theorem inR_nI {j n : Nat} (hn : n < 2 ^ 31) (h : j < n) : inR (nI j) n = true := by
  simp only [inR, Bool.and_eq_true, Bool.not_eq_true', decide_eq_false_iff_not, decide_eq_true_eq]
  exact ⟨nI_pos (Nat.lt_trans h hn), nI_lt h hn⟩
section YG
variable {p : Program} {l : Launch} {e : Env} {R : Room} {s : State} {m : MethodId} {args : Array Value} {below : List Frame} {meth : Method} {c : Code} {cc : ByteArray} {own : String} {nL : Nat} {G : gG} {B0 : Nat} {Q : State → Prop} {pc pc' : Nat} {L L' : List (Nat × Value)} {st rest : List Value} {w w' : va_W} {cs ss : Nat}
theorem yq (h : ∀ QQ : State → Prop, QQ = Q → YY p l e R s m args below meth c G B0 nL QQ pc L st w cs ss) : YY p l e R s m args below meth c G B0 nL Q pc L st w cs ss := h Q rfl
theorem yy_mk {z : Int64} (k : YY p l e R s m args below meth c G B0 nL Q pc L (.long (lN (mk z)) :: st) w cs ss) : YY p l e R s m args below meth c G B0 nL Q pc L (.long z :: st) w cs ss := by rw [lN_mk] at k; exact k
theorem yy_ix {z : Int32} (k : YY p l e R s m args below meth c G B0 nL Q pc L (.int (nI (ix z)) :: st) w cs ss) : YY p l e R s m args below meth c G B0 nL Q pc L (.int z :: st) w cs ss := by rw [nI_ix] at k; exact k
theorem yy_eqi {z z' : Int32} (h : z = z') (k : YY p l e R s m args below meth c G B0 nL Q pc L (.int z' :: st) w cs ss) : YY p l e R s m args below meth c G B0 nL Q pc L (.int z :: st) w cs ss := by rw [h]; exact k
theorem lg_0 {a b : Nat} (ha : a < 2 ^ 63) (hb : b < 2 ^ 63) : lg_cmp (lN a) (lN b) = 0 ↔ a = b := by
  rw [← fb_lN_inj ha hb]
  unfold lg_cmp
  constructor
  · intro h
    split at h
    · exact absurd h (by decide)
    · split at h
      · assumption
      · exact absurd h (by decide)
  · intro h
    rw [h]
    simp
theorem yl_if_ne (C : CX p s m args meth c cc own nL G B0) {a b : Nat} (ha : a < 2 ^ 63) (hb : b < 2 ^ 63) {off : Int} {tgt : Nat} (hd : decode cc pc = .ok (.ifCond .ne off, 3)) (hn : pc + 3 = pc') (ht : (pc : Int) + off = (tgt : Int)) (kt : ¬ a = b → YY p l e R s m args below meth c G B0 nL Q tgt L st w cs ss) (kf : a = b → YY p l e R s m args below meth c G B0 nL Q pc' L st w cs ss) : YY p l e R s m args below meth c G B0 nL Q pc L (.int (lg_cmp (lN a) (lN b)) :: st) w cs ss :=
  yy_if_ne C hd hn ht (fun q => kt (fun z => q ((lg_0 ha hb).mpr z))) (fun q => kf ((lg_0 ha hb).mp q))
theorem yl_if_eq (C : CX p s m args meth c cc own nL G B0) {a b : Nat} (ha : a < 2 ^ 63) (hb : b < 2 ^ 63) {off : Int} {tgt : Nat} (hd : decode cc pc = .ok (.ifCond .eq off, 3)) (hn : pc + 3 = pc') (ht : (pc : Int) + off = (tgt : Int)) (kt : a = b → YY p l e R s m args below meth c G B0 nL Q tgt L st w cs ss) (kf : ¬ a = b → YY p l e R s m args below meth c G B0 nL Q pc' L st w cs ss) : YY p l e R s m args below meth c G B0 nL Q pc L (.int (lg_cmp (lN a) (lN b)) :: st) w cs ss :=
  yy_if_eq C hd hn ht (fun q => kt ((lg_0 ha hb).mp q)) (fun q => kf (fun z => q ((lg_0 ha hb).mpr z)))
end YG
