/-- what is carried beside the tables' words -/
def EV (B0 : Nat) (U : State) (H : Heap) : Prop :=
  vx_Zq Bundle.tN "UNASSIGNED_STACK" Bundle.steD (fun q => B0 ≤ q) U H ∧ vx_Zq Bundle.tN "SUPPRESSED_SENTINEL" Bundle.listD (fun q => B0 ≤ q) U H ∧ (∀ q ∈ eStr, ∃ a, vk_R q.1 q.2.1 q.2.2 a U) ∧ (∀ q ∈ eNest, va_Nw (.methodLinkNest q.1 q.2.1 q.2.2.1 q.2.2.2) U) ∧ (∀ q ∈ eCast, va_Nw (.castable q.1 q.2) U) ∧ (∀ q ∈ eNc, va_Nc q.1 q.2 U) ∧ (∀ y ∈ eDecl, va_Nw (.declares y) U)
theorem EV.warm {B0 : Nat} {s U : State} {H : Heap} (hW : s.WarmedH U.vm) (h : EV B0 s H) : EV B0 U H := ⟨vx_Zq.moved hW.alike h.1, vx_Zq.moved hW.alike h.2.1, fun q hq => (h.2.2.1 q hq).imp fun _ ha => ha.warm hW, fun q hq => va_Nw.warmM hW (h.2.2.2.1 q hq), fun q hq => va_Nw.warmC hW (h.2.2.2.2.1 q hq), fun q hq => va_Nc.moved hW.alike (h.2.2.2.2.2.1 q hq), fun y hy => va_Nw.warmD hW (h.2.2.2.2.2.2 y hy)⟩
theorem EV.kept {B0 : Nat} {U : State} {H H1 : Heap} (h : EV B0 U H) (hq : ∀ a : Nat, a < H.size → ¬ B0 ≤ a → H1[a]? = H[a]?) : EV B0 U H1 := ⟨h.1.kept hq, h.2.1.kept hq, h.2.2⟩
/-- a contract's start -/
def PR (G : gG) (B0 : Nat) (w : va_W) (U : State) : Prop := B0 ≤ U.heap.size ∧ va_P G.1 vwCl w U.heap ∧ va_K G.1 vwCl (gTy G) U ∧ va_D (fun q => B0 ≤ q) w ∧ EV B0 U U.heap
theorem PR.blind {G : gG} {B0 : Nat} {w : va_W} {av : List Value} : FrameBlind (va_Pc av (PR G B0 w)) := fun a U g mk h => by
  obtain ⟨h1, h2, h3, h4, h5, h6⟩ := h
  exact ⟨h1, h2, h3, va_K.moved (u := U) (U := U.calling g mk a) (Vm.Alike.refl U.vm) h4, h5, EV.warm (s := U) (U := U.calling g mk a) (State.WarmedH.refl U) h6⟩
theorem pr_of {G : gG} {B0 : Nat} {w : va_W} {s U : State} {H : Heap} {locs : List Loc} (hB : B0 ≤ s.heap.size) (hK : va_K G.1 vwCl (gTy G) s) (hE : EV B0 s s.heap) (hP : va_P G.1 vwCl w H) (hD : va_D (fun q => B0 ≤ q) w) (hS : va_S (fun q => B0 ≤ q) s.heap H locs) (hU : U.heap = H) (hW : s.WarmedH U.vm) : PR G B0 w U :=
  ⟨by rw [hU]; exact Nat.le_trans hB hS.1, by rw [hU]; exact hP, va_K.moved hW.alike hK, hD, by rw [hU]; exact EV.warm hW (hE.kept hS.2.1)⟩
/-- what holds all through a method's body -/
def CX (p : Program) (s : State) (m : MethodId) (args : Array Value) (meth : Method) (c : Code) (cc : ByteArray) (own : String) (nL : Nat) (G : gG) (B0 : Nat) : Prop :=
  p.tables.exec = Jvm.exec ∧ c.code = cc ∧ c.maxLocals = nL ∧ s.vm.findClass own = some m.cls ∧ (∀ w ∈ WG, w.before args s = true) ∧ va_K G.1 vwCl (gTy G) s ∧ EV B0 s s.heap ∧ B0 ≤ s.heap.size ∧ meth.locks = false
/-- the judgement: at pc, with these locals, this stack, this world -/
def YY (p : Program) (l : Launch) (e : Env) (R : Room) (s : State) (m : MethodId) (args : Array Value) (below : List Frame) (meth : Method) (c : Code) (G : gG) (B0 nL : Nat) (Q : State → Prop) (pc : Nat) (L : List (Nat × Value)) (st : List Value) (w : va_W) (cs ss : Nat) : Prop :=
  ∀ (H : Heap) (locs : List Loc) (ls : Array Slot), lv_has ls nL L → va_P G.1 vwCl w H → va_D (fun q => B0 ≤ q) w → va_S (fun q => B0 ≤ q) s.heap H locs → W p l e R s m args below meth c H locs cs ss Q (F0 m pc ls st)
/-- the same, with an exception of the class E thrown by a call at pc -/
def YX (p : Program) (l : Launch) (e : Env) (R : Room) (s : State) (m : MethodId) (args : Array Value) (below : List Frame) (meth : Method) (c : Code) (G : gG) (B0 nL : Nat) (Q : State → Prop) (pc : Nat) (L : List (Nat × Value)) (st : List Value) (w : va_W) (cs ss : Nat) (E : String) : Prop :=
  ∀ (H : Heap) (locs : List Loc) (ls : Array Slot) (ce : Cell) (q : Addr), lv_has ls nL L → va_P G.1 vwCl w H → va_D (fun q => B0 ≤ q) w → va_S (fun q => B0 ≤ q) s.heap H locs → H[q]? = some ce → ce.vm = .none → s.vm.findClass E = some ce.cls → vx_W p l e R s m args below meth c H locs cs ss Q (F0 m pc ls st) q
def bI (b : Bool) : Int32 := if b then 1 else 0
theorem bI_eq {b : Bool} (h : bI b = 0) : b = false := by cases b <;> first | rfl | exact absurd h (by decide)
theorem bI_ne {b : Bool} (h : ¬ bI b = 0) : b = true := by cases b <;> first | rfl | exact absurd rfl h
theorem nI_31 {n a : Nat} (h : n < a) (h2 : a < 2147483648) : n < 2 ^ 31 := Nat.lt_trans h h2
section YR
variable {p : Program} {l : Launch} {e : Env} {R : Room} {s : State} {m : MethodId} {args : Array Value} {below : List Frame} {meth : Method} {c : Code} {cc : ByteArray} {own : String} {nL : Nat} {G : gG} {B0 : Nat} {Q : State → Prop} {pc pc' : Nat} {L L' : List (Nat × Value)} {st rest : List Value} {w w' : va_W} {cs ss : Nat}
theorem yy_iconst (C : CX p s m args meth c cc own nL G B0) {n : Int} {v : Int32} (hd : decode cc pc = .ok (.iconst n, 1)) (hn : pc + 1 = pc') (hv : Int32.ofInt n = v) (k : YY p l e R s m args below meth c G B0 nL Q (pc') (L) (.int v :: st) (w) (cs) (ss)) : YY p l e R s m args below meth c G B0 nL Q (pc) (L) (st) (w) (cs) (ss) := by
  subst hn
  exact fun H locs ls hl hP hD hS => lv_iconst C.1 C.2.1 hd hv (k H locs ls hl hP hD hS)
theorem yy_bipush (C : CX p s m args meth c cc own nL G B0) {n : Int} {v : Int32} (hd : decode cc pc = .ok (.bipush n, 2)) (hn : pc + 2 = pc') (hv : (Int8.ofInt n).toInt32 = v) (k : YY p l e R s m args below meth c G B0 nL Q (pc') (L) (.int v :: st) (w) (cs) (ss)) : YY p l e R s m args below meth c G B0 nL Q (pc) (L) (st) (w) (cs) (ss) := by
  subst hn
  exact fun H locs ls hl hP hD hS => lv_bipush C.1 C.2.1 hd hv (k H locs ls hl hP hD hS)
theorem yy_sipush (C : CX p s m args meth c cc own nL G B0) {n : Int} {v : Int32} (hd : decode cc pc = .ok (.sipush n, 3)) (hn : pc + 3 = pc') (hv : (Int16.ofInt n).toInt32 = v) (k : YY p l e R s m args below meth c G B0 nL Q (pc') (L) (.int v :: st) (w) (cs) (ss)) : YY p l e R s m args below meth c G B0 nL Q (pc) (L) (st) (w) (cs) (ss) := by
  subst hn
  exact fun H locs ls hl hP hD hS => lv_sipush C.1 C.2.1 hd hv (k H locs ls hl hP hD hS)
theorem yy_lconst (C : CX p s m args meth c cc own nL G B0) {n : Fin 2} {v : Int64} (hd : decode cc pc = .ok (.lconst n, 1)) (hn : pc + 1 = pc') (hv : Int64.ofNat (n : Nat) = v) (k : YY p l e R s m args below meth c G B0 nL Q (pc') (L) (.long v :: st) (w) (cs) (ss)) : YY p l e R s m args below meth c G B0 nL Q (pc) (L) (st) (w) (cs) (ss) := by
  subst hn
  exact fun H locs ls hl hP hD hS => lv_lconst C.1 C.2.1 hd hv (k H locs ls hl hP hD hS)
theorem yy_fconst0 (C : CX p s m args meth c cc own nL G B0)  (hd : decode cc pc = .ok (.fconst 0, 1)) (hn : pc + 1 = pc')  (k : YY p l e R s m args below meth c G B0 nL Q (pc') (L) (.float FP.fconst0 :: st) (w) (cs) (ss)) : YY p l e R s m args below meth c G B0 nL Q (pc) (L) (st) (w) (cs) (ss) := by
  subst hn
  exact fun H locs ls hl hP hD hS => lv_fconst0 C.1 C.2.1 hd  (k H locs ls hl hP hD hS)
theorem yy_ldc2 (C : CX p s m args meth c cc own nL G B0) {i : Nat} {v : Int64} (hd : decode cc pc = .ok (.ldc2_w i, 3)) (hn : pc + 3 = pc') (hc : Cond.constantLong own i v ∈ WG) (k : YY p l e R s m args below meth c G B0 nL Q (pc') (L) (.long v :: st) (w) (cs) (ss)) : YY p l e R s m args below meth c G B0 nL Q (pc) (L) (st) (w) (cs) (ss) := by
  subst hn
  exact fun H locs ls hl hP hD hS => lv_ldc2 C.1 C.2.1 C.2.2.2.1 (C.2.2.2.2.1 _ hc) hd (k H locs ls hl hP hD hS)
theorem yy_iload (C : CX p s m args meth c cc own nL G B0) {i : Nat} {x : Int32} (j : Nat) (hd : decode cc pc = .ok (.iload i, 2)) (hn : pc + 2 = pc') (hj : L[j]? = some (i, .int x)) (k : YY p l e R s m args below meth c G B0 nL Q (pc') (L) (.int x :: st) (w) (cs) (ss)) : YY p l e R s m args below meth c G B0 nL Q (pc) (L) (st) (w) (cs) (ss) := by
  subst hn
  exact fun H locs ls hl hP hD hS => lv_iload C.1 C.2.1 hd (lv_at hl j hj) (k H locs ls hl hP hD hS)
theorem yy_iload_n (C : CX p s m args meth c cc own nL G B0) {i : Nat} {q : Fin 4} {x : Int32} (j : Nat) (hd : decode cc pc = .ok (.iload_n q, 1)) (hn : pc + 1 = pc') (hi : (q : Nat) = i) (hj : L[j]? = some (i, .int x)) (k : YY p l e R s m args below meth c G B0 nL Q (pc') (L) (.int x :: st) (w) (cs) (ss)) : YY p l e R s m args below meth c G B0 nL Q (pc) (L) (st) (w) (cs) (ss) := by
  subst hn
  exact fun H locs ls hl hP hD hS => lv_iload_n C.1 C.2.1 hd hi (lv_at hl j hj) (k H locs ls hl hP hD hS)
theorem yy_lload (C : CX p s m args meth c cc own nL G B0) {i : Nat} {x : Int64} (j : Nat) (hd : decode cc pc = .ok (.lload i, 2)) (hn : pc + 2 = pc') (hj : L[j]? = some (i, .long x)) (k : YY p l e R s m args below meth c G B0 nL Q (pc') (L) (.long x :: st) (w) (cs) (ss)) : YY p l e R s m args below meth c G B0 nL Q (pc) (L) (st) (w) (cs) (ss) := by
  subst hn
  exact fun H locs ls hl hP hD hS => lv_lload C.1 C.2.1 hd (lv_at hl j hj) (k H locs ls hl hP hD hS)
theorem yy_lload_n (C : CX p s m args meth c cc own nL G B0) {i : Nat} {q : Fin 4} {x : Int64} (j : Nat) (hd : decode cc pc = .ok (.lload_n q, 1)) (hn : pc + 1 = pc') (hi : (q : Nat) = i) (hj : L[j]? = some (i, .long x)) (k : YY p l e R s m args below meth c G B0 nL Q (pc') (L) (.long x :: st) (w) (cs) (ss)) : YY p l e R s m args below meth c G B0 nL Q (pc) (L) (st) (w) (cs) (ss) := by
  subst hn
  exact fun H locs ls hl hP hD hS => lv_lload_n C.1 C.2.1 hd hi (lv_at hl j hj) (k H locs ls hl hP hD hS)
theorem yy_aload (C : CX p s m args meth c cc own nL G B0) {i : Nat} {x : Nat} (j : Nat) (hd : decode cc pc = .ok (.aload i, 2)) (hn : pc + 2 = pc') (hj : L[j]? = some (i, .ref x)) (k : YY p l e R s m args below meth c G B0 nL Q (pc') (L) (.ref x :: st) (w) (cs) (ss)) : YY p l e R s m args below meth c G B0 nL Q (pc) (L) (st) (w) (cs) (ss) := by
  subst hn
  exact fun H locs ls hl hP hD hS => lv_aload C.1 C.2.1 hd (lv_at hl j hj) (k H locs ls hl hP hD hS)
theorem yy_aload_n (C : CX p s m args meth c cc own nL G B0) {i : Nat} {q : Fin 4} {x : Nat} (j : Nat) (hd : decode cc pc = .ok (.aload_n q, 1)) (hn : pc + 1 = pc') (hi : (q : Nat) = i) (hj : L[j]? = some (i, .ref x)) (k : YY p l e R s m args below meth c G B0 nL Q (pc') (L) (.ref x :: st) (w) (cs) (ss)) : YY p l e R s m args below meth c G B0 nL Q (pc) (L) (st) (w) (cs) (ss) := by
  subst hn
  exact fun H locs ls hl hP hD hS => lv_aload_n C.1 C.2.1 hd hi (lv_at hl j hj) (k H locs ls hl hP hD hS)
theorem yy_fload (C : CX p s m args meth c cc own nL G B0) {i : Nat} {x : UInt32} (j : Nat) (hd : decode cc pc = .ok (.fload i, 2)) (hn : pc + 2 = pc') (hj : L[j]? = some (i, .float x)) (k : YY p l e R s m args below meth c G B0 nL Q (pc') (L) (.float x :: st) (w) (cs) (ss)) : YY p l e R s m args below meth c G B0 nL Q (pc) (L) (st) (w) (cs) (ss) := by
  subst hn
  exact fun H locs ls hl hP hD hS => lv_fload C.1 C.2.1 hd (lv_at hl j hj) (k H locs ls hl hP hD hS)
theorem yy_istore (C : CX p s m args meth c cc own nL G B0) {i : Nat} {x : Int32} (hd : decode cc pc = .ok (.istore i, 2)) (hn : pc + 2 = pc') (hi : i < nL) (hL : (i, Value.int x) :: L.filter (fun q => !(q.1 == i) && !(q.1 + 1 == i && q.2.category == 2)) = L') (k : YY p l e R s m args below meth c G B0 nL Q (pc') (L') (st) (w) (cs) (ss)) : YY p l e R s m args below meth c G B0 nL Q (pc) (L) (.int x :: st) (w) (cs) (ss) := by
  subst hn
  exact fun H locs ls hl hP hD hS => lv_istore C.1 C.2.1 hd hl hi hL (fun ls2 hl2 => k H locs ls2 hl2 hP hD hS)
theorem yy_istore_n (C : CX p s m args meth c cc own nL G B0) {i : Nat} {q : Fin 4} {x : Int32} (hd : decode cc pc = .ok (.istore_n q, 1)) (hn : pc + 1 = pc') (hq : (q : Nat) = i) (hi : i < nL) (hL : (i, Value.int x) :: L.filter (fun q => !(q.1 == i) && !(q.1 + 1 == i && q.2.category == 2)) = L') (k : YY p l e R s m args below meth c G B0 nL Q (pc') (L') (st) (w) (cs) (ss)) : YY p l e R s m args below meth c G B0 nL Q (pc) (L) (.int x :: st) (w) (cs) (ss) := by
  subst hn
  exact fun H locs ls hl hP hD hS => lv_istore_n C.1 C.2.1 hd hq hl hi hL (fun ls2 hl2 => k H locs ls2 hl2 hP hD hS)
theorem yy_lstore (C : CX p s m args meth c cc own nL G B0) {i : Nat} {x : Int64} (hd : decode cc pc = .ok (.lstore i, 2)) (hn : pc + 2 = pc') (hi : i + 1 < nL) (hL : (i, Value.long x) :: L.filter (fun q => !(q.1 == i) && (!(q.1 == i + 1) && !(q.1 + 1 == i && q.2.category == 2))) = L') (k : YY p l e R s m args below meth c G B0 nL Q (pc') (L') (st) (w) (cs) (ss)) : YY p l e R s m args below meth c G B0 nL Q (pc) (L) (.long x :: st) (w) (cs) (ss) := by
  subst hn
  exact fun H locs ls hl hP hD hS => lv_lstore C.1 C.2.1 hd hl hi hL (fun ls2 hl2 => k H locs ls2 hl2 hP hD hS)
theorem yy_lstore_n (C : CX p s m args meth c cc own nL G B0) {i : Nat} {q : Fin 4} {x : Int64} (hd : decode cc pc = .ok (.lstore_n q, 1)) (hn : pc + 1 = pc') (hq : (q : Nat) = i) (hi : i + 1 < nL) (hL : (i, Value.long x) :: L.filter (fun q => !(q.1 == i) && (!(q.1 == i + 1) && !(q.1 + 1 == i && q.2.category == 2))) = L') (k : YY p l e R s m args below meth c G B0 nL Q (pc') (L') (st) (w) (cs) (ss)) : YY p l e R s m args below meth c G B0 nL Q (pc) (L) (.long x :: st) (w) (cs) (ss) := by
  subst hn
  exact fun H locs ls hl hP hD hS => lv_lstore_n C.1 C.2.1 hd hq hl hi hL (fun ls2 hl2 => k H locs ls2 hl2 hP hD hS)
theorem yy_astore (C : CX p s m args meth c cc own nL G B0) {i : Nat} {x : Nat} (hd : decode cc pc = .ok (.astore i, 2)) (hn : pc + 2 = pc') (hi : i < nL) (hL : (i, Value.ref x) :: L.filter (fun q => !(q.1 == i) && !(q.1 + 1 == i && q.2.category == 2)) = L') (k : YY p l e R s m args below meth c G B0 nL Q (pc') (L') (st) (w) (cs) (ss)) : YY p l e R s m args below meth c G B0 nL Q (pc) (L) (.ref x :: st) (w) (cs) (ss) := by
  subst hn
  exact fun H locs ls hl hP hD hS => lv_astore C.1 C.2.1 hd hl hi hL (fun ls2 hl2 => k H locs ls2 hl2 hP hD hS)
theorem yy_astore_n (C : CX p s m args meth c cc own nL G B0) {i : Nat} {q : Fin 4} {x : Nat} (hd : decode cc pc = .ok (.astore_n q, 1)) (hn : pc + 1 = pc') (hq : (q : Nat) = i) (hi : i < nL) (hL : (i, Value.ref x) :: L.filter (fun q => !(q.1 == i) && !(q.1 + 1 == i && q.2.category == 2)) = L') (k : YY p l e R s m args below meth c G B0 nL Q (pc') (L') (st) (w) (cs) (ss)) : YY p l e R s m args below meth c G B0 nL Q (pc) (L) (.ref x :: st) (w) (cs) (ss) := by
  subst hn
  exact fun H locs ls hl hP hD hS => lv_astore_n C.1 C.2.1 hd hq hl hi hL (fun ls2 hl2 => k H locs ls2 hl2 hP hD hS)
theorem yy_fstore (C : CX p s m args meth c cc own nL G B0) {i : Nat} {x : UInt32} (hd : decode cc pc = .ok (.fstore i, 2)) (hn : pc + 2 = pc') (hi : i < nL) (hL : (i, Value.float x) :: L.filter (fun q => !(q.1 == i) && !(q.1 + 1 == i && q.2.category == 2)) = L') (k : YY p l e R s m args below meth c G B0 nL Q (pc') (L') (st) (w) (cs) (ss)) : YY p l e R s m args below meth c G B0 nL Q (pc) (L) (.float x :: st) (w) (cs) (ss) := by
  subst hn
  exact fun H locs ls hl hP hD hS => lv_fstore C.1 C.2.1 hd hl hi hL (fun ls2 hl2 => k H locs ls2 hl2 hP hD hS)
theorem yy_iinc (C : CX p s m args meth c cc own nL G B0) {i : Nat} {n : Int} {x v : Int32} (j : Nat) (hd : decode cc pc = .ok (.iinc i n, 3)) (hn : pc + 3 = pc') (hj : L[j]? = some (i, .int x)) (hv : x + Int32.ofInt n = v) (hi : i < nL) (hL : (i, Value.int v) :: L.filter (fun q => !(q.1 == i) && !(q.1 + 1 == i && q.2.category == 2)) = L') (k : YY p l e R s m args below meth c G B0 nL Q (pc') (L') (st) (w) (cs) (ss)) : YY p l e R s m args below meth c G B0 nL Q (pc) (L) (st) (w) (cs) (ss) := by
  subst hn
  exact fun H locs ls hl hP hD hS => lv_iinc C.1 C.2.1 hd hl hj hv hi hL (fun ls2 hl2 => k H locs ls2 hl2 hP hD hS)
theorem yy_iadd (C : CX p s m args meth c cc own nL G B0) {x y v : Int32} (hd : decode cc pc = .ok (.iadd, 1)) (hn : pc + 1 = pc') (hv : x + y = v) (k : YY p l e R s m args below meth c G B0 nL Q (pc') (L) (.int v :: st) (w) (cs) (ss)) : YY p l e R s m args below meth c G B0 nL Q (pc) (L) (.int y :: .int x :: st) (w) (cs) (ss) := by
  subst hn; subst hv
  exact fun H locs ls hl hP hD hS => lv_iadd C.1 C.2.1 hd (k H locs ls hl hP hD hS)
theorem yy_isub (C : CX p s m args meth c cc own nL G B0) {x y v : Int32} (hd : decode cc pc = .ok (.isub, 1)) (hn : pc + 1 = pc') (hv : x - y = v) (k : YY p l e R s m args below meth c G B0 nL Q (pc') (L) (.int v :: st) (w) (cs) (ss)) : YY p l e R s m args below meth c G B0 nL Q (pc) (L) (.int y :: .int x :: st) (w) (cs) (ss) := by
  subst hn; subst hv
  exact fun H locs ls hl hP hD hS => lv_isub C.1 C.2.1 hd (k H locs ls hl hP hD hS)
theorem yy_imul (C : CX p s m args meth c cc own nL G B0) {x y v : Int32} (hd : decode cc pc = .ok (.imul, 1)) (hn : pc + 1 = pc') (hv : x * y = v) (k : YY p l e R s m args below meth c G B0 nL Q (pc') (L) (.int v :: st) (w) (cs) (ss)) : YY p l e R s m args below meth c G B0 nL Q (pc) (L) (.int y :: .int x :: st) (w) (cs) (ss) := by
  subst hn; subst hv
  exact fun H locs ls hl hP hD hS => lv_imul C.1 C.2.1 hd (k H locs ls hl hP hD hS)
theorem yy_iand (C : CX p s m args meth c cc own nL G B0) {x y v : Int32} (hd : decode cc pc = .ok (.iand, 1)) (hn : pc + 1 = pc') (hv : x &&& y = v) (k : YY p l e R s m args below meth c G B0 nL Q (pc') (L) (.int v :: st) (w) (cs) (ss)) : YY p l e R s m args below meth c G B0 nL Q (pc) (L) (.int y :: .int x :: st) (w) (cs) (ss) := by
  subst hn; subst hv
  exact fun H locs ls hl hP hD hS => lv_iand C.1 C.2.1 hd (k H locs ls hl hP hD hS)
theorem yy_ladd (C : CX p s m args meth c cc own nL G B0) {x y v : Int64} (hd : decode cc pc = .ok (.ladd, 1)) (hn : pc + 1 = pc') (hv : x + y = v) (k : YY p l e R s m args below meth c G B0 nL Q (pc') (L) (.long v :: st) (w) (cs) (ss)) : YY p l e R s m args below meth c G B0 nL Q (pc) (L) (.long y :: .long x :: st) (w) (cs) (ss) := by
  subst hn; subst hv
  exact fun H locs ls hl hP hD hS => lv_ladd C.1 C.2.1 hd (k H locs ls hl hP hD hS)
theorem yy_lsub (C : CX p s m args meth c cc own nL G B0) {x y v : Int64} (hd : decode cc pc = .ok (.lsub, 1)) (hn : pc + 1 = pc') (hv : x - y = v) (k : YY p l e R s m args below meth c G B0 nL Q (pc') (L) (.long v :: st) (w) (cs) (ss)) : YY p l e R s m args below meth c G B0 nL Q (pc) (L) (.long y :: .long x :: st) (w) (cs) (ss) := by
  subst hn; subst hv
  exact fun H locs ls hl hP hD hS => lv_lsub C.1 C.2.1 hd (k H locs ls hl hP hD hS)
theorem yy_land (C : CX p s m args meth c cc own nL G B0) {x y v : Int64} (hd : decode cc pc = .ok (.land, 1)) (hn : pc + 1 = pc') (hv : x &&& y = v) (k : YY p l e R s m args below meth c G B0 nL Q (pc') (L) (.long v :: st) (w) (cs) (ss)) : YY p l e R s m args below meth c G B0 nL Q (pc) (L) (.long y :: .long x :: st) (w) (cs) (ss) := by
  subst hn; subst hv
  exact fun H locs ls hl hP hD hS => lv_land C.1 C.2.1 hd (k H locs ls hl hP hD hS)
theorem yy_lor (C : CX p s m args meth c cc own nL G B0) {x y v : Int64} (hd : decode cc pc = .ok (.lor, 1)) (hn : pc + 1 = pc') (hv : x ||| y = v) (k : YY p l e R s m args below meth c G B0 nL Q (pc') (L) (.long v :: st) (w) (cs) (ss)) : YY p l e R s m args below meth c G B0 nL Q (pc) (L) (.long y :: .long x :: st) (w) (cs) (ss) := by
  subst hn; subst hv
  exact fun H locs ls hl hP hD hS => lv_lor C.1 C.2.1 hd (k H locs ls hl hP hD hS)
theorem yy_lxor (C : CX p s m args meth c cc own nL G B0) {x y v : Int64} (hd : decode cc pc = .ok (.lxor, 1)) (hn : pc + 1 = pc') (hv : x ^^^ y = v) (k : YY p l e R s m args below meth c G B0 nL Q (pc') (L) (.long v :: st) (w) (cs) (ss)) : YY p l e R s m args below meth c G B0 nL Q (pc) (L) (.long y :: .long x :: st) (w) (cs) (ss) := by
  subst hn; subst hv
  exact fun H locs ls hl hP hD hS => lv_lxor C.1 C.2.1 hd (k H locs ls hl hP hD hS)
theorem yy_lshl (C : CX p s m args meth c cc own nL G B0) {x v : Int64} {y : Int32} (hd : decode cc pc = .ok (.lshl, 1)) (hn : pc + 1 = pc') (hv : x <<< (y.toInt64 &&& 63) = v) (k : YY p l e R s m args below meth c G B0 nL Q (pc') (L) (.long v :: st) (w) (cs) (ss)) : YY p l e R s m args below meth c G B0 nL Q (pc) (L) (.int y :: .long x :: st) (w) (cs) (ss) := by
  subst hn
  exact fun H locs ls hl hP hD hS => lv_lshl C.1 C.2.1 hd hv (k H locs ls hl hP hD hS)
theorem yy_lushr (C : CX p s m args meth c cc own nL G B0) {x v : Int64} {y : Int32} (hd : decode cc pc = .ok (.lushr, 1)) (hn : pc + 1 = pc') (hv : (x.toUInt64 >>> (y.toInt64.toUInt64 &&& Int64.toUInt64 63)).toInt64 = v) (k : YY p l e R s m args below meth c G B0 nL Q (pc') (L) (.long v :: st) (w) (cs) (ss)) : YY p l e R s m args below meth c G B0 nL Q (pc) (L) (.int y :: .long x :: st) (w) (cs) (ss) := by
  subst hn
  exact fun H locs ls hl hP hD hS => lv_lushr C.1 C.2.1 hd hv (k H locs ls hl hP hD hS)
theorem yy_i2l (C : CX p s m args meth c cc own nL G B0) {x : Int32} {v : Int64} (hd : decode cc pc = .ok (.i2l, 1)) (hn : pc + 1 = pc') (hv : x.toInt64 = v) (k : YY p l e R s m args below meth c G B0 nL Q (pc') (L) (.long v :: st) (w) (cs) (ss)) : YY p l e R s m args below meth c G B0 nL Q (pc) (L) (.int x :: st) (w) (cs) (ss) := by
  subst hn
  exact fun H locs ls hl hP hD hS => lv_i2l C.1 C.2.1 hd hv (k H locs ls hl hP hD hS)
theorem yy_l2i (C : CX p s m args meth c cc own nL G B0) {x : Int64} {v : Int32} (hd : decode cc pc = .ok (.l2i, 1)) (hn : pc + 1 = pc') (hv : x.toInt32 = v) (k : YY p l e R s m args below meth c G B0 nL Q (pc') (L) (.int v :: st) (w) (cs) (ss)) : YY p l e R s m args below meth c G B0 nL Q (pc) (L) (.long x :: st) (w) (cs) (ss) := by
  subst hn
  exact fun H locs ls hl hP hD hS => lv_l2i C.1 C.2.1 hd hv (k H locs ls hl hP hD hS)
theorem yy_lcmp (C : CX p s m args meth c cc own nL G B0) {x y : Int64} (hd : decode cc pc = .ok (.lcmp, 1)) (hn : pc + 1 = pc')  (k : YY p l e R s m args below meth c G B0 nL Q (pc') (L) (.int (lg_cmp x y) :: st) (w) (cs) (ss)) : YY p l e R s m args below meth c G B0 nL Q (pc) (L) (.long y :: .long x :: st) (w) (cs) (ss) := by
  subst hn
  exact fun H locs ls hl hP hD hS => W.lcmp C.1 C.2.1 hd  (k H locs ls hl hP hD hS)
theorem yy_dcmp (C : CX p s m args meth c cc own nL G B0) {x y : UInt64} {op : CmpOp} (hd : decode cc pc = .ok (.dcmp op, 1)) (hn : pc + 1 = pc')  (k : YY p l e R s m args below meth c G B0 nL Q (pc') (L) (.int (Op.cmpValue (FP.dcmp x y) op) :: st) (w) (cs) (ss)) : YY p l e R s m args below meth c G B0 nL Q (pc) (L) (.double y :: .double x :: st) (w) (cs) (ss) := by
  subst hn
  exact fun H locs ls hl hP hD hS => lv_dcmp C.1 C.2.1 hd  (k H locs ls hl hP hD hS)
theorem yy_fcmp (C : CX p s m args meth c cc own nL G B0) {x y : UInt32} {op : CmpOp} (hd : decode cc pc = .ok (.fcmp op, 1)) (hn : pc + 1 = pc')  (k : YY p l e R s m args below meth c G B0 nL Q (pc') (L) (.int (Op.cmpValue (FP.fcmp x y) op) :: st) (w) (cs) (ss)) : YY p l e R s m args below meth c G B0 nL Q (pc) (L) (.float y :: .float x :: st) (w) (cs) (ss) := by
  subst hn
  exact fun H locs ls hl hP hD hS => lv_fcmp C.1 C.2.1 hd  (k H locs ls hl hP hD hS)
theorem yy_i2f (C : CX p s m args meth c cc own nL G B0) {x : Int32} (hd : decode cc pc = .ok (.i2f, 1)) (hn : pc + 1 = pc')  (k : YY p l e R s m args below meth c G B0 nL Q (pc') (L) (.float (FP.i2f x) :: st) (w) (cs) (ss)) : YY p l e R s m args below meth c G B0 nL Q (pc) (L) (.int x :: st) (w) (cs) (ss) := by
  subst hn
  exact fun H locs ls hl hP hD hS => lv_i2f C.1 C.2.1 hd  (k H locs ls hl hP hD hS)
theorem yy_fdiv (C : CX p s m args meth c cc own nL G B0) {x y : UInt32} (hd : decode cc pc = .ok (.fdiv, 1)) (hn : pc + 1 = pc') (hne : vf_n32 (FP.fdiv x y)) (k : YY p l e R s m args below meth c G B0 nL Q (pc') (L) (.float (FP.fdiv x y) :: st) (w) (cs) (ss)) : YY p l e R s m args below meth c G B0 nL Q (pc) (L) (.float y :: .float x :: st) (w) (cs) (ss) := by
  subst hn
  exact fun H locs ls hl hP hD hS => lv_fdiv C.1 C.2.1 hd hne (k H locs ls hl hP hD hS)
theorem yy_f2d (C : CX p s m args meth c cc own nL G B0) {x : UInt32} (hd : decode cc pc = .ok (.f2d, 1)) (hn : pc + 1 = pc') (hne : vf_n64 (FP.f2d x)) (k : YY p l e R s m args below meth c G B0 nL Q (pc') (L) (.double (FP.f2d x) :: st) (w) (cs) (ss)) : YY p l e R s m args below meth c G B0 nL Q (pc) (L) (.float x :: st) (w) (cs) (ss) := by
  subst hn
  exact fun H locs ls hl hP hD hS => lv_f2d C.1 C.2.1 hd hne (k H locs ls hl hP hD hS)
theorem yy_dup (C : CX p s m args meth c cc own nL G B0) {a : Value} (hd : decode cc pc = .ok (.dup, 1)) (hn : pc + 1 = pc') (ha : a.category = 1) (k : YY p l e R s m args below meth c G B0 nL Q (pc') (L) (a :: a :: st) (w) (cs) (ss)) : YY p l e R s m args below meth c G B0 nL Q (pc) (L) (a :: st) (w) (cs) (ss) := by
  subst hn
  exact fun H locs ls hl hP hD hS => lv_dup C.1 C.2.1 hd ha (k H locs ls hl hP hD hS)
theorem yy_dup_x1 (C : CX p s m args meth c cc own nL G B0) {a b : Value} (hd : decode cc pc = .ok (.dup_x1, 1)) (hn : pc + 1 = pc') (ha : a.category = 1) (hb : b.category = 1) (k : YY p l e R s m args below meth c G B0 nL Q (pc') (L) (a :: b :: a :: st) (w) (cs) (ss)) : YY p l e R s m args below meth c G B0 nL Q (pc) (L) (a :: b :: st) (w) (cs) (ss) := by
  subst hn
  exact fun H locs ls hl hP hD hS => lv_dup_x1 C.1 C.2.1 hd ha hb (k H locs ls hl hP hD hS)
theorem yy_dup2 (C : CX p s m args meth c cc own nL G B0) {a b : Value} (hd : decode cc pc = .ok (.dup2, 1)) (hn : pc + 1 = pc') (ha : a.category = 1) (hb : b.category = 1) (k : YY p l e R s m args below meth c G B0 nL Q (pc') (L) (a :: b :: a :: b :: st) (w) (cs) (ss)) : YY p l e R s m args below meth c G B0 nL Q (pc) (L) (a :: b :: st) (w) (cs) (ss) := by
  subst hn
  exact fun H locs ls hl hP hD hS => lv_dup2_11 C.1 C.2.1 hd ha hb (k H locs ls hl hP hD hS)
theorem yy_icmp_eq (C : CX p s m args meth c cc own nL G B0) {x y : Int32} {off : Int} {tgt : Nat} (hd : decode cc pc = .ok (.if_icmp .eq off, 3)) (hn : pc + 3 = pc') (ht : (pc : Int) + off = (tgt : Int)) (kt : x = y → YY p l e R s m args below meth c G B0 nL Q (tgt) (L) (st) (w) (cs) (ss)) (kf : ¬ x = y → YY p l e R s m args below meth c G B0 nL Q (pc') (L) (st) (w) (cs) (ss)) : YY p l e R s m args below meth c G B0 nL Q (pc) (L) (.int y :: .int x :: st) (w) (cs) (ss) := by
  subst hn
  exact fun H locs ls hl hP hD hS => lv_icmp_eq C.1 C.2.1 hd ht (fun q => kt q H locs ls hl hP hD hS) (fun q => kf q H locs ls hl hP hD hS)
theorem yy_icmp_ne (C : CX p s m args meth c cc own nL G B0) {x y : Int32} {off : Int} {tgt : Nat} (hd : decode cc pc = .ok (.if_icmp .ne off, 3)) (hn : pc + 3 = pc') (ht : (pc : Int) + off = (tgt : Int)) (kt : ¬ x = y → YY p l e R s m args below meth c G B0 nL Q (tgt) (L) (st) (w) (cs) (ss)) (kf : x = y → YY p l e R s m args below meth c G B0 nL Q (pc') (L) (st) (w) (cs) (ss)) : YY p l e R s m args below meth c G B0 nL Q (pc) (L) (.int y :: .int x :: st) (w) (cs) (ss) := by
  subst hn
  exact fun H locs ls hl hP hD hS => lv_icmp_ne C.1 C.2.1 hd ht (fun q => kt q H locs ls hl hP hD hS) (fun q => kf q H locs ls hl hP hD hS)
theorem yy_icmp_lt (C : CX p s m args meth c cc own nL G B0) {x y : Int32} {off : Int} {tgt : Nat} (hd : decode cc pc = .ok (.if_icmp .lt off, 3)) (hn : pc + 3 = pc') (ht : (pc : Int) + off = (tgt : Int)) (kt : x < y → YY p l e R s m args below meth c G B0 nL Q (tgt) (L) (st) (w) (cs) (ss)) (kf : ¬ x < y → YY p l e R s m args below meth c G B0 nL Q (pc') (L) (st) (w) (cs) (ss)) : YY p l e R s m args below meth c G B0 nL Q (pc) (L) (.int y :: .int x :: st) (w) (cs) (ss) := by
  subst hn
  exact fun H locs ls hl hP hD hS => lv_icmp_lt C.1 C.2.1 hd ht (fun q => kt q H locs ls hl hP hD hS) (fun q => kf q H locs ls hl hP hD hS)
theorem yy_icmp_ge (C : CX p s m args meth c cc own nL G B0) {x y : Int32} {off : Int} {tgt : Nat} (hd : decode cc pc = .ok (.if_icmp .ge off, 3)) (hn : pc + 3 = pc') (ht : (pc : Int) + off = (tgt : Int)) (kt : y ≤ x → YY p l e R s m args below meth c G B0 nL Q (tgt) (L) (st) (w) (cs) (ss)) (kf : ¬ y ≤ x → YY p l e R s m args below meth c G B0 nL Q (pc') (L) (st) (w) (cs) (ss)) : YY p l e R s m args below meth c G B0 nL Q (pc) (L) (.int y :: .int x :: st) (w) (cs) (ss) := by
  subst hn
  exact fun H locs ls hl hP hD hS => lv_icmp_ge C.1 C.2.1 hd ht (fun q => kt q H locs ls hl hP hD hS) (fun q => kf q H locs ls hl hP hD hS)
theorem yy_icmp_gt (C : CX p s m args meth c cc own nL G B0) {x y : Int32} {off : Int} {tgt : Nat} (hd : decode cc pc = .ok (.if_icmp .gt off, 3)) (hn : pc + 3 = pc') (ht : (pc : Int) + off = (tgt : Int)) (kt : y < x → YY p l e R s m args below meth c G B0 nL Q (tgt) (L) (st) (w) (cs) (ss)) (kf : ¬ y < x → YY p l e R s m args below meth c G B0 nL Q (pc') (L) (st) (w) (cs) (ss)) : YY p l e R s m args below meth c G B0 nL Q (pc) (L) (.int y :: .int x :: st) (w) (cs) (ss) := by
  subst hn
  exact fun H locs ls hl hP hD hS => lv_icmp_gt C.1 C.2.1 hd ht (fun q => kt q H locs ls hl hP hD hS) (fun q => kf q H locs ls hl hP hD hS)
theorem yy_icmp_le (C : CX p s m args meth c cc own nL G B0) {x y : Int32} {off : Int} {tgt : Nat} (hd : decode cc pc = .ok (.if_icmp .le off, 3)) (hn : pc + 3 = pc') (ht : (pc : Int) + off = (tgt : Int)) (kt : x ≤ y → YY p l e R s m args below meth c G B0 nL Q (tgt) (L) (st) (w) (cs) (ss)) (kf : ¬ x ≤ y → YY p l e R s m args below meth c G B0 nL Q (pc') (L) (st) (w) (cs) (ss)) : YY p l e R s m args below meth c G B0 nL Q (pc) (L) (.int y :: .int x :: st) (w) (cs) (ss) := by
  subst hn
  exact fun H locs ls hl hP hD hS => lv_icmp_le C.1 C.2.1 hd ht (fun q => kt q H locs ls hl hP hD hS) (fun q => kf q H locs ls hl hP hD hS)
theorem yn_icmp_eq (C : CX p s m args meth c cc own nL G B0) {a b : Nat} (ha : a < 2 ^ 31) (hb : b < 2 ^ 31) {off : Int} {tgt : Nat} (hd : decode cc pc = .ok (.if_icmp .eq off, 3)) (hn : pc + 3 = pc') (ht : (pc : Int) + off = (tgt : Int)) (kt : a = b → YY p l e R s m args below meth c G B0 nL Q (tgt) (L) (st) (w) (cs) (ss)) (kf : ¬ a = b → YY p l e R s m args below meth c G B0 nL Q (pc') (L) (st) (w) (cs) (ss)) : YY p l e R s m args below meth c G B0 nL Q (pc) (L) (.int (nI b) :: .int (nI a) :: st) (w) (cs) (ss) :=
  yy_icmp_eq C hd hn ht (fun q => kt ((nI_eq ha hb).mp q)) (fun q => kf (fun z => q ((nI_eq ha hb).mpr z)))
theorem yn_icmp_lt (C : CX p s m args meth c cc own nL G B0) {a b : Nat} (ha : a < 2 ^ 31) (hb : b < 2 ^ 31) {off : Int} {tgt : Nat} (hd : decode cc pc = .ok (.if_icmp .lt off, 3)) (hn : pc + 3 = pc') (ht : (pc : Int) + off = (tgt : Int)) (kt : a < b → YY p l e R s m args below meth c G B0 nL Q (tgt) (L) (st) (w) (cs) (ss)) (kf : ¬ a < b → YY p l e R s m args below meth c G B0 nL Q (pc') (L) (st) (w) (cs) (ss)) : YY p l e R s m args below meth c G B0 nL Q (pc) (L) (.int (nI b) :: .int (nI a) :: st) (w) (cs) (ss) :=
  yy_icmp_lt C hd hn ht (fun q => kt ((nI_ltI ha hb).mp q)) (fun q => kf (fun z => q ((nI_ltI ha hb).mpr z)))
theorem yn_icmp_ge (C : CX p s m args meth c cc own nL G B0) {a b : Nat} (ha : a < 2 ^ 31) (hb : b < 2 ^ 31) {off : Int} {tgt : Nat} (hd : decode cc pc = .ok (.if_icmp .ge off, 3)) (hn : pc + 3 = pc') (ht : (pc : Int) + off = (tgt : Int)) (kt : b ≤ a → YY p l e R s m args below meth c G B0 nL Q (tgt) (L) (st) (w) (cs) (ss)) (kf : ¬ b ≤ a → YY p l e R s m args below meth c G B0 nL Q (pc') (L) (st) (w) (cs) (ss)) : YY p l e R s m args below meth c G B0 nL Q (pc) (L) (.int (nI b) :: .int (nI a) :: st) (w) (cs) (ss) :=
  yy_icmp_ge C hd hn ht (fun q => kt ((nI_leI hb ha).mp q)) (fun q => kf (fun z => q ((nI_leI hb ha).mpr z)))
theorem yn_icmp_gt (C : CX p s m args meth c cc own nL G B0) {a b : Nat} (ha : a < 2 ^ 31) (hb : b < 2 ^ 31) {off : Int} {tgt : Nat} (hd : decode cc pc = .ok (.if_icmp .gt off, 3)) (hn : pc + 3 = pc') (ht : (pc : Int) + off = (tgt : Int)) (kt : b < a → YY p l e R s m args below meth c G B0 nL Q (tgt) (L) (st) (w) (cs) (ss)) (kf : ¬ b < a → YY p l e R s m args below meth c G B0 nL Q (pc') (L) (st) (w) (cs) (ss)) : YY p l e R s m args below meth c G B0 nL Q (pc) (L) (.int (nI b) :: .int (nI a) :: st) (w) (cs) (ss) :=
  yy_icmp_gt C hd hn ht (fun q => kt ((nI_ltI hb ha).mp q)) (fun q => kf (fun z => q ((nI_ltI hb ha).mpr z)))
theorem yn_icmp_le (C : CX p s m args meth c cc own nL G B0) {a b : Nat} (ha : a < 2 ^ 31) (hb : b < 2 ^ 31) {off : Int} {tgt : Nat} (hd : decode cc pc = .ok (.if_icmp .le off, 3)) (hn : pc + 3 = pc') (ht : (pc : Int) + off = (tgt : Int)) (kt : a ≤ b → YY p l e R s m args below meth c G B0 nL Q (tgt) (L) (st) (w) (cs) (ss)) (kf : ¬ a ≤ b → YY p l e R s m args below meth c G B0 nL Q (pc') (L) (st) (w) (cs) (ss)) : YY p l e R s m args below meth c G B0 nL Q (pc) (L) (.int (nI b) :: .int (nI a) :: st) (w) (cs) (ss) :=
  yy_icmp_le C hd hn ht (fun q => kt ((nI_leI ha hb).mp q)) (fun q => kf (fun z => q ((nI_leI ha hb).mpr z)))
theorem yn_icmp_ne (C : CX p s m args meth c cc own nL G B0) {a b : Nat} (ha : a < 2 ^ 31) (hb : b < 2 ^ 31) {off : Int} {tgt : Nat} (hd : decode cc pc = .ok (.if_icmp .ne off, 3)) (hn : pc + 3 = pc') (ht : (pc : Int) + off = (tgt : Int)) (kt : ¬ a = b → YY p l e R s m args below meth c G B0 nL Q (tgt) (L) (st) (w) (cs) (ss)) (kf : a = b → YY p l e R s m args below meth c G B0 nL Q (pc') (L) (st) (w) (cs) (ss)) : YY p l e R s m args below meth c G B0 nL Q (pc) (L) (.int (nI b) :: .int (nI a) :: st) (w) (cs) (ss) :=
  yy_icmp_ne C hd hn ht (fun q => kt (fun z => q ((nI_eq ha hb).mpr z))) (fun q => kf ((nI_eq ha hb).mp q))
theorem yy_if_eq (C : CX p s m args meth c cc own nL G B0) {x : Int32} {off : Int} {tgt : Nat} (hd : decode cc pc = .ok (.ifCond .eq off, 3)) (hn : pc + 3 = pc') (ht : (pc : Int) + off = (tgt : Int)) (kt : x = 0 → YY p l e R s m args below meth c G B0 nL Q (tgt) (L) (st) (w) (cs) (ss)) (kf : ¬ x = 0 → YY p l e R s m args below meth c G B0 nL Q (pc') (L) (st) (w) (cs) (ss)) : YY p l e R s m args below meth c G B0 nL Q (pc) (L) (.int x :: st) (w) (cs) (ss) := by
  subst hn
  exact fun H locs ls hl hP hD hS => lv_if_eq C.1 C.2.1 hd ht (fun q => kt q H locs ls hl hP hD hS) (fun q => kf q H locs ls hl hP hD hS)
theorem yy_if_ne (C : CX p s m args meth c cc own nL G B0) {x : Int32} {off : Int} {tgt : Nat} (hd : decode cc pc = .ok (.ifCond .ne off, 3)) (hn : pc + 3 = pc') (ht : (pc : Int) + off = (tgt : Int)) (kt : ¬ x = 0 → YY p l e R s m args below meth c G B0 nL Q (tgt) (L) (st) (w) (cs) (ss)) (kf : x = 0 → YY p l e R s m args below meth c G B0 nL Q (pc') (L) (st) (w) (cs) (ss)) : YY p l e R s m args below meth c G B0 nL Q (pc) (L) (.int x :: st) (w) (cs) (ss) := by
  subst hn
  exact fun H locs ls hl hP hD hS => lv_if_ne C.1 C.2.1 hd ht (fun q => kt q H locs ls hl hP hD hS) (fun q => kf q H locs ls hl hP hD hS)
theorem yy_if_lt (C : CX p s m args meth c cc own nL G B0) {x : Int32} {off : Int} {tgt : Nat} (hd : decode cc pc = .ok (.ifCond .lt off, 3)) (hn : pc + 3 = pc') (ht : (pc : Int) + off = (tgt : Int)) (kt : x < 0 → YY p l e R s m args below meth c G B0 nL Q (tgt) (L) (st) (w) (cs) (ss)) (kf : ¬ x < 0 → YY p l e R s m args below meth c G B0 nL Q (pc') (L) (st) (w) (cs) (ss)) : YY p l e R s m args below meth c G B0 nL Q (pc) (L) (.int x :: st) (w) (cs) (ss) := by
  subst hn
  exact fun H locs ls hl hP hD hS => lv_if_lt C.1 C.2.1 hd ht (fun q => kt q H locs ls hl hP hD hS) (fun q => kf q H locs ls hl hP hD hS)
theorem yy_if_ge (C : CX p s m args meth c cc own nL G B0) {x : Int32} {off : Int} {tgt : Nat} (hd : decode cc pc = .ok (.ifCond .ge off, 3)) (hn : pc + 3 = pc') (ht : (pc : Int) + off = (tgt : Int)) (kt : 0 ≤ x → YY p l e R s m args below meth c G B0 nL Q (tgt) (L) (st) (w) (cs) (ss)) (kf : ¬ 0 ≤ x → YY p l e R s m args below meth c G B0 nL Q (pc') (L) (st) (w) (cs) (ss)) : YY p l e R s m args below meth c G B0 nL Q (pc) (L) (.int x :: st) (w) (cs) (ss) := by
  subst hn
  exact fun H locs ls hl hP hD hS => lv_if_ge C.1 C.2.1 hd ht (fun q => kt q H locs ls hl hP hD hS) (fun q => kf q H locs ls hl hP hD hS)
theorem yy_if_gt (C : CX p s m args meth c cc own nL G B0) {x : Int32} {off : Int} {tgt : Nat} (hd : decode cc pc = .ok (.ifCond .gt off, 3)) (hn : pc + 3 = pc') (ht : (pc : Int) + off = (tgt : Int)) (kt : 0 < x → YY p l e R s m args below meth c G B0 nL Q (tgt) (L) (st) (w) (cs) (ss)) (kf : ¬ 0 < x → YY p l e R s m args below meth c G B0 nL Q (pc') (L) (st) (w) (cs) (ss)) : YY p l e R s m args below meth c G B0 nL Q (pc) (L) (.int x :: st) (w) (cs) (ss) := by
  subst hn
  exact fun H locs ls hl hP hD hS => lv_if_gt C.1 C.2.1 hd ht (fun q => kt q H locs ls hl hP hD hS) (fun q => kf q H locs ls hl hP hD hS)
theorem yy_if_le (C : CX p s m args meth c cc own nL G B0) {x : Int32} {off : Int} {tgt : Nat} (hd : decode cc pc = .ok (.ifCond .le off, 3)) (hn : pc + 3 = pc') (ht : (pc : Int) + off = (tgt : Int)) (kt : x ≤ 0 → YY p l e R s m args below meth c G B0 nL Q (tgt) (L) (st) (w) (cs) (ss)) (kf : ¬ x ≤ 0 → YY p l e R s m args below meth c G B0 nL Q (pc') (L) (st) (w) (cs) (ss)) : YY p l e R s m args below meth c G B0 nL Q (pc) (L) (.int x :: st) (w) (cs) (ss) := by
  subst hn
  exact fun H locs ls hl hP hD hS => lv_if_le C.1 C.2.1 hd ht (fun q => kt q H locs ls hl hP hD hS) (fun q => kf q H locs ls hl hP hD hS)
theorem yb_if_eq (C : CX p s m args meth c cc own nL G B0) {b : Bool} {off : Int} {tgt : Nat} (hd : decode cc pc = .ok (.ifCond .eq off, 3)) (hn : pc + 3 = pc') (ht : (pc : Int) + off = (tgt : Int)) (kt : b = false → YY p l e R s m args below meth c G B0 nL Q (tgt) (L) (st) (w) (cs) (ss)) (kf : b = true → YY p l e R s m args below meth c G B0 nL Q (pc') (L) (st) (w) (cs) (ss)) : YY p l e R s m args below meth c G B0 nL Q (pc) (L) (.int (bI b) :: st) (w) (cs) (ss) :=
  yy_if_eq C hd hn ht (fun q => kt (bI_eq q)) (fun q => kf (bI_ne q))
theorem yb_if_ne (C : CX p s m args meth c cc own nL G B0) {b : Bool} {off : Int} {tgt : Nat} (hd : decode cc pc = .ok (.ifCond .ne off, 3)) (hn : pc + 3 = pc') (ht : (pc : Int) + off = (tgt : Int)) (kt : b = true → YY p l e R s m args below meth c G B0 nL Q (tgt) (L) (st) (w) (cs) (ss)) (kf : b = false → YY p l e R s m args below meth c G B0 nL Q (pc') (L) (st) (w) (cs) (ss)) : YY p l e R s m args below meth c G B0 nL Q (pc) (L) (.int (bI b) :: st) (w) (cs) (ss) :=
  yy_if_ne C hd hn ht (fun q => kt (bI_ne q)) (fun q => kf (bI_eq q))
theorem yy_goto (C : CX p s m args meth c cc own nL G B0) {off : Int} {tgt : Nat} (hd : decode cc pc = .ok (.goto off, 3)) (ht : (pc : Int) + off = (tgt : Int)) (k : YY p l e R s m args below meth c G B0 nL Q (tgt) (L) (st) (w) (cs) (ss)) : YY p l e R s m args below meth c G B0 nL Q (pc) (L) (st) (w) (cs) (ss) :=
  fun H locs ls hl hP hD hS => lv_goto C.1 C.2.1 hd ht (k H locs ls hl hP hD hS)
theorem yy_loc (is : List Nat) (h : lv_pick L is = L') (k : YY p l e R s m args below meth c G B0 nL Q (pc) (L') (st) (w) (cs) (ss)) : YY p l e R s m args below meth c G B0 nL Q (pc) (L) (st) (w) (cs) (ss) := fun H locs ls hl hP hD hS => k H locs ls (lv_sub hl is h) hP hD hS
theorem yy_widen {cs2 ss2 : Nat} (h1 : cs ≤ cs2) (h2 : ss ≤ ss2) (k : YY p l e R s m args below meth c G B0 nL Q (pc) (L) (st) (w) (cs2) (ss2)) : YY p l e R s m args below meth c G B0 nL Q (pc) (L) (st) (w) (cs) (ss) := fun H locs ls hl hP hD hS => W.widen h1 h2 (k H locs ls hl hP hD hS)
theorem pP {D : va_G} {cl : List vw_C} {w w' : va_W} {H : Heap} (hp : w.Perm w') (h : va_P D cl w H) : va_P D cl w' H := by
  intro k q hk
  have hm : q ∈ w := hp.mem_iff.mpr (List.mem_of_getElem? hk)
  obtain ⟨i, hi⟩ := List.getElem?_of_mem hm
  exact h i q hi
theorem va_D_iff {A : Nat → Prop} {w : va_W} : va_D A w ↔ (w.map Prod.fst).Nodup ∧ ∀ q ∈ w, A q.1 := by
  constructor
  · intro h
    refine ⟨?_, fun q hq => ?_⟩
    · rw [List.nodup_iff_pairwise_ne, List.pairwise_iff_getElem]
      intro i j hi hj hij hne
      rw [List.length_map] at hi hj
      have h1 := h.1 i j w[i] w[j] (List.getElem?_eq_getElem hi) (List.getElem?_eq_getElem hj) (by simpa using hne)
      omega
    · obtain ⟨i, hi⟩ := List.getElem?_of_mem hq
      exact h.2 i q hi
  · intro h
    refine ⟨fun i j a b hi hj hab => ?_, fun k q hk => h.2 q (List.mem_of_getElem? hk)⟩
    have h1 := h.1
    rw [List.nodup_iff_pairwise_ne, List.pairwise_iff_getElem] at h1
    obtain ⟨li, ei⟩ := List.getElem?_eq_some_iff.mp hi
    obtain ⟨lj, ej⟩ := List.getElem?_eq_some_iff.mp hj
    rcases Nat.lt_trichotomy i j with q | q | q
    · have z := h1 i j (by rw [List.length_map]; exact li) (by rw [List.length_map]; exact lj) q
      simp only [List.getElem_map, ei, ej] at z
      exact absurd hab z
    · exact q
    · have z := h1 j i (by rw [List.length_map]; exact lj) (by rw [List.length_map]; exact li) q
      simp only [List.getElem_map, ei, ej] at z
      exact absurd hab.symm z
theorem pD {A : Nat → Prop} {w w' : va_W} (hp : w.Perm w') (h : va_D A w) : va_D A w' := by
  rw [va_D_iff] at h ⊢
  exact ⟨(hp.map Prod.fst).nodup_iff.mp h.1, fun q hq => h.2 q (hp.mem_iff.mpr hq)⟩
theorem perm_id {α : Type} (x : List α) : ∀ pre : List α, (List.range' pre.length x.length).filterMap (fun i => (pre ++ x)[i]?) = x := by
  induction x with
  | nil => intro pre; rfl
  | cons a x ih =>
    intro pre
    have h1 := ih (pre ++ [a])
    have h3 : (pre ++ [a]) ++ x = pre ++ a :: x := by simp
    rw [h3, List.length_append, List.length_singleton] at h1
    have h2 : (pre ++ a :: x)[pre.length]? = some a := by simp
    rw [List.length_cons, List.range'_succ, List.filterMap_cons_some h2, h1]
theorem perm_at {α : Type} {x y : List α} (is : List Nat) (hp : is.isPerm (List.range x.length) = true) (hy : is.filterMap (fun i => x[i]?) = y) : x.Perm y := by
  have h1 : (List.range x.length).filterMap (fun i => x[i]?) = x := by
    have h := perm_id x []
    rw [List.range_eq_range']
    simpa using h
  subst hy
  have h2 := (List.isPerm_iff.mp hp).filterMap (fun i => x[i]?)
  rw [h1] at h2
  exact h2.symm
theorem yy_perm (hp : w.Perm w') (k : YY p l e R s m args below meth c G B0 nL Q (pc) (L) (st) (w') (cs) (ss)) : YY p l e R s m args below meth c G B0 nL Q (pc) (L) (st) (w) (cs) (ss) := fun H locs ls hl hP hD hS => k H locs ls hl (pP hp hP) (pD hp hD) hS
theorem yy_get (C : CX p s m args meth c cc own nL G B0) {Cn : String} {T : u_T} {N ci k0 index a : Nat} {fs : List Value} {v : Value} (F : fkP own index Cn T N ci k0) (q0 : Nat) (hd : decode cc pc = .ok (.getfield index, 3)) (hn : pc + 3 = pc') (he : w[q0]? = some (a, .inr (ci, fs))) (hv : fs[k0]? = some v) (k : YY p l e R s m args below meth c G B0 nL Q (pc') (L) (v :: st) (w) (cs) (ss)) : YY p l e R s m args below meth c G B0 nL Q (pc) (L) (.ref a :: st) (w) (cs) (ss) := by
  subst hn
  intro H locs ls hl hP hD hS
  obtain ⟨f1, f2, f3, f4, f5⟩ := F
  exact va_get (ref := Cn) (C := Cn) (T := T) (N := N) (ci := ci) C.1 C.2.1 C.2.2.2.2.1 f1 C.2.2.2.1 C.2.2.2.2.2.1 hP q0 he f2 k0 f3 (C.2.2.2.2.1 _ f4) (fun _ h => by rw [f5] at h; exact h) hv hd (k H locs ls hl hP hD hS)
theorem yy_put (C : CX p s m args meth c cc own nL G B0) {Cn : String} {T : u_T} {N ci k0 index a : Nat} {ty : Nat → FieldType} {fs : List Value} {v : Value} (F : fkP own index Cn T N ci k0) (F2 : fpP T N ty) (hfin : (T k0).2.2.2 = false) (q0 : Nat) (hd : decode cc pc = .ok (.putfield index, 3)) (hn : pc + 3 = pc') (he : w[q0]? = some (a, .inr (ci, fs))) (hnr : narrow (ty k0) v = v) (hfit : fits (ty k0) v = true) (hlen : k0 < fs.length) (hw : w.set q0 (a, .inr (ci, fs.set k0 v)) = w') (k : YY p l e R s m args below meth c G B0 nL Q (pc') (L) (st) (w') (cs) (ss)) : YY p l e R s m args below meth c G B0 nL Q (pc) (L) (v :: .ref a :: st) (w) (cs) (ss) := by
  subst hn; subst hw
  intro H locs ls hl hP hD hS
  obtain ⟨f1, f2, f3, f4, f5⟩ := F
  exact va_put (ref := Cn) (C := Cn) (T := T) (N := N) (ci := ci) C.1 C.2.1 C.2.2.2.2.1 f1 ty F2.1 F2.2 C.2.2.2.1 C.2.2.2.2.2.1 hP hD hS q0 he f2 k0 f3 (C.2.2.2.2.1 _ f4) (fun _ h => by rw [f5] at h; exact h) hfin (F2.1 k0 f3) hnr hfit hlen hd (fun H1 locs1 hP1 hD1 hS1 => k H1 locs1 ls hl hP1 hD1 hS1)
theorem yy_putF (C : CX p s m args meth c cc own nL G B0) {T : u_T} {N ci k0 index a : Nat} {ty : Nat → FieldType} {fs : List Value} {v : Value} (F : fkP own index own T N ci k0) (F2 : fpP T N ty) (hin : meth.name = "<init>") (hfin : (T k0).2.2.2 = true) (q0 : Nat) (hd : decode cc pc = .ok (.putfield index, 3)) (hn : pc + 3 = pc') (he : w[q0]? = some (a, .inr (ci, fs))) (hnr : narrow (ty k0) v = v) (hfit : fits (ty k0) v = true) (hlen : k0 < fs.length) (hw : w.set q0 (a, .inr (ci, fs.set k0 v)) = w') (k : YY p l e R s m args below meth c G B0 nL Q (pc') (L) (st) (w') (cs) (ss)) : YY p l e R s m args below meth c G B0 nL Q (pc) (L) (v :: .ref a :: st) (w) (cs) (ss) := by
  subst hn; subst hw
  intro H locs ls hl hP hD hS
  obtain ⟨f1, f2, f3, f4, f5⟩ := F
  exact va_putF (ref := own) (C := own) (T := T) (N := N) (ci := ci) C.1 C.2.1 C.2.2.2.2.1 f1 ty F2.1 F2.2 C.2.2.2.1 C.2.2.2.2.2.1 hP hD hS q0 he f2 k0 f3 (C.2.2.2.2.1 _ f4) (fun _ h => by rw [f5] at h; exact h) hfin hin f5 (F2.1 k0 f3) hnr hfit hlen hd (fun H1 locs1 hP1 hD1 hS1 => k H1 locs1 ls hl hP1 hD1 hS1)
theorem yy_iald (C : CX p s m args meth c cc own nL G B0) {a n i : Nat} {f : Nat → Int32} (q0 : Nat) (hd : decode cc pc = .ok (.iaload, 1)) (hn : pc + 1 = pc') (ha : w[q0]? = some (a, .inl (G.2.1, n, .inl f))) (hi : i < n) (h31 : n < 2 ^ 31) (k : YY p l e R s m args below meth c G B0 nL Q (pc') (L) (.int (f i) :: st) (w) (cs) (ss)) : YY p l e R s m args below meth c G B0 nL Q (pc) (L) (.int (nI i) :: .ref a :: st) (w) (cs) (ss) := by
  subst hn
  intro H locs ls hl hP hD hS
  refine va_iald C.1 C.2.1 C.2.2.2.2.2.1 hP q0 0 ha rfl (vp_in_nI hi h31) hd ?_
  rw [nI_clamp (Nat.lt_trans hi h31)]
  exact k H locs ls hl hP hD hS
theorem yy_lald (C : CX p s m args meth c cc own nL G B0) {a n i : Nat} {f : Nat → Int64} (q0 : Nat) (hd : decode cc pc = .ok (.laload, 1)) (hn : pc + 1 = pc') (ha : w[q0]? = some (a, .inl (G.2.2.1, n, .inr (.inl f)))) (hi : i < n) (h31 : n < 2 ^ 31) (k : YY p l e R s m args below meth c G B0 nL Q (pc') (L) (.long (f i) :: st) (w) (cs) (ss)) : YY p l e R s m args below meth c G B0 nL Q (pc) (L) (.int (nI i) :: .ref a :: st) (w) (cs) (ss) := by
  subst hn
  intro H locs ls hl hP hD hS
  refine va_lald C.1 C.2.1 C.2.2.2.2.2.1 hP q0 1 ha rfl (vp_in_nI hi h31) hd ?_
  rw [nI_clamp (Nat.lt_trans hi h31)]
  exact k H locs ls hl hP hD hS
theorem yy_zald (C : CX p s m args meth c cc own nL G B0) {a n i : Nat} {f : Nat → Int32} (q0 : Nat) (hd : decode cc pc = .ok (.baload, 1)) (hn : pc + 1 = pc') (ha : w[q0]? = some (a, .inl (G.2.2.2.1, n, .inl f))) (hi : i < n) (h31 : n < 2 ^ 31) (k : YY p l e R s m args below meth c G B0 nL Q (pc') (L) (.int (f i) :: st) (w) (cs) (ss)) : YY p l e R s m args below meth c G B0 nL Q (pc) (L) (.int (nI i) :: .ref a :: st) (w) (cs) (ss) := by
  subst hn
  intro H locs ls hl hP hD hS
  refine va_zald C.1 C.2.1 C.2.2.2.2.2.1 hP q0 2 ha rfl (vp_in_nI hi h31) hd ?_
  rw [nI_clamp (Nat.lt_trans hi h31)]
  exact k H locs ls hl hP hD hS
theorem yy_cald (C : CX p s m args meth c cc own nL G B0) {a n i : Nat} {f : Nat → Int32} (q0 : Nat) (hd : decode cc pc = .ok (.caload, 1)) (hn : pc + 1 = pc') (ha : w[q0]? = some (a, .inl (G.2.2.2.2.1, n, .inl f))) (hi : i < n) (h31 : n < 2 ^ 31) (k : YY p l e R s m args below meth c G B0 nL Q (pc') (L) (.int (f i) :: st) (w) (cs) (ss)) : YY p l e R s m args below meth c G B0 nL Q (pc) (L) (.int (nI i) :: .ref a :: st) (w) (cs) (ss) := by
  subst hn
  intro H locs ls hl hP hD hS
  refine va_cald C.1 C.2.1 C.2.2.2.2.2.1 hP q0 3 ha rfl (vp_in_nI hi h31) hd ?_
  rw [nI_clamp (Nat.lt_trans hi h31)]
  exact k H locs ls hl hP hD hS
theorem yy_dald (C : CX p s m args meth c cc own nL G B0) {a n i : Nat} {f : Nat → UInt64} (q0 : Nat) (hd : decode cc pc = .ok (.daload, 1)) (hn : pc + 1 = pc') (ha : w[q0]? = some (a, .inl (G.2.2.2.2.2, n, .inr (.inr (.inr (.inl f)))))) (hi : i < n) (h31 : n < 2 ^ 31) (k : YY p l e R s m args below meth c G B0 nL Q (pc') (L) (.double (f i) :: st) (w) (cs) (ss)) : YY p l e R s m args below meth c G B0 nL Q (pc) (L) (.int (nI i) :: .ref a :: st) (w) (cs) (ss) := by
  subst hn
  intro H locs ls hl hP hD hS
  refine va_dald C.1 C.2.1 C.2.2.2.2.2.1 hP q0 4 ha rfl (vp_in_nI hi h31) hd ?_
  rw [nI_clamp (Nat.lt_trans hi h31)]
  exact k H locs ls hl hP hD hS
theorem yy_iast (C : CX p s m args meth c cc own nL G B0) {a n i : Nat} {x : Int32} {f : Nat → Int32} (q0 : Nat) (hd : decode cc pc = .ok (.iastore, 1)) (hn : pc + 1 = pc') (ha : w[q0]? = some (a, .inl (G.2.1, n, .inl f))) (hi : i < n) (h31 : n < 2 ^ 31) (hw : w.set q0 (a, .inl (G.2.1, n, .inl (upd f i x))) = w') (k : YY p l e R s m args below meth c G B0 nL Q (pc') (L) (st) (w') (cs) (ss)) : YY p l e R s m args below meth c G B0 nL Q (pc) (L) (.int x :: .int (nI i) :: .ref a :: st) (w) (cs) (ss) := by
  subst hn; subst hw
  intro H locs ls hl hP hD hS
  refine va_iast C.1 C.2.1 C.2.2.2.2.2.1 hP hD hS q0 0 ha rfl (vp_in_nI hi h31) hd ?_
  rw [nI_clamp (Nat.lt_trans hi h31)]
  exact fun H1 locs1 hP1 hD1 hS1 => k H1 locs1 ls hl hP1 hD1 hS1
theorem yy_last (C : CX p s m args meth c cc own nL G B0) {a n i : Nat} {x : Int64} {f : Nat → Int64} (q0 : Nat) (hd : decode cc pc = .ok (.lastore, 1)) (hn : pc + 1 = pc') (ha : w[q0]? = some (a, .inl (G.2.2.1, n, .inr (.inl f)))) (hi : i < n) (h31 : n < 2 ^ 31) (hw : w.set q0 (a, .inl (G.2.2.1, n, .inr (.inl (vp_updL f i x)))) = w') (k : YY p l e R s m args below meth c G B0 nL Q (pc') (L) (st) (w') (cs) (ss)) : YY p l e R s m args below meth c G B0 nL Q (pc) (L) (.long x :: .int (nI i) :: .ref a :: st) (w) (cs) (ss) := by
  subst hn; subst hw
  intro H locs ls hl hP hD hS
  refine va_last C.1 C.2.1 C.2.2.2.2.2.1 hP hD hS q0 1 ha rfl (vp_in_nI hi h31) hd ?_
  rw [nI_clamp (Nat.lt_trans hi h31)]
  exact fun H1 locs1 hP1 hD1 hS1 => k H1 locs1 ls hl hP1 hD1 hS1
theorem yy_dast (C : CX p s m args meth c cc own nL G B0) {a n i : Nat} {x : UInt64} {f : Nat → UInt64} (q0 : Nat) (hd : decode cc pc = .ok (.dastore, 1)) (hn : pc + 1 = pc') (ha : w[q0]? = some (a, .inl (G.2.2.2.2.2, n, .inr (.inr (.inr (.inl f)))))) (hi : i < n) (h31 : n < 2 ^ 31) (hw : w.set q0 (a, .inl (G.2.2.2.2.2, n, .inr (.inr (.inr (.inl (vf_upd f i x)))))) = w') (k : YY p l e R s m args below meth c G B0 nL Q (pc') (L) (st) (w') (cs) (ss)) : YY p l e R s m args below meth c G B0 nL Q (pc) (L) (.double x :: .int (nI i) :: .ref a :: st) (w) (cs) (ss) := by
  subst hn; subst hw
  intro H locs ls hl hP hD hS
  refine va_dast C.1 C.2.1 C.2.2.2.2.2.1 hP hD hS q0 4 ha rfl (vp_in_nI hi h31) hd ?_
  rw [nI_clamp (Nat.lt_trans hi h31)]
  exact fun H1 locs1 hP1 hD1 hS1 => k H1 locs1 ls hl hP1 hD1 hS1
theorem yy_zast (C : CX p s m args meth c cc own nL G B0) {a n i : Nat} {x : Int32} {f : Nat → Int32} (q0 : Nat) (hd : decode cc pc = .ok (.bastore, 1)) (hn : pc + 1 = pc') (ha : w[q0]? = some (a, .inl (G.2.2.2.1, n, .inl f))) (hi : i < n) (h31 : n < 2 ^ 31) (hx : vp_nar .boolean x = x) (hw : w.set q0 (a, .inl (G.2.2.2.1, n, .inl (upd f i x))) = w') (k : YY p l e R s m args below meth c G B0 nL Q (pc') (L) (st) (w') (cs) (ss)) : YY p l e R s m args below meth c G B0 nL Q (pc) (L) (.int x :: .int (nI i) :: .ref a :: st) (w) (cs) (ss) := by
  subst hn; subst hw
  intro H locs ls hl hP hD hS
  refine va_zast C.1 C.2.1 C.2.2.2.2.2.1 hP hD hS q0 2 ha rfl (vp_in_nI hi h31) hd ?_
  rw [nI_clamp (Nat.lt_trans hi h31), hx]
  exact fun H1 locs1 hP1 hD1 hS1 => k H1 locs1 ls hl hP1 hD1 hS1
theorem yy_cast (C : CX p s m args meth c cc own nL G B0) {a n i : Nat} {x : Int32} {f : Nat → Int32} (q0 : Nat) (hd : decode cc pc = .ok (.castore, 1)) (hn : pc + 1 = pc') (ha : w[q0]? = some (a, .inl (G.2.2.2.2.1, n, .inl f))) (hi : i < n) (h31 : n < 2 ^ 31) (hx : vp_nar .char x = x) (hw : w.set q0 (a, .inl (G.2.2.2.2.1, n, .inl (upd f i x))) = w') (k : YY p l e R s m args below meth c G B0 nL Q (pc') (L) (st) (w') (cs) (ss)) : YY p l e R s m args below meth c G B0 nL Q (pc) (L) (.int x :: .int (nI i) :: .ref a :: st) (w) (cs) (ss) := by
  subst hn; subst hw
  intro H locs ls hl hP hD hS
  refine va_cast C.1 C.2.1 C.2.2.2.2.2.1 hP hD hS q0 3 ha rfl (vp_in_nI hi h31) hd ?_
  rw [nI_clamp (Nat.lt_trans hi h31), hx]
  exact fun H1 locs1 hP1 hD1 hS1 => k H1 locs1 ls hl hP1 hD1 hS1
end YR
section YM
variable {p : Program} {l : Launch} {e : Env} {R : Room} {s : State} {m : MethodId} {args : Array Value} {below : List Frame} {meth : Method} {c : Code} {cc : ByteArray} {own : String} {nL : Nat} {G : gG} {B0 : Nat} {Q : State → Prop} {pc pc' : Nat} {L L' : List (Nat × Value)} {st rest : List Value} {w w' : va_W} {cs ss : Nat}
theorem pSnoc {x : Nat × va_E} : (w ++ [x]).Perm (x :: w) := List.perm_append_comm
theorem yy_new (C : CX p s m args meth c cc own nL G B0) {Cn : String} {T : u_T} {N ci index : Nat} {ty : Nat → FieldType} {fs : List Value} (F1 : ∀ w ∈ u_ws Cn T N, w ∈ WG) (hc : vwCl[ci]? = some (Cn, T, N)) (F2 : fpP T N ty) (h1 : Cond.classLink own index Cn ∈ WG) (h2 : Cond.instantiable Cn N ∈ WG) (h3 : Cond.initialized Cn ∈ WG) (hd : decode cc pc = .ok (.new index, 3)) (hn : pc + 3 = pc') (hfs : ∀ j, j < N → defaultValue (ty j) = vp_V fs j) (hcc : cs + 1 ≤ R.cells) (hss : ss + N ≤ R.slots) (k : ∀ q : Nat, YY p l e R s m args below meth c G B0 nL Q (pc') (L) (.ref q :: st) ((q, .inr (ci, fs)) :: w) (cs + 1) (ss + N)) : YY p l e R s m args below meth c G B0 nL Q (pc) (L) (st) (w) (cs) (ss) := by
  subst hn
  intro H locs ls hl hP hD hS
  refine va_new (ci := ci) (fs := fs) (C := Cn) (T := T) (N := N) C.1 C.2.1 C.2.2.2.2.1 F1 ty F2.1 C.2.2.2.1 (C.2.2.2.2.1 _ h1) (C.2.2.2.2.1 _ h2) (C.2.2.2.2.1 _ h3) C.2.2.2.2.2.1 hP hD hS (fun q h => Nat.le_trans C.2.2.2.2.2.2.2.1 h) hc hfs hcc hss hd (fun q H1 hP1 hD1 hS1 => ?_)
  exact k q H1 locs ls hl (pP pSnoc hP1) (pD pSnoc hD1) hS1
theorem yy_newaI (C : CX p s m args meth c cc own nL G B0) {N : Nat} (hA : Cond.arrayClass .int ∈ WG) (hd : decode cc pc = .ok (.newarray .int, 2)) (hn : pc + 2 = pc') (hN : N < 2 ^ 31) (hb : N * componentBytes .int ≤ 536870912) (hcc : cs + 1 ≤ R.cells) (hss : ss + N ≤ R.slots) (k : ∀ q : Nat, YY p l e R s m args below meth c G B0 nL Q (pc') (L) (.ref q :: st) ((q, .inl (G.2.1, N, .inl (fun _ => 0))) :: w) (cs + 1) (ss + N)) : YY p l e R s m args below meth c G B0 nL Q (pc) (L) (.int (nI N) :: st) (w) (cs) (ss) := by
  subst hn
  intro H locs ls hl hP hD hS
  refine va_newa (atype := .int) (ty := .int) (N' := N) (a0 := (N, .inl (fun _ => 0))) C.1 C.2.1 (C.2.2.2.2.1 _ hA) rfl C.2.2.2.2.2.1 hP hD hS (fun q h => Nat.le_trans C.2.2.2.2.2.2.2.1 h) (fun cA => by first | exact vp_cell_i | exact vp_cell_l | exact vp_cell_d | rfl) (nI_pos hN) (nI_clamp hN) hb hcc hss hd (fun q cA H1 hK1 hP1 hD1 hS1 => ?_)
  have e1 : s.vm.findClass ("[" ++ (FieldType.toString .int)) = some cA := (hK1.2 5 (cA, .int) rfl).2
  have e2 : s.vm.findClass ("[" ++ (FieldType.toString .int)) = some G.2.1 := (C.2.2.2.2.2.1.2 0 (G.2.1, .int) rfl).2
  have e3 : cA = G.2.1 := Option.some.inj (e1.symm.trans e2)
  subst e3
  exact k q H1 locs ls hl (pP pSnoc hP1) (pD pSnoc hD1) hS1
theorem yy_newaJ (C : CX p s m args meth c cc own nL G B0) {N : Nat} (hA : Cond.arrayClass .long ∈ WG) (hd : decode cc pc = .ok (.newarray .long, 2)) (hn : pc + 2 = pc') (hN : N < 2 ^ 31) (hb : N * componentBytes .long ≤ 536870912) (hcc : cs + 1 ≤ R.cells) (hss : ss + N ≤ R.slots) (k : ∀ q : Nat, YY p l e R s m args below meth c G B0 nL Q (pc') (L) (.ref q :: st) ((q, .inl (G.2.2.1, N, .inr (.inl (fun _ => 0)))) :: w) (cs + 1) (ss + N)) : YY p l e R s m args below meth c G B0 nL Q (pc) (L) (.int (nI N) :: st) (w) (cs) (ss) := by
  subst hn
  intro H locs ls hl hP hD hS
  refine va_newa (atype := .long) (ty := .long) (N' := N) (a0 := (N, .inr (.inl (fun _ => 0)))) C.1 C.2.1 (C.2.2.2.2.1 _ hA) rfl C.2.2.2.2.2.1 hP hD hS (fun q h => Nat.le_trans C.2.2.2.2.2.2.2.1 h) (fun cA => by first | exact vp_cell_i | exact vp_cell_l | exact vp_cell_d | rfl) (nI_pos hN) (nI_clamp hN) hb hcc hss hd (fun q cA H1 hK1 hP1 hD1 hS1 => ?_)
  have e1 : s.vm.findClass ("[" ++ (FieldType.toString .long)) = some cA := (hK1.2 5 (cA, .long) rfl).2
  have e2 : s.vm.findClass ("[" ++ (FieldType.toString .long)) = some G.2.2.1 := (C.2.2.2.2.2.1.2 1 (G.2.2.1, .long) rfl).2
  have e3 : cA = G.2.2.1 := Option.some.inj (e1.symm.trans e2)
  subst e3
  exact k q H1 locs ls hl (pP pSnoc hP1) (pD pSnoc hD1) hS1
theorem yy_newaZ (C : CX p s m args meth c cc own nL G B0) {N : Nat} (hA : Cond.arrayClass .boolean ∈ WG) (hd : decode cc pc = .ok (.newarray .boolean, 2)) (hn : pc + 2 = pc') (hN : N < 2 ^ 31) (hb : N * componentBytes .boolean ≤ 536870912) (hcc : cs + 1 ≤ R.cells) (hss : ss + N ≤ R.slots) (k : ∀ q : Nat, YY p l e R s m args below meth c G B0 nL Q (pc') (L) (.ref q :: st) ((q, .inl (G.2.2.2.1, N, .inl (fun _ => 0))) :: w) (cs + 1) (ss + N)) : YY p l e R s m args below meth c G B0 nL Q (pc) (L) (.int (nI N) :: st) (w) (cs) (ss) := by
  subst hn
  intro H locs ls hl hP hD hS
  refine va_newa (atype := .boolean) (ty := .boolean) (N' := N) (a0 := (N, .inl (fun _ => 0))) C.1 C.2.1 (C.2.2.2.2.1 _ hA) rfl C.2.2.2.2.2.1 hP hD hS (fun q h => Nat.le_trans C.2.2.2.2.2.2.2.1 h) (fun cA => by first | exact vp_cell_i | exact vp_cell_l | exact vp_cell_d | rfl) (nI_pos hN) (nI_clamp hN) hb hcc hss hd (fun q cA H1 hK1 hP1 hD1 hS1 => ?_)
  have e1 : s.vm.findClass ("[" ++ (FieldType.toString .boolean)) = some cA := (hK1.2 5 (cA, .boolean) rfl).2
  have e2 : s.vm.findClass ("[" ++ (FieldType.toString .boolean)) = some G.2.2.2.1 := (C.2.2.2.2.2.1.2 2 (G.2.2.2.1, .boolean) rfl).2
  have e3 : cA = G.2.2.2.1 := Option.some.inj (e1.symm.trans e2)
  subst e3
  exact k q H1 locs ls hl (pP pSnoc hP1) (pD pSnoc hD1) hS1
theorem yy_newaC (C : CX p s m args meth c cc own nL G B0) {N : Nat} (hA : Cond.arrayClass .char ∈ WG) (hd : decode cc pc = .ok (.newarray .char, 2)) (hn : pc + 2 = pc') (hN : N < 2 ^ 31) (hb : N * componentBytes .char ≤ 536870912) (hcc : cs + 1 ≤ R.cells) (hss : ss + N ≤ R.slots) (k : ∀ q : Nat, YY p l e R s m args below meth c G B0 nL Q (pc') (L) (.ref q :: st) ((q, .inl (G.2.2.2.2.1, N, .inl (fun _ => 0))) :: w) (cs + 1) (ss + N)) : YY p l e R s m args below meth c G B0 nL Q (pc) (L) (.int (nI N) :: st) (w) (cs) (ss) := by
  subst hn
  intro H locs ls hl hP hD hS
  refine va_newa (atype := .char) (ty := .char) (N' := N) (a0 := (N, .inl (fun _ => 0))) C.1 C.2.1 (C.2.2.2.2.1 _ hA) rfl C.2.2.2.2.2.1 hP hD hS (fun q h => Nat.le_trans C.2.2.2.2.2.2.2.1 h) (fun cA => by first | exact vp_cell_i | exact vp_cell_l | exact vp_cell_d | rfl) (nI_pos hN) (nI_clamp hN) hb hcc hss hd (fun q cA H1 hK1 hP1 hD1 hS1 => ?_)
  have e1 : s.vm.findClass ("[" ++ (FieldType.toString .char)) = some cA := (hK1.2 5 (cA, .char) rfl).2
  have e2 : s.vm.findClass ("[" ++ (FieldType.toString .char)) = some G.2.2.2.2.1 := (C.2.2.2.2.2.1.2 3 (G.2.2.2.2.1, .char) rfl).2
  have e3 : cA = G.2.2.2.2.1 := Option.some.inj (e1.symm.trans e2)
  subst e3
  exact k q H1 locs ls hl (pP pSnoc hP1) (pD pSnoc hD1) hS1
theorem yy_newaD (C : CX p s m args meth c cc own nL G B0) {N : Nat} (hA : Cond.arrayClass .double ∈ WG) (hd : decode cc pc = .ok (.newarray .double, 2)) (hn : pc + 2 = pc') (hN : N < 2 ^ 31) (hb : N * componentBytes .double ≤ 536870912) (hcc : cs + 1 ≤ R.cells) (hss : ss + N ≤ R.slots) (k : ∀ q : Nat, YY p l e R s m args below meth c G B0 nL Q (pc') (L) (.ref q :: st) ((q, .inl (G.2.2.2.2.2, N, .inr (.inr (.inr (.inl (fun _ => 0)))))) :: w) (cs + 1) (ss + N)) : YY p l e R s m args below meth c G B0 nL Q (pc) (L) (.int (nI N) :: st) (w) (cs) (ss) := by
  subst hn
  intro H locs ls hl hP hD hS
  refine va_newa (atype := .double) (ty := .double) (N' := N) (a0 := (N, .inr (.inr (.inr (.inl (fun _ => 0)))))) C.1 C.2.1 (C.2.2.2.2.1 _ hA) rfl C.2.2.2.2.2.1 hP hD hS (fun q h => Nat.le_trans C.2.2.2.2.2.2.2.1 h) (fun cA => by first | exact vp_cell_i | exact vp_cell_l | exact vp_cell_d | rfl) (nI_pos hN) (nI_clamp hN) hb hcc hss hd (fun q cA H1 hK1 hP1 hD1 hS1 => ?_)
  have e1 : s.vm.findClass ("[" ++ (FieldType.toString .double)) = some cA := (hK1.2 5 (cA, .double) rfl).2
  have e2 : s.vm.findClass ("[" ++ (FieldType.toString .double)) = some G.2.2.2.2.2 := (C.2.2.2.2.2.1.2 4 (G.2.2.2.2.2, .double) rfl).2
  have e3 : cA = G.2.2.2.2.2 := Option.some.inj (e1.symm.trans e2)
  subst e3
  exact k q H1 locs ls hl (pP pSnoc hP1) (pD pSnoc hD1) hS1
theorem lk_len {y : MethodName} {n : Nat} (h : (parseMethodDescriptor y.desc).map (fun d => d.parameters.length) = some n) : ∀ sig, parseMethodDescriptor y.desc = some sig → n = sig.parameters.length := fun sig hs => by
  rw [hs] at h
  exact (Option.some.inj h).symm
theorem cdWG {w : Cond} (cd : w ∈ WG) : GoodIn WG (w :: WG) := mG (fun w' h => (List.mem_cons.mp h).elim (fun e => e ▸ cd) id)
theorem okB (C : CX p s m args meth c cc own nL G B0) {y : MethodName} {bytes : ByteArray} {maxL index n : Nat} {ret : Option FieldType} {rm : Room} (lk : lkP own index y n) (cd : Cond.code y bytes maxL ret ∈ WG) (hR : rm.frames + 1 ≤ R.frames ∧ 8 + (maxL + 11) + rm.locals ≤ R.locals) : CallB R s args own index y bytes maxL ret (Cond.code y bytes maxL ret :: WG) rm rm.cells rm.slots n :=
  ⟨rfl, rfl, hR.1, hR.2, pay_in C.2.2.2.2.1 (cdWG cd), List.mem_cons_self, C.2.2.2.2.1 _ cd, C.2.2.2.2.1 _ lk.2.1, ⟨lk.2.2.1, lk.2.2.2.1⟩, lk_len lk.2.2.2.2, C.2.2.2.2.1 _ lk.1⟩
theorem okN (C : CX p s m args meth c cc own nL G B0) {y : MethodName} {bytes : ByteArray} {maxL index n : Nat} {ret : Option FieldType} {rm : Room} (lk : lkN own index y n) (cd : Cond.code y bytes maxL ret ∈ WG) (hR : rm.frames + 1 ≤ R.frames ∧ 8 + (maxL + 11) + rm.locals ≤ R.locals) : va_CN R s args own index y "Archivepress" bytes maxL ret (Cond.code y bytes maxL ret :: WG) rm rm.cells rm.slots n :=
  ⟨⟨rfl, rfl, hR.1, hR.2, pay_in C.2.2.2.2.1 (cdWG cd), List.mem_cons_self⟩, C.2.2.2.2.1 _ cd, C.2.2.2.2.1 _ lk.2.1, ⟨lk.2.2.1, lk.2.2.2.1⟩, lk_len lk.2.2.2.2, va_Nw.use rfl (C.2.2.2.2.2.2.1.2.2.2.1 _ lk.1)⟩
theorem okSW (C : CX p s m args meth c cc own nL G B0) {y : MethodName} {bytes : ByteArray} {maxL index n : Nat} {ret : Option FieldType} {hh : List (Nat × Nat × Nat × Nat)} {rm : Room} (lk : lkP own index y n) (hst : Cond.static y ∈ WG) (cd : Cond.codeWith y bytes maxL ret hh ∈ WG) (hR : rm.frames + 1 ≤ R.frames ∧ 8 + (maxL + 11) + rm.locals ≤ R.locals) : vx_CSW R s args own index y bytes maxL ret hh (Cond.codeWith y bytes maxL ret hh :: WG) rm rm.cells rm.slots n :=
  ⟨⟨rfl, rfl, hR.1, hR.2, pay_in C.2.2.2.2.1 (cdWG cd), List.mem_cons_self⟩, C.2.2.2.2.1 _ cd, C.2.2.2.2.1 _ lk.2.1, ⟨lk.2.2.1, lk.2.2.2.1⟩, lk_len lk.2.2.2.2, C.2.2.2.2.1 _ lk.1, C.2.2.2.2.1 _ hst⟩
theorem okS (C : CX p s m args meth c cc own nL G B0) {w0 : va_W} {H : Heap} {locs : List Loc} {As : List Value} (hP : va_P G.1 vwCl w0 H) (hD : va_D (fun q => B0 ≤ q) w0) (hS : va_S (fun q => B0 ≤ q) s.heap H locs) : PreS s H (va_Pc As (PR G B0 w0)) As :=
  ⟨PR.blind, fun _ hU hW => ⟨rfl, pr_of C.2.2.2.2.2.2.2.1 C.2.2.2.2.2.1 C.2.2.2.2.2.2.1 hP hD hS hU hW⟩⟩
theorem okV (C : CX p s m args meth c cc own nL G B0) {w0 : va_W} {H : Heap} {locs : List Loc} {As : List Value} {Cn : String} {T : u_T} {N ci b q0 : Nat} {fs : List Value} (he : w0[q0]? = some (b, .inr (ci, fs))) (hcl : vwCl[ci]? = some (Cn, T, N)) (hP : va_P G.1 vwCl w0 H) (hD : va_D (fun q => B0 ≤ q) w0) (hS : va_S (fun q => B0 ≤ q) s.heap H locs) : PreV s H Cn b (va_Pc (.ref b :: As) (PR G B0 w0)) As := by
  refine ⟨PR.blind, ?_, fun _ hU hW => ⟨rfl, pr_of C.2.2.2.2.2.2.2.1 C.2.2.2.2.2.1 C.2.2.2.2.2.2.1 hP hD hS hU hW⟩⟩
  obtain ⟨r, h1, cell, q1, q2, q3, q4⟩ := hP q0 _ he
  obtain ⟨g1, hfc, g3⟩ := C.2.2.2.2.2.1.1 ci _ hcl
  exact ⟨cell, q1, by rw [q3]; rfl, by rw [q2]; exact hfc⟩
theorem yr_V (C : CX p s m args meth c cc own nL G B0) {y : MethodName} {bytes : ByteArray} {maxL index n : Nat} {ret : Option FieldType} {rm : Room} {Qc : Array Value → State → Outcome → State → Prop} {As : List Value} {T : u_T} {N ci b : Nat} {fs : List Value} (lk : lkP own index y n) (cd : Cond.code y bytes maxL ret ∈ WG) (hin : Cond.instanceMethod y ∈ WG) (hse : Cond.selects y.cls y y ∈ WG) (hM : Met l y (Cond.code y bytes maxL ret :: WG) rm (va_Pc (.ref b :: As) (PR G B0 w)) Qc rm.cells rm.slots (fun q => B0 ≤ q)) (hR : rm.frames + 1 ≤ R.frames ∧ 8 + (maxL + 11) + rm.locals ≤ R.locals) (hf : cs + rm.cells ≤ R.cells ∧ ss + rm.slots ≤ R.slots) (q0 : Nat) (he : w[q0]? = some (b, .inr (ci, fs))) (hcl : vwCl[ci]? = some (y.cls, T, N)) (hlen : As.length = n) (hst : st = As.reverse ++ .ref b :: rest) (hcat : (rest.map fun v => v.category).sum ≤ 8) (hd : decode cc pc = .ok (.invokevirtual index, 3)) : ∀ (H : Heap) (locs : List Loc) (ls : Array Slot), lv_has ls nL L → va_P G.1 vwCl w H → va_D (fun q => B0 ≤ q) w → va_S (fun q => B0 ≤ q) s.heap H locs → va_Run p l e R s m args below meth c H locs cs ss rm.cells rm.slots (F0 m pc ls st) rest (Qc (Value.ref b :: As).toArray) (fun q => B0 ≤ q) := by
  intro H locs ls hl hP hD hS
  exact va_runV ⟨C.1, C.2.1, C.2.2.1, C.2.2.2.1, C.2.2.2.2.1⟩ hM ⟨okB C lk cd hR, C.2.2.2.2.1 _ hin, C.2.2.2.2.1 _ hse⟩ (okV C he hcl hP hD hS) rfl hlen hl.1 hst (lv_room hcat) hd hf
theorem yr_S (C : CX p s m args meth c cc own nL G B0) {y : MethodName} {bytes : ByteArray} {maxL index n : Nat} {ret : Option FieldType} {rm : Room} {Qc : Array Value → State → Outcome → State → Prop} {As : List Value} (lk : lkP own index y n) (cd : Cond.code y bytes maxL ret ∈ WG) (hsta : Cond.static y ∈ WG) (hM : Met l y (Cond.code y bytes maxL ret :: WG) rm (va_Pc (As) (PR G B0 w)) Qc rm.cells rm.slots (fun q => B0 ≤ q)) (hR : rm.frames + 1 ≤ R.frames ∧ 8 + (maxL + 11) + rm.locals ≤ R.locals) (hf : cs + rm.cells ≤ R.cells ∧ ss + rm.slots ≤ R.slots) (hlen : As.length = n) (hst : st = As.reverse ++ rest) (hcat : (rest.map fun v => v.category).sum ≤ 8) (hd : decode cc pc = .ok (.invokestatic index, 3)) : ∀ (H : Heap) (locs : List Loc) (ls : Array Slot), lv_has ls nL L → va_P G.1 vwCl w H → va_D (fun q => B0 ≤ q) w → va_S (fun q => B0 ≤ q) s.heap H locs → va_Run p l e R s m args below meth c H locs cs ss rm.cells rm.slots (F0 m pc ls st) rest (Qc As.toArray) (fun q => B0 ≤ q) := by
  intro H locs ls hl hP hD hS
  exact va_runS ⟨C.1, C.2.1, C.2.2.1, C.2.2.2.1, C.2.2.2.2.1⟩ hM ⟨okB C lk cd hR, C.2.2.2.2.1 _ hsta⟩ (okS C hP hD hS) rfl hlen hl.1 hst (lv_room hcat) hd hf
theorem xr_V (C : CX p s m args meth c cc own nL G B0) {y : MethodName} {bytes : ByteArray} {maxL index n : Nat} {ret : Option FieldType} {rm : Room} {Qc : Array Value → State → Outcome → State → Prop} {As : List Value} {XC : String → State → State → Prop} {T : u_T} {N ci b : Nat} {fs : List Value} (lk : lkP own index y n) (cd : Cond.code y bytes maxL ret ∈ WG) (hin : Cond.instanceMethod y ∈ WG) (hse : Cond.selects y.cls y y ∈ WG) (hM : vy_Met l y (Cond.code y bytes maxL ret :: WG) rm (va_Pc (.ref b :: As) (PR G B0 w)) Qc XC rm.cells rm.slots (fun q => B0 ≤ q)) (hR : rm.frames + 1 ≤ R.frames ∧ 8 + (maxL + 11) + rm.locals ≤ R.locals) (hf : cs + rm.cells ≤ R.cells ∧ ss + rm.slots ≤ R.slots) (q0 : Nat) (he : w[q0]? = some (b, .inr (ci, fs))) (hcl : vwCl[ci]? = some (y.cls, T, N)) (hlen : As.length = n) (hst : st = As.reverse ++ .ref b :: rest) (hcat : (rest.map fun v => v.category).sum ≤ 8) (hd : decode cc pc = .ok (.invokevirtual index, 3)) : ∀ (H : Heap) (locs : List Loc) (ls : Array Slot), lv_has ls nL L → va_P G.1 vwCl w H → va_D (fun q => B0 ≤ q) w → va_S (fun q => B0 ≤ q) s.heap H locs → vy_Run p l e R s m args below meth c H locs cs ss rm.cells rm.slots (F0 m pc ls st) rest (Qc (Value.ref b :: As).toArray) XC (fun q => B0 ≤ q) := by
  intro H locs ls hl hP hD hS
  exact vy_runV ⟨C.1, C.2.1, C.2.2.1, C.2.2.2.1, C.2.2.2.2.1⟩ hM ⟨okB C lk cd hR, C.2.2.2.2.1 _ hin, C.2.2.2.2.1 _ hse⟩ (okV C he hcl hP hD hS) rfl hlen hl.1 hst (lv_room hcat) hd hf
theorem xr_S (C : CX p s m args meth c cc own nL G B0) {y : MethodName} {bytes : ByteArray} {maxL index n : Nat} {ret : Option FieldType} {rm : Room} {Qc : Array Value → State → Outcome → State → Prop} {As : List Value} {XC : String → State → State → Prop} (lk : lkP own index y n) (cd : Cond.code y bytes maxL ret ∈ WG) (hsta : Cond.static y ∈ WG) (hM : vy_Met l y (Cond.code y bytes maxL ret :: WG) rm (va_Pc (As) (PR G B0 w)) Qc XC rm.cells rm.slots (fun q => B0 ≤ q)) (hR : rm.frames + 1 ≤ R.frames ∧ 8 + (maxL + 11) + rm.locals ≤ R.locals) (hf : cs + rm.cells ≤ R.cells ∧ ss + rm.slots ≤ R.slots) (hlen : As.length = n) (hst : st = As.reverse ++ rest) (hcat : (rest.map fun v => v.category).sum ≤ 8) (hd : decode cc pc = .ok (.invokestatic index, 3)) : ∀ (H : Heap) (locs : List Loc) (ls : Array Slot), lv_has ls nL L → va_P G.1 vwCl w H → va_D (fun q => B0 ≤ q) w → va_S (fun q => B0 ≤ q) s.heap H locs → vy_Run p l e R s m args below meth c H locs cs ss rm.cells rm.slots (F0 m pc ls st) rest (Qc As.toArray) XC (fun q => B0 ≤ q) := by
  intro H locs ls hl hP hD hS
  exact vy_runS ⟨C.1, C.2.1, C.2.2.1, C.2.2.2.1, C.2.2.2.2.1⟩ hM ⟨okB C lk cd hR, C.2.2.2.2.1 _ hsta⟩ (okS C hP hD hS) rfl hlen hl.1 hst (lv_room hcat) hd hf
theorem yr_SN (C : CX p s m args meth c cc own nL G B0) {y : MethodName} {bytes : ByteArray} {maxL index n : Nat} {ret : Option FieldType} {rm : Room} {Qc : Array Value → State → Outcome → State → Prop} {As : List Value} (lk : lkN own index y n) (cd : Cond.code y bytes maxL ret ∈ WG) (hsta : Cond.static y ∈ WG) (hM : Met l y (Cond.code y bytes maxL ret :: WG) rm (va_Pc (As) (PR G B0 w)) Qc rm.cells rm.slots (fun q => B0 ≤ q)) (hR : rm.frames + 1 ≤ R.frames ∧ 8 + (maxL + 11) + rm.locals ≤ R.locals) (hf : cs + rm.cells ≤ R.cells ∧ ss + rm.slots ≤ R.slots) (hlen : As.length = n) (hst : st = As.reverse ++ rest) (hcat : (rest.map fun v => v.category).sum ≤ 8) (hd : decode cc pc = .ok (.invokestatic index, 3)) : ∀ (H : Heap) (locs : List Loc) (ls : Array Slot), lv_has ls nL L → va_P G.1 vwCl w H → va_D (fun q => B0 ≤ q) w → va_S (fun q => B0 ≤ q) s.heap H locs → va_Run p l e R s m args below meth c H locs cs ss rm.cells rm.slots (F0 m pc ls st) rest (Qc As.toArray) (fun q => B0 ≤ q) := by
  intro H locs ls hl hP hD hS
  exact va_runSN ⟨C.1, C.2.1, C.2.2.1, C.2.2.2.1, C.2.2.2.2.1⟩ hM ⟨okN C lk cd hR, C.2.2.2.2.1 _ hsta, trivial⟩ (okS C hP hD hS) rfl hlen hl.1 hst (lv_room hcat) hd hf
theorem yr_SW (C : CX p s m args meth c cc own nL G B0) {y : MethodName} {bytes : ByteArray} {maxL index n : Nat} {ret : Option FieldType} {rm : Room} {Qc : Array Value → State → Outcome → State → Prop} {As : List Value} {hh : List (Nat × Nat × Nat × Nat)} (lk : lkP own index y n) (cd : Cond.codeWith y bytes maxL ret hh ∈ WG) (hsta : Cond.static y ∈ WG) (hM : Met l y (Cond.codeWith y bytes maxL ret hh :: WG) rm (va_Pc (As) (PR G B0 w)) Qc rm.cells rm.slots (fun q => B0 ≤ q)) (hR : rm.frames + 1 ≤ R.frames ∧ 8 + (maxL + 11) + rm.locals ≤ R.locals) (hf : cs + rm.cells ≤ R.cells ∧ ss + rm.slots ≤ R.slots) (hlen : As.length = n) (hst : st = As.reverse ++ rest) (hcat : (rest.map fun v => v.category).sum ≤ 8) (hd : decode cc pc = .ok (.invokestatic index, 3)) : ∀ (H : Heap) (locs : List Loc) (ls : Array Slot), lv_has ls nL L → va_P G.1 vwCl w H → va_D (fun q => B0 ≤ q) w → va_S (fun q => B0 ≤ q) s.heap H locs → va_Run p l e R s m args below meth c H locs cs ss rm.cells rm.slots (F0 m pc ls st) rest (Qc As.toArray) (fun q => B0 ≤ q) := by
  intro H locs ls hl hP hD hS
  exact vx_runSW ⟨C.1, C.2.1, C.2.2.1, C.2.2.2.1, C.2.2.2.2.1⟩ hM (okSW C lk hsta cd hR) (okS C hP hD hS) rfl hlen hl.1 hst (lv_room hcat) hd hf
theorem yr_I (C : CX p s m args meth c cc own nL G B0) {y : MethodName} {bytes : ByteArray} {maxL index n : Nat} {rm : Room} {Qc : Array Value → State → Outcome → State → Prop} {As : List Value} {b : Nat} (lk : lkP own index y n) (cd : Cond.code y bytes maxL none ∈ WG) (hin : Cond.instanceMethod y ∈ WG) (hy1 : y.name = "<init>") (hM : Met l y (Cond.code y bytes maxL none :: WG) rm (va_Pc (.ref b :: As) (PR G B0 w)) Qc rm.cells rm.slots (fun q => B0 ≤ q)) (hR : rm.frames + 1 ≤ R.frames ∧ 8 + (maxL + 11) + rm.locals ≤ R.locals) (hf : cs + rm.cells ≤ R.cells ∧ ss + rm.slots ≤ R.slots) (hlen : As.length = n) (hst : st = As.reverse ++ .ref b :: rest) (hcat : (rest.map fun v => v.category).sum ≤ 8) (hd : decode cc pc = .ok (.invokespecial index, 3)) : ∀ (H : Heap) (locs : List Loc) (ls : Array Slot), lv_has ls nL L → va_P G.1 vwCl w H → va_D (fun q => B0 ≤ q) w → va_S (fun q => B0 ≤ q) s.heap H locs → va_Run p l e R s m args below meth c H locs cs ss rm.cells rm.slots (F0 m pc ls st) rest (Qc (Value.ref b :: As).toArray) (fun q => B0 ≤ q) := by
  intro H locs ls hl hP hD hS
  exact va_runI ⟨C.1, C.2.1, C.2.2.1, C.2.2.2.1, C.2.2.2.2.1⟩ hM ⟨okB C lk cd hR, hy1, C.2.2.2.2.1 _ hin⟩ (okS C hP hD hS) rfl hlen hl.1 hst (lv_room hcat) hd hf
theorem yr_IN (C : CX p s m args meth c cc own nL G B0) {y : MethodName} {bytes : ByteArray} {maxL index n : Nat} {rm : Room} {Qc : Array Value → State → Outcome → State → Prop} {As : List Value} {b : Nat} (lk : lkN own index y n) (cd : Cond.code y bytes maxL none ∈ WG) (hin : Cond.instanceMethod y ∈ WG) (hy1 : y.name = "<init>") (hM : Met l y (Cond.code y bytes maxL none :: WG) rm (va_Pc (.ref b :: As) (PR G B0 w)) Qc rm.cells rm.slots (fun q => B0 ≤ q)) (hR : rm.frames + 1 ≤ R.frames ∧ 8 + (maxL + 11) + rm.locals ≤ R.locals) (hf : cs + rm.cells ≤ R.cells ∧ ss + rm.slots ≤ R.slots) (hlen : As.length = n) (hst : st = As.reverse ++ .ref b :: rest) (hcat : (rest.map fun v => v.category).sum ≤ 8) (hd : decode cc pc = .ok (.invokespecial index, 3)) : ∀ (H : Heap) (locs : List Loc) (ls : Array Slot), lv_has ls nL L → va_P G.1 vwCl w H → va_D (fun q => B0 ≤ q) w → va_S (fun q => B0 ≤ q) s.heap H locs → va_Run p l e R s m args below meth c H locs cs ss rm.cells rm.slots (F0 m pc ls st) rest (Qc (Value.ref b :: As).toArray) (fun q => B0 ≤ q) := by
  intro H locs ls hl hP hD hS
  exact va_runIN ⟨C.1, C.2.1, C.2.2.1, C.2.2.2.1, C.2.2.2.2.1⟩ hM ⟨okN C lk cd hR, hy1, C.2.2.2.2.1 _ hin⟩ (okS C hP hD hS) rfl hlen hl.1 hst (lv_room hcat) hd hf
theorem yc_i {S : Type} {mc ms : Nat} {a : Array Value} {post : Int32 → S → Prop} {W2 : S → va_W} (hr : ∀ (H : Heap) (locs : List Loc) (ls : Array Slot), lv_has ls nL L → va_P G.1 vwCl w H → va_D (fun q => B0 ≤ q) w → va_S (fun q => B0 ≤ q) s.heap H locs → va_Run p l e R s m args below meth c H locs cs ss mc ms (F0 m pc ls st) rest (va_Qi post (fun (u : S) (t : State) => va_P G.1 vwCl (W2 u) t.heap ∧ va_D (fun q => B0 ≤ q) (W2 u)) (fun q => B0 ≤ q) a) (fun q => B0 ≤ q)) (hn : pc + 3 = pc') (k : ∀ (r : Int32) (u : S), post r u → YY p l e R s m args below meth c G B0 nL Q (pc') (L) (.int r :: rest) (W2 u) (cs + mc) (ss + ms)) : YY p l e R s m args below meth c G B0 nL Q (pc) (L) (st) (w) (cs) (ss) := by
  subst hn
  intro H locs ls hl hP hD hS
  refine va_calli (hr H locs ls hl hP hD hS) hS (fun q _ h => h) (fun q h => h) (fun r u t H1 locs1 ht hvm hw hB hz hk hS1 => ?_)
  rw [ht] at hB
  exact k r u hw H1 locs1 ls hl hB.1 hB.2 hS1
theorem xc_i {S SX : Type} {mc ms : Nat} {a : Array Value} {post : Int32 → S → Prop} {W2 : S → va_W} {pX : String → SX → Prop} {WX : SX → va_W} (hr : ∀ (H : Heap) (locs : List Loc) (ls : Array Slot), lv_has ls nL L → va_P G.1 vwCl w H → va_D (fun q => B0 ≤ q) w → va_S (fun q => B0 ≤ q) s.heap H locs → vy_Run p l e R s m args below meth c H locs cs ss mc ms (F0 m pc ls st) rest (va_Qi post (fun (u : S) (t : State) => va_P G.1 vwCl (W2 u) t.heap ∧ va_D (fun q => B0 ≤ q) (W2 u)) (fun q => B0 ≤ q) a) (vx_X (fun _ : SX => True) (fun (E : String) (u : SX) (t : State) => pX E u ∧ va_P G.1 vwCl (WX u) t.heap ∧ va_D (fun q => B0 ≤ q) (WX u)) (fun q => B0 ≤ q)) (fun q => B0 ≤ q)) (hn : pc + 3 = pc') (kx : ∀ (E : String) (u : SX), pX E u → YX p l e R s m args below meth c G B0 nL Q (pc) (L) (rest) (WX u) (cs + mc) (ss + ms) (E)) (k : ∀ (r : Int32) (u : S), post r u → YY p l e R s m args below meth c G B0 nL Q (pc') (L) (.int r :: rest) (W2 u) (cs) (ss)) : YY p l e R s m args below meth c G B0 nL Q (pc) (L) (st) (w) (cs) (ss) := by
  subst hn
  intro H locs ls hl hP hD hS
  refine vy_calli (hr H locs ls hl hP hD hS) hS (fun q _ h => h) (fun q h => h) (fun q _ h => h) (fun E ce q9 u t H1 locs1 ht hvm _ hB hz hk hS1 h1 h2 h3 => ?_) (fun r u t H1 locs1 ht hvm hw hB hz hk hS1 => ?_)
  · rw [ht] at hB
    exact kx E u hB.1 H1 locs1 ls ce q9 hl hB.2.1 hB.2.2 hS1 h1 h2 h3
  · rw [ht] at hB
    exact k r u hw H1 locs1 ls hl hB.1 hB.2 hS1
theorem yc_l {S : Type} {mc ms : Nat} {a : Array Value} {post : Int64 → S → Prop} {W2 : S → va_W} (hr : ∀ (H : Heap) (locs : List Loc) (ls : Array Slot), lv_has ls nL L → va_P G.1 vwCl w H → va_D (fun q => B0 ≤ q) w → va_S (fun q => B0 ≤ q) s.heap H locs → va_Run p l e R s m args below meth c H locs cs ss mc ms (F0 m pc ls st) rest (va_Ql post (fun (u : S) (t : State) => va_P G.1 vwCl (W2 u) t.heap ∧ va_D (fun q => B0 ≤ q) (W2 u)) (fun q => B0 ≤ q) a) (fun q => B0 ≤ q)) (hn : pc + 3 = pc') (k : ∀ (r : Int64) (u : S), post r u → YY p l e R s m args below meth c G B0 nL Q (pc') (L) (.long r :: rest) (W2 u) (cs + mc) (ss + ms)) : YY p l e R s m args below meth c G B0 nL Q (pc) (L) (st) (w) (cs) (ss) := by
  subst hn
  intro H locs ls hl hP hD hS
  refine va_calll (hr H locs ls hl hP hD hS) hS (fun q _ h => h) (fun q h => h) (fun r u t H1 locs1 ht hvm hw hB hz hk hS1 => ?_)
  rw [ht] at hB
  exact k r u hw H1 locs1 ls hl hB.1 hB.2 hS1
theorem xc_l {S SX : Type} {mc ms : Nat} {a : Array Value} {post : Int64 → S → Prop} {W2 : S → va_W} {pX : String → SX → Prop} {WX : SX → va_W} (hr : ∀ (H : Heap) (locs : List Loc) (ls : Array Slot), lv_has ls nL L → va_P G.1 vwCl w H → va_D (fun q => B0 ≤ q) w → va_S (fun q => B0 ≤ q) s.heap H locs → vy_Run p l e R s m args below meth c H locs cs ss mc ms (F0 m pc ls st) rest (va_Ql post (fun (u : S) (t : State) => va_P G.1 vwCl (W2 u) t.heap ∧ va_D (fun q => B0 ≤ q) (W2 u)) (fun q => B0 ≤ q) a) (vx_X (fun _ : SX => True) (fun (E : String) (u : SX) (t : State) => pX E u ∧ va_P G.1 vwCl (WX u) t.heap ∧ va_D (fun q => B0 ≤ q) (WX u)) (fun q => B0 ≤ q)) (fun q => B0 ≤ q)) (hn : pc + 3 = pc') (kx : ∀ (E : String) (u : SX), pX E u → YX p l e R s m args below meth c G B0 nL Q (pc) (L) (rest) (WX u) (cs + mc) (ss + ms) (E)) (k : ∀ (r : Int64) (u : S), post r u → YY p l e R s m args below meth c G B0 nL Q (pc') (L) (.long r :: rest) (W2 u) (cs) (ss)) : YY p l e R s m args below meth c G B0 nL Q (pc) (L) (st) (w) (cs) (ss) := by
  subst hn
  intro H locs ls hl hP hD hS
  refine vy_calll (hr H locs ls hl hP hD hS) hS (fun q _ h => h) (fun q h => h) (fun q _ h => h) (fun E ce q9 u t H1 locs1 ht hvm _ hB hz hk hS1 h1 h2 h3 => ?_) (fun r u t H1 locs1 ht hvm hw hB hz hk hS1 => ?_)
  · rw [ht] at hB
    exact kx E u hB.1 H1 locs1 ls ce q9 hl hB.2.1 hB.2.2 hS1 h1 h2 h3
  · rw [ht] at hB
    exact k r u hw H1 locs1 ls hl hB.1 hB.2 hS1
theorem yc_f {S : Type} {mc ms : Nat} {a : Array Value} {post : UInt32 → S → Prop} {W2 : S → va_W} (hr : ∀ (H : Heap) (locs : List Loc) (ls : Array Slot), lv_has ls nL L → va_P G.1 vwCl w H → va_D (fun q => B0 ≤ q) w → va_S (fun q => B0 ≤ q) s.heap H locs → va_Run p l e R s m args below meth c H locs cs ss mc ms (F0 m pc ls st) rest (va_Qf post (fun (u : S) (t : State) => va_P G.1 vwCl (W2 u) t.heap ∧ va_D (fun q => B0 ≤ q) (W2 u)) (fun q => B0 ≤ q) a) (fun q => B0 ≤ q)) (hn : pc + 3 = pc') (k : ∀ (r : UInt32) (u : S), post r u → YY p l e R s m args below meth c G B0 nL Q (pc') (L) (.float r :: rest) (W2 u) (cs + mc) (ss + ms)) : YY p l e R s m args below meth c G B0 nL Q (pc) (L) (st) (w) (cs) (ss) := by
  subst hn
  intro H locs ls hl hP hD hS
  refine va_callf (hr H locs ls hl hP hD hS) hS (fun q _ h => h) (fun q h => h) (fun r u t H1 locs1 ht hvm hw hB hz hk hS1 => ?_)
  rw [ht] at hB
  exact k r u hw H1 locs1 ls hl hB.1 hB.2 hS1
theorem xc_f {S SX : Type} {mc ms : Nat} {a : Array Value} {post : UInt32 → S → Prop} {W2 : S → va_W} {pX : String → SX → Prop} {WX : SX → va_W} (hr : ∀ (H : Heap) (locs : List Loc) (ls : Array Slot), lv_has ls nL L → va_P G.1 vwCl w H → va_D (fun q => B0 ≤ q) w → va_S (fun q => B0 ≤ q) s.heap H locs → vy_Run p l e R s m args below meth c H locs cs ss mc ms (F0 m pc ls st) rest (va_Qf post (fun (u : S) (t : State) => va_P G.1 vwCl (W2 u) t.heap ∧ va_D (fun q => B0 ≤ q) (W2 u)) (fun q => B0 ≤ q) a) (vx_X (fun _ : SX => True) (fun (E : String) (u : SX) (t : State) => pX E u ∧ va_P G.1 vwCl (WX u) t.heap ∧ va_D (fun q => B0 ≤ q) (WX u)) (fun q => B0 ≤ q)) (fun q => B0 ≤ q)) (hn : pc + 3 = pc') (kx : ∀ (E : String) (u : SX), pX E u → YX p l e R s m args below meth c G B0 nL Q (pc) (L) (rest) (WX u) (cs + mc) (ss + ms) (E)) (k : ∀ (r : UInt32) (u : S), post r u → YY p l e R s m args below meth c G B0 nL Q (pc') (L) (.float r :: rest) (W2 u) (cs) (ss)) : YY p l e R s m args below meth c G B0 nL Q (pc) (L) (st) (w) (cs) (ss) := by
  subst hn
  intro H locs ls hl hP hD hS
  refine vy_callf (hr H locs ls hl hP hD hS) hS (fun q _ h => h) (fun q h => h) (fun q _ h => h) (fun E ce q9 u t H1 locs1 ht hvm _ hB hz hk hS1 h1 h2 h3 => ?_) (fun r u t H1 locs1 ht hvm hw hB hz hk hS1 => ?_)
  · rw [ht] at hB
    exact kx E u hB.1 H1 locs1 ls ce q9 hl hB.2.1 hB.2.2 hS1 h1 h2 h3
  · rw [ht] at hB
    exact k r u hw H1 locs1 ls hl hB.1 hB.2 hS1
theorem yc_v {S : Type} {mc ms : Nat} {a : Array Value} {post : S → Prop} {W2 : S → va_W} (hr : ∀ (H : Heap) (locs : List Loc) (ls : Array Slot), lv_has ls nL L → va_P G.1 vwCl w H → va_D (fun q => B0 ≤ q) w → va_S (fun q => B0 ≤ q) s.heap H locs → va_Run p l e R s m args below meth c H locs cs ss mc ms (F0 m pc ls st) rest (va_Qv post (fun (u : S) (t : State) => va_P G.1 vwCl (W2 u) t.heap ∧ va_D (fun q => B0 ≤ q) (W2 u)) (fun q => B0 ≤ q) a) (fun q => B0 ≤ q)) (hn : pc + 3 = pc') (k : ∀ (u : S), post u → YY p l e R s m args below meth c G B0 nL Q (pc') (L) (rest) (W2 u) (cs + mc) (ss + ms)) : YY p l e R s m args below meth c G B0 nL Q (pc) (L) (st) (w) (cs) (ss) := by
  subst hn
  intro H locs ls hl hP hD hS
  refine va_callv (hr H locs ls hl hP hD hS) hS (fun q _ h => h) (fun q h => h) (fun u t H1 locs1 ht hvm hw hB hz hk hS1 => ?_)
  rw [ht] at hB
  exact k u hw H1 locs1 ls hl hB.1 hB.2 hS1
theorem xc_v {S SX : Type} {mc ms : Nat} {a : Array Value} {post : S → Prop} {W2 : S → va_W} {pX : String → SX → Prop} {WX : SX → va_W} (hr : ∀ (H : Heap) (locs : List Loc) (ls : Array Slot), lv_has ls nL L → va_P G.1 vwCl w H → va_D (fun q => B0 ≤ q) w → va_S (fun q => B0 ≤ q) s.heap H locs → vy_Run p l e R s m args below meth c H locs cs ss mc ms (F0 m pc ls st) rest (va_Qv post (fun (u : S) (t : State) => va_P G.1 vwCl (W2 u) t.heap ∧ va_D (fun q => B0 ≤ q) (W2 u)) (fun q => B0 ≤ q) a) (vx_X (fun _ : SX => True) (fun (E : String) (u : SX) (t : State) => pX E u ∧ va_P G.1 vwCl (WX u) t.heap ∧ va_D (fun q => B0 ≤ q) (WX u)) (fun q => B0 ≤ q)) (fun q => B0 ≤ q)) (hn : pc + 3 = pc') (kx : ∀ (E : String) (u : SX), pX E u → YX p l e R s m args below meth c G B0 nL Q (pc) (L) (rest) (WX u) (cs + mc) (ss + ms) (E)) (k : ∀ (u : S), post u → YY p l e R s m args below meth c G B0 nL Q (pc') (L) (rest) (W2 u) (cs) (ss)) : YY p l e R s m args below meth c G B0 nL Q (pc) (L) (st) (w) (cs) (ss) := by
  subst hn
  intro H locs ls hl hP hD hS
  refine vy_callv (hr H locs ls hl hP hD hS) hS (fun q _ h => h) (fun q h => h) (fun q _ h => h) (fun E ce q9 u t H1 locs1 ht hvm _ hB hz hk hS1 h1 h2 h3 => ?_) (fun u t H1 locs1 ht hvm hw hB hz hk hS1 => ?_)
  · rw [ht] at hB
    exact kx E u hB.1 H1 locs1 ls ce q9 hl hB.2.1 hB.2.2 hS1 h1 h2 h3
  · rw [ht] at hB
    exact k u hw H1 locs1 ls hl hB.1 hB.2 hS1
theorem ye_i (C : CX p s m args meth c cc own nL G B0) {S : Type} {post : Int32 → S → Prop} {v : Int32} {W2 : S → va_W} {mc ms : Nat} {rty : FieldType} (hr : meth.sig.returnType = some rty) (hnr : narrow rty (.int v) = .int v) (u : S) (hd : decode cc pc = .ok (.ireturn, 1)) (hw : W2 u = w) (hc : cs ≤ mc) (hs : ss ≤ ms) (hp : post v u) : YY p l e R s m args below meth c G B0 nL (MQ below (va_Qi post (fun (u : S) (t : State) => va_P G.1 vwCl (W2 u) t.heap ∧ va_D (fun q => B0 ≤ q) (W2 u)) (fun q => B0 ≤ q)) args s mc ms (fun q => B0 ≤ q)) (pc) (L) (.int v :: []) (w) (cs) (ss) := by
  subst hw
  intro H locs ls hl hP hD hS
  have hlocks := C.2.2.2.2.2.2.2.2
  refine W.widen hc hs ?_
  skip
  exact W.zret C.1 C.2.1 hr hnr (fun t ht hW => ⟨⟨v, u, rfl, hp, by subst ht; exact ⟨hP, hD⟩⟩, hS.F ht⟩) hS.2.2 hd
theorem xe_i (C : CX p s m args meth c cc own nL G B0) {S : Type} {post : Int32 → S → Prop} {v : Int32} {W2 : S → va_W} {mc ms : Nat} {XC : String → State → State → Prop} {rty : FieldType} (hr : meth.sig.returnType = some rty) (hnr : narrow rty (.int v) = .int v) (u : S) (hd : decode cc pc = .ok (.ireturn, 1)) (hw : W2 u = w) (hc : cs ≤ 0) (hs : ss ≤ 0) (hp : post v u) : YY p l e R s m args below meth c G B0 nL (vy_MQ below (va_Qi post (fun (u : S) (t : State) => va_P G.1 vwCl (W2 u) t.heap ∧ va_D (fun q => B0 ≤ q) (W2 u)) (fun q => B0 ≤ q)) XC args s mc ms (fun q => B0 ≤ q)) (pc) (L) (.int v :: []) (w) (cs) (ss) := by
  subst hw
  intro H locs ls hl hP hD hS
  have hlocks := C.2.2.2.2.2.2.2.2
  refine W.widen hc hs ?_
  refine vy_ret ?_
  exact W.zret C.1 C.2.1 hr hnr (fun t ht hW => ⟨⟨v, u, rfl, hp, by subst ht; exact ⟨hP, hD⟩⟩, hS.F ht⟩) hS.2.2 hd
theorem ye_l (C : CX p s m args meth c cc own nL G B0) {S : Type} {post : Int64 → S → Prop} {v : Int64} {W2 : S → va_W} {mc ms : Nat} (hr : meth.sig.returnType = some .long) (u : S) (hd : decode cc pc = .ok (.lreturn, 1)) (hw : W2 u = w) (hc : cs ≤ mc) (hs : ss ≤ ms) (hp : post v u) : YY p l e R s m args below meth c G B0 nL (MQ below (va_Ql post (fun (u : S) (t : State) => va_P G.1 vwCl (W2 u) t.heap ∧ va_D (fun q => B0 ≤ q) (W2 u)) (fun q => B0 ≤ q)) args s mc ms (fun q => B0 ≤ q)) (pc) (L) (.long v :: []) (w) (cs) (ss) := by
  subst hw
  intro H locs ls hl hP hD hS
  have hlocks := C.2.2.2.2.2.2.2.2
  refine W.widen hc hs ?_
  skip
  exact W.lret C.1 C.2.1 hr (fun t ht hW => ⟨⟨v, u, rfl, hp, by subst ht; exact ⟨hP, hD⟩⟩, hS.F ht⟩) hS.2.2 hd
theorem xe_l (C : CX p s m args meth c cc own nL G B0) {S : Type} {post : Int64 → S → Prop} {v : Int64} {W2 : S → va_W} {mc ms : Nat} {XC : String → State → State → Prop} (hr : meth.sig.returnType = some .long) (u : S) (hd : decode cc pc = .ok (.lreturn, 1)) (hw : W2 u = w) (hc : cs ≤ 0) (hs : ss ≤ 0) (hp : post v u) : YY p l e R s m args below meth c G B0 nL (vy_MQ below (va_Ql post (fun (u : S) (t : State) => va_P G.1 vwCl (W2 u) t.heap ∧ va_D (fun q => B0 ≤ q) (W2 u)) (fun q => B0 ≤ q)) XC args s mc ms (fun q => B0 ≤ q)) (pc) (L) (.long v :: []) (w) (cs) (ss) := by
  subst hw
  intro H locs ls hl hP hD hS
  have hlocks := C.2.2.2.2.2.2.2.2
  refine W.widen hc hs ?_
  refine vy_ret ?_
  exact W.lret C.1 C.2.1 hr (fun t ht hW => ⟨⟨v, u, rfl, hp, by subst ht; exact ⟨hP, hD⟩⟩, hS.F ht⟩) hS.2.2 hd
theorem ye_f (C : CX p s m args meth c cc own nL G B0) {S : Type} {post : UInt32 → S → Prop} {v : UInt32} {W2 : S → va_W} {mc ms : Nat} (hr : meth.sig.returnType = some .float) (u : S) (hd : decode cc pc = .ok (.freturn, 1)) (hw : W2 u = w) (hc : cs ≤ mc) (hs : ss ≤ ms) (hp : post v u) : YY p l e R s m args below meth c G B0 nL (MQ below (va_Qf post (fun (u : S) (t : State) => va_P G.1 vwCl (W2 u) t.heap ∧ va_D (fun q => B0 ≤ q) (W2 u)) (fun q => B0 ≤ q)) args s mc ms (fun q => B0 ≤ q)) (pc) (L) (.float v :: []) (w) (cs) (ss) := by
  subst hw
  intro H locs ls hl hP hD hS
  have hlocks := C.2.2.2.2.2.2.2.2
  refine W.widen hc hs ?_
  skip
  exact W.fret C.1 C.2.1 hr (fun t ht hW => ⟨⟨v, u, rfl, hp, by subst ht; exact ⟨hP, hD⟩⟩, hS.F ht⟩) hS.2.2 hd
theorem xe_f (C : CX p s m args meth c cc own nL G B0) {S : Type} {post : UInt32 → S → Prop} {v : UInt32} {W2 : S → va_W} {mc ms : Nat} {XC : String → State → State → Prop} (hr : meth.sig.returnType = some .float) (u : S) (hd : decode cc pc = .ok (.freturn, 1)) (hw : W2 u = w) (hc : cs ≤ 0) (hs : ss ≤ 0) (hp : post v u) : YY p l e R s m args below meth c G B0 nL (vy_MQ below (va_Qf post (fun (u : S) (t : State) => va_P G.1 vwCl (W2 u) t.heap ∧ va_D (fun q => B0 ≤ q) (W2 u)) (fun q => B0 ≤ q)) XC args s mc ms (fun q => B0 ≤ q)) (pc) (L) (.float v :: []) (w) (cs) (ss) := by
  subst hw
  intro H locs ls hl hP hD hS
  have hlocks := C.2.2.2.2.2.2.2.2
  refine W.widen hc hs ?_
  refine vy_ret ?_
  exact W.fret C.1 C.2.1 hr (fun t ht hW => ⟨⟨v, u, rfl, hp, by subst ht; exact ⟨hP, hD⟩⟩, hS.F ht⟩) hS.2.2 hd
theorem ye_v (C : CX p s m args meth c cc own nL G B0) {S : Type} {post : S → Prop} {W2 : S → va_W} {mc ms : Nat} (hr : meth.sig.returnType = none) (u : S) (hd : decode cc pc = .ok (.return_, 1)) (hw : W2 u = w) (hc : cs ≤ mc) (hs : ss ≤ ms) (hp : post u) : YY p l e R s m args below meth c G B0 nL (MQ below (va_Qv post (fun (u : S) (t : State) => va_P G.1 vwCl (W2 u) t.heap ∧ va_D (fun q => B0 ≤ q) (W2 u)) (fun q => B0 ≤ q)) args s mc ms (fun q => B0 ≤ q)) (pc) (L) ([]) (w) (cs) (ss) := by
  subst hw
  intro H locs ls hl hP hD hS
  have hlocks := C.2.2.2.2.2.2.2.2
  refine W.widen hc hs ?_
  skip
  exact W.vret C.1 C.2.1 hr (fun t ht hW => ⟨⟨u, rfl, hp, by subst ht; exact ⟨hP, hD⟩⟩, hS.F ht⟩) hS.2.2 hd
theorem xe_v (C : CX p s m args meth c cc own nL G B0) {S : Type} {post : S → Prop} {W2 : S → va_W} {mc ms : Nat} {XC : String → State → State → Prop} (hr : meth.sig.returnType = none) (u : S) (hd : decode cc pc = .ok (.return_, 1)) (hw : W2 u = w) (hc : cs ≤ 0) (hs : ss ≤ 0) (hp : post u) : YY p l e R s m args below meth c G B0 nL (vy_MQ below (va_Qv post (fun (u : S) (t : State) => va_P G.1 vwCl (W2 u) t.heap ∧ va_D (fun q => B0 ≤ q) (W2 u)) (fun q => B0 ≤ q)) XC args s mc ms (fun q => B0 ≤ q)) (pc) (L) ([]) (w) (cs) (ss) := by
  subst hw
  intro H locs ls hl hP hD hS
  have hlocks := C.2.2.2.2.2.2.2.2
  refine W.widen hc hs ?_
  refine vy_ret ?_
  exact W.vret C.1 C.2.1 hr (fun t ht hW => ⟨⟨u, rfl, hp, by subst ht; exact ⟨hP, hD⟩⟩, hS.F ht⟩) hS.2.2 hd
/-- an exception that a callee has thrown goes on to the caller -/
theorem xe_out (C : CX p s m args meth c cc own nL G B0) {SX : Type} {pX : String → SX → Prop} {WX : SX → va_W} {mc ms : Nat} {Qc : Array Value → State → Outcome → State → Prop} {E : String} (hno : ∀ x ∈ c.exceptionTable.toList, False) (u : SX) (hw : WX u = w) (hp : pX E u) (hc : cs ≤ mc) (hs : ss ≤ ms) : YX p l e R s m args below meth c G B0 nL (vy_MQ below Qc (vx_X (fun _ : SX => True) (fun (E : String) (u : SX) (t : State) => pX E u ∧ va_P G.1 vwCl (WX u) t.heap ∧ va_D (fun q => B0 ≤ q) (WX u)) (fun q => B0 ≤ q)) args s mc ms (fun q => B0 ≤ q)) (pc) (L) (st) (w) (cs) (ss) (E) := by
  subst hw
  intro H locs ls ce q hl hP hD hS h1 h2 h3
  exact vy_out (fun x hx => (hno x hx).elim) C.2.2.2.2.2.2.2.2 h1 h2 h3 (fun t ht hW => ⟨u, trivial, ⟨hp, by subst ht; exact hP, hD⟩, hS.F ht⟩) hS.2.2 hc hs
theorem xe_throwS (C : CX p s m args meth c cc own nL G B0) {SX : Type} {pX : String → SX → Prop} {WX : SX → va_W} {mc ms ik is ic : Nat} {text cls : String} {Qc : Array Value → State → Outcome → State → Prop} (hl0 : l.stackTraces = false) (T : thP own ik ic cls) (hno : ∀ x ∈ c.exceptionTable.toList, False) (hstr : (own, is, text) ∈ eStr) (d0 : decode cc pc = .ok (.new ik, 3)) (d3 : decode cc (pc + 3) = .ok (.dup, 1)) (d4 : decode cc (pc + 4) = .ok (.ldc is, 2)) (d6 : decode cc (pc + 6) = .ok (.invokespecial ic, 3)) (d9 : decode cc (pc + 9) = .ok (.athrow, 1)) (u : SX) (hw : WX u = w) (hp : pX cls u) (hf : 6 ≤ R.frames) (hlo : (st.map fun v => v.category).sum + 82 ≤ R.locals) (hcc : cs + 1 ≤ R.cells) (hss : ss + 6 ≤ R.slots) (hc : cs + 1 ≤ mc) (hs : ss + 6 ≤ ms) : YY p l e R s m args below meth c G B0 nL (vy_MQ below Qc (vx_X (fun _ : SX => True) (fun (E : String) (u : SX) (t : State) => pX E u ∧ va_P G.1 vwCl (WX u) t.heap ∧ va_D (fun q => B0 ≤ q) (WX u)) (fun q => B0 ≤ q)) args s mc ms (fun q => B0 ≤ q)) (pc) (L) (st) (w) (cs) (ss) := by
  subst hw
  intro H locs ls hl hP hD hS
  obtain ⟨a, ha⟩ := C.2.2.2.2.2.2.1.2.2.1 _ hstr
  refine vy_throwS (names := ["java/lang/RuntimeException", "java/lang/Exception"]) (A := fun q => B0 ≤ q) C.1 C.2.1 hl0 C.2.2.2.1 T.2.2.2.2.2.2 (by decide +kernel) (C.2.2.2.2.1 _ T.1) (C.2.2.2.2.1 _ T.2.1) ha (vx_hat (fun w hw => C.2.2.2.2.1 _ (T.2.2.1 w hw)) (B := Cond.castable cls cls :: eDecl.map Cond.declares) (fun w hw => T.2.2.2.1 w hw) (vx_c (va_Nw.use rfl (C.2.2.2.2.2.2.1.2.2.2.2.1 _ T.2.2.2.2.1)) (fun w hw => by obtain ⟨y, hy, rfl⟩ := List.mem_map.mp hw; exact va_Nw.use rfl (C.2.2.2.2.2.2.1.2.2.2.2.2.2 _ hy)))) T.2.2.2.2.2.1 C.2.2.2.2.2.2.1.1 C.2.2.2.2.2.2.1.2.1 hS (hl.1.trans C.2.2.1.symm) d0 d3 d4 d6 d9 (fun x hx => (hno x hx).elim) hf hlo hcc hss C.2.2.2.2.2.2.2.2 (fun t hW hz hk => ?_) hS.2.2 hc hs
  refine ⟨u, trivial, ⟨hp, hP.kept (fun k q hq => hk q.1 (hP k q hq).lt), hD⟩, Nat.le_trans hS.1 hz, fun q h1 h2 => ?_⟩
  rw [hk q (Nat.lt_of_lt_of_le h1 hS.1)]
  exact hS.2.1 q h1 h2
theorem xe_throwSW (C : CX p s m args meth c cc own nL G B0) {SX : Type} {pX : String → SX → Prop} {WX : SX → va_W} {mc ms ik is ic : Nat} {text cls : String} {Qc : Array Value → State → Outcome → State → Prop} (hl0 : l.stackTraces = false) (T : thP own ik ic cls) (hno : ∀ x ∈ c.exceptionTable.toList, False) (hstr : (own, is, text) ∈ eStr) (d0 : decode cc pc = .ok (.new ik, 3)) (d3 : decode cc (pc + 3) = .ok (.dup, 1)) (d4 : decode cc (pc + 4) = .ok (.ldc_w is, 3)) (d6 : decode cc (pc + 7) = .ok (.invokespecial ic, 3)) (d9 : decode cc (pc + 10) = .ok (.athrow, 1)) (u : SX) (hw : WX u = w) (hp : pX cls u) (hf : 6 ≤ R.frames) (hlo : (st.map fun v => v.category).sum + 82 ≤ R.locals) (hcc : cs + 1 ≤ R.cells) (hss : ss + 6 ≤ R.slots) (hc : cs + 1 ≤ mc) (hs : ss + 6 ≤ ms) : YY p l e R s m args below meth c G B0 nL (vy_MQ below Qc (vx_X (fun _ : SX => True) (fun (E : String) (u : SX) (t : State) => pX E u ∧ va_P G.1 vwCl (WX u) t.heap ∧ va_D (fun q => B0 ≤ q) (WX u)) (fun q => B0 ≤ q)) args s mc ms (fun q => B0 ≤ q)) (pc) (L) (st) (w) (cs) (ss) := by
  subst hw
  intro H locs ls hl hP hD hS
  obtain ⟨a, ha⟩ := C.2.2.2.2.2.2.1.2.2.1 _ hstr
  refine vy_throwSW (names := ["java/lang/RuntimeException", "java/lang/Exception"]) (A := fun q => B0 ≤ q) C.1 C.2.1 hl0 C.2.2.2.1 T.2.2.2.2.2.2 (by decide +kernel) (C.2.2.2.2.1 _ T.1) (C.2.2.2.2.1 _ T.2.1) ha (vx_hat (fun w hw => C.2.2.2.2.1 _ (T.2.2.1 w hw)) (B := Cond.castable cls cls :: eDecl.map Cond.declares) (fun w hw => T.2.2.2.1 w hw) (vx_c (va_Nw.use rfl (C.2.2.2.2.2.2.1.2.2.2.2.1 _ T.2.2.2.2.1)) (fun w hw => by obtain ⟨y, hy, rfl⟩ := List.mem_map.mp hw; exact va_Nw.use rfl (C.2.2.2.2.2.2.1.2.2.2.2.2.2 _ hy)))) T.2.2.2.2.2.1 C.2.2.2.2.2.2.1.1 C.2.2.2.2.2.2.1.2.1 hS (hl.1.trans C.2.2.1.symm) d0 d3 d4 d6 d9 (fun x hx => (hno x hx).elim) hf hlo hcc hss C.2.2.2.2.2.2.2.2 (fun t hW hz hk => ?_) hS.2.2 hc hs
  refine ⟨u, trivial, ⟨hp, hP.kept (fun k q hq => hk q.1 (hP k q hq).lt), hD⟩, Nat.le_trans hS.1 hz, fun q h1 h2 => ?_⟩
  rw [hk q (Nat.lt_of_lt_of_le h1 hS.1)]
  exact hS.2.1 q h1 h2
/-- caught here -/
theorem xe_catch (C : CX p s m args meth c cc own nL G B0) {name E : String} (pre : List ExceptionTableEntry) (x : ExceptionTableEntry) (suf : List ExceptionTableEntry) (hsp : c.exceptionTable.toList = pre ++ x :: suf) (hpass : ∀ z ∈ pre, covers z pc = false ∨ (z.catchType ≠ 0 ∧ ∃ nm : String, Cond.classLink own z.catchType nm ∈ WG ∧ (E, nm) ∈ eNc)) (hx : covers x pc = true) (h0 : x.catchType ≠ 0) (hlink : Cond.classLink own x.catchType name ∈ WG) (hcast : (E, name) ∈ eCast) (hpc : x.handlerPc = pc') (k : ∀ q : Nat, YY p l e R s m args below meth c G B0 nL Q (pc') (L) (.ref q :: []) (w) (cs) (ss)) : YX p l e R s m args below meth c G B0 nL Q (pc) (L) (st) (w) (cs) (ss) (E) := by
  subst hpc
  intro H locs ls ce q hl hP hD hS h1 h2 h3
  refine vx_catch C.2.2.2.1 pre x suf hsp (fun z hz => ?_) hx h0 (C.2.2.2.2.1 _ hlink) (va_Nw.use rfl (C.2.2.2.2.2.2.1.2.2.2.2.1 _ hcast)) h1 h2 h3 (k q H locs ls hl hP hD hS)
  rcases hpass z hz with h | ⟨h4, nm, h5, h6⟩
  · exact Or.inl h
  · exact Or.inr ⟨h4, nm, C.2.2.2.2.1 _ h5, C.2.2.2.2.2.2.1.2.2.2.2.2.1 _ h6⟩
theorem yy_objInit (C : CX p s m args meth c cc own nL G B0) {q : Nat} {idx : Nat} (h1 : Cond.methodLink own idx Lib.objectInit ∈ WG) (h2 : Cond.instanceMethod Lib.objectInit ∈ WG) (h3 : Cond.code Lib.objectInit ⟨#[0xb1]⟩ 1 none ∈ WG) (hd : decode cc pc = .ok (.invokespecial idx, 3)) (hn : pc + 3 = pc') (hf : 1 ≤ R.frames) (hlo : (st.map fun v => v.category).sum + 12 ≤ R.locals) (k : YY p l e R s m args below meth c G B0 nL Q (pc') (L) (st) (w) (cs) (ss)) : YY p l e R s m args below meth c G B0 nL Q (pc) (L) (.ref q :: st) (w) (cs) (ss) := by
  subst hn
  intro H locs ls hl hP hD hS
  refine W.objInit C.1 C.2.1 C.2.2.2.1 (C.2.2.2.2.1 _ h1) (C.2.2.2.2.1 _ h2) (C.2.2.2.2.1 _ h3) rfl (hl.1.trans C.2.2.1.symm) rfl hd hf (by show 2 * 0 + _ + 12 ≤ _; omega) ?_
  exact W.eq (g2 := F0 m (pc + 3) ls st) rfl (k H locs ls hl hP hD hS)
end YM
theorem met_of {l : Launch} {y : MethodName} {cc : ByteArray} {maxL : Nat} {ret : Option FieldType} {rm : Room} {av : List Value} {G : gG} {B0 : Nat} {w : va_W} {Qc : Array Value → State → Outcome → State → Prop} (own : String) (L : List (Nat × Value)) (hown : y.cls = own) (hy : plainName y.cls = true) (hLl : (lg_sl av).length ≤ maxL) (hL : lv_args 0 av = L)
    (body : ∀ (p : Program) (e : Env) (s : State) (m : MethodId) (args : Array Value) (below : List Frame) (meth : Method) (c : Code), CX p s m args meth c cc own maxL G B0 → meth.sig.returnType = ret → meth.name = y.name → YY p l e rm s m args below meth c G B0 maxL (MQ below Qc args s rm.cells rm.slots (fun q => B0 ≤ q)) 0 L [] w 0 0) : Met l y (Cond.code y cc maxL ret :: WG) rm (va_Pc av (PR G B0 w)) Qc rm.cells rm.slots (fun q => B0 ≤ q) := by
  refine Met.ofW (cc := cc) (maxL := maxL) (ret := ret) hy rfl ?_
  intro p e s m args below meth c s₁ B hml hv
  obtain ⟨rfl, h1, h2, h3, h4, h5⟩ := hv
  have hts := atoms_spec (ws := Cond.code y cc maxL ret :: WG) B.pre
  have hl := lv_entry av (n := maxL) hLl
  rw [lg_entry_eq]
  subst hown; subst hL
  exact body p e s m _ below meth c ⟨B.exec, B.bytes, hml, findClass_of_methodNamed B.named, fun w hw => hts w (List.mem_cons_of_mem _ hw), h3, h5, h1, B.notSynchronized⟩ B.returns (name_of_methodNamed B.named B.method).1  s.heap [] _ hl h2 h4 va_S.rf
theorem xmet_of {l : Launch} {y : MethodName} {cc : ByteArray} {maxL : Nat} {ret : Option FieldType} {rm : Room} {av : List Value} {G : gG} {B0 : Nat} {w : va_W} {Qc : Array Value → State → Outcome → State → Prop} {XC : String → State → State → Prop} (own : String) (L : List (Nat × Value)) (hown : y.cls = own) (hy : plainName y.cls = true) (hLl : (lg_sl av).length ≤ maxL) (hL : lv_args 0 av = L)
    (body : ∀ (p : Program) (e : Env) (s : State) (m : MethodId) (args : Array Value) (below : List Frame) (meth : Method) (c : Code), CX p s m args meth c cc own maxL G B0 → meth.sig.returnType = ret → meth.name = y.name → (∀ x ∈ c.exceptionTable.toList, False) → YY p l e rm s m args below meth c G B0 maxL (vy_MQ below Qc XC args s rm.cells rm.slots (fun q => B0 ≤ q)) 0 L [] w 0 0) : vy_Met l y (Cond.code y cc maxL ret :: WG) rm (va_Pc av (PR G B0 w)) Qc XC rm.cells rm.slots (fun q => B0 ≤ q) := by
  refine vy_ofW (cc := cc) (maxL := maxL) (ret := ret) hy rfl ?_
  intro p e s m args below meth c s₁ B hml ht hv
  obtain ⟨rfl, h1, h2, h3, h4, h5⟩ := hv
  have hts := atoms_spec (ws := Cond.code y cc maxL ret :: WG) B.pre
  have hl := lv_entry av (n := maxL) hLl
  rw [lg_entry_eq]
  subst hown; subst hL
  exact body p e s m _ below meth c ⟨B.exec, B.bytes, hml, findClass_of_methodNamed B.named, fun w hw => hts w (List.mem_cons_of_mem _ hw), h3, h5, h1, B.notSynchronized⟩ B.returns (name_of_methodNamed B.named B.method).1 ht s.heap [] _ hl h2 h4 va_S.rf
theorem metW_of {l : Launch} {y : MethodName} {cc : ByteArray} {maxL : Nat} {ret : Option FieldType} {hh : List (Nat × Nat × Nat × Nat)} {rm : Room} {av : List Value} {G : gG} {B0 : Nat} {w : va_W} {Qc : Array Value → State → Outcome → State → Prop} (own : String) (L : List (Nat × Value)) (hown : y.cls = own) (hy : plainName y.cls = true) (hLl : (lg_sl av).length ≤ maxL) (hL : lv_args 0 av = L)
    (body : ∀ (p : Program) (e : Env) (s : State) (m : MethodId) (args : Array Value) (below : List Frame) (meth : Method) (c : Code), CX p s m args meth c cc own maxL G B0 → meth.sig.returnType = ret → meth.name = y.name → c.exceptionTable.toList = tableOf hh → YY p l e rm s m args below meth c G B0 maxL (MQ below Qc args s rm.cells rm.slots (fun q => B0 ≤ q)) 0 L [] w 0 0) : Met l y (Cond.codeWith y cc maxL ret hh :: WG) rm (va_Pc av (PR G B0 w)) Qc rm.cells rm.slots (fun q => B0 ≤ q) := by
  refine va_MetW (cc := cc) (maxL := maxL) (ret := ret) (hh := hh) hy rfl ?_
  intro p e s m args below meth c s₁ B hml hv
  obtain ⟨rfl, h1, h2, h3, h4, h5⟩ := hv
  have hts := atoms_spec (ws := Cond.codeWith y cc maxL ret hh :: WG) B.pre
  have hl := lv_entry av (n := maxL) hLl
  rw [lg_entry_eq]
  subst hown; subst hL
  exact body p e s m _ below meth c ⟨B.exec, B.bytes, hml, findClass_of_methodNamed B.named, fun w hw => hts w (List.mem_cons_of_mem _ hw), h3, h5, h1, B.notSynchronized⟩ B.returns (name_of_methodNamed B.named B.method).1 (vx_table (x := y) B (atoms_spec (ws := Cond.codeWith y cc maxL ret hh :: WG) B.pre _ List.mem_cons_self)) s.heap [] _ hl h2 h4 va_S.rf
