section
-- ===== PART A: goes FIRST, ahead of the names: the tables' words, and 'selects' of the private methods out of them =====
/-- a private method of a class that the tables say can be made, by its rows of tables_1 -/
def lw_okq (q : MethodName × Nat) : Prop := (q.1.cls ≠ "java/lang/invoke/MethodHandle" ∧ q.1.cls ≠ "java/lang/invoke/VarHandle") ∧ Cond.instantiable q.1.cls q.2 ∈ tables_1 ∧ Cond.privateMethod q.1 ∈ tables_1 ∧ Cond.instanceMethod q.1 ∈ tables_1
theorem lw_p0 : lw_okq (⟨"Archivepress", "countHidden", "()I"⟩, 11) := ⟨⟨by decide +kernel, by decide +kernel⟩, List.mem_of_getElem? (i := 19) (by decide +kernel), List.mem_of_getElem? (i := 203) (by decide +kernel), List.mem_of_getElem? (i := 204) (by decide +kernel)⟩
theorem lw_p1 : lw_okq (⟨"Archivepress", "isHiddenToday", "(I)Z"⟩, 11) := ⟨⟨by decide +kernel, by decide +kernel⟩, List.mem_of_getElem? (i := 19) (by decide +kernel), List.mem_of_getElem? (i := 207) (by decide +kernel), List.mem_of_getElem? (i := 208) (by decide +kernel)⟩
theorem lw_p2 : lw_okq (⟨"Archivepress", "isHiddenByRule", "(I)Z"⟩, 11) := ⟨⟨by decide +kernel, by decide +kernel⟩, List.mem_of_getElem? (i := 19) (by decide +kernel), List.mem_of_getElem? (i := 211) (by decide +kernel), List.mem_of_getElem? (i := 212) (by decide +kernel)⟩
theorem lw_p3 : lw_okq (⟨"Archivepress", "isHiddenBySpan", "(I)Z"⟩, 11) := ⟨⟨by decide +kernel, by decide +kernel⟩, List.mem_of_getElem? (i := 19) (by decide +kernel), List.mem_of_getElem? (i := 219) (by decide +kernel), List.mem_of_getElem? (i := 220) (by decide +kernel)⟩
theorem lw_p4 : lw_okq (⟨"java/lang/Throwable", "fillInStackTrace", "(I)Ljava/lang/Throwable;"⟩, 6) := ⟨⟨by decide +kernel, by decide +kernel⟩, List.mem_of_getElem? (i := 299) (by decide +kernel), List.mem_of_getElem? (i := 297) (by decide +kernel), List.mem_of_getElem? (i := 298) (by decide +kernel)⟩
theorem lw_p5 : lw_okq (⟨"Archivepress", "requireDocument", "(I)V"⟩, 11) := ⟨⟨by decide +kernel, by decide +kernel⟩, List.mem_of_getElem? (i := 19) (by decide +kernel), List.mem_of_getElem? (i := 338) (by decide +kernel), List.mem_of_getElem? (i := 339) (by decide +kernel)⟩
theorem lw_p6 : lw_okq (⟨"Archivepress", "requireLine", "(I)V"⟩, 11) := ⟨⟨by decide +kernel, by decide +kernel⟩, List.mem_of_getElem? (i := 19) (by decide +kernel), List.mem_of_getElem? (i := 389) (by decide +kernel), List.mem_of_getElem? (i := 390) (by decide +kernel)⟩
theorem lw_p7 : lw_okq (⟨"Archivepress", "requireLastDay", "(I)V"⟩, 11) := ⟨⟨by decide +kernel, by decide +kernel⟩, List.mem_of_getElem? (i := 19) (by decide +kernel), List.mem_of_getElem? (i := 426) (by decide +kernel), List.mem_of_getElem? (i := 427) (by decide +kernel)⟩
theorem lw_p8 : lw_okq (⟨"Archivepress", "growAllHeld", "()V"⟩, 11) := ⟨⟨by decide +kernel, by decide +kernel⟩, List.mem_of_getElem? (i := 19) (by decide +kernel), List.mem_of_getElem? (i := 497) (by decide +kernel), List.mem_of_getElem? (i := 498) (by decide +kernel)⟩
theorem lw_p9 : lw_okq (⟨"Archivepress$Joins", "addTold", "(J)J"⟩, 3) := ⟨⟨by decide +kernel, by decide +kernel⟩, List.mem_of_getElem? (i := 105) (by decide +kernel), List.mem_of_getElem? (i := 505) (by decide +kernel), List.mem_of_getElem? (i := 506) (by decide +kernel)⟩
theorem lw_p10 : lw_okq (⟨"Archivepress", "requireNotHeld", "(II)V"⟩, 11) := ⟨⟨by decide +kernel, by decide +kernel⟩, List.mem_of_getElem? (i := 19) (by decide +kernel), List.mem_of_getElem? (i := 570) (by decide +kernel), List.mem_of_getElem? (i := 571) (by decide +kernel)⟩
theorem lw_p11 : lw_okq (⟨"Archivepress", "findProtectedLine", "(II)I"⟩, 11) := ⟨⟨by decide +kernel, by decide +kernel⟩, List.mem_of_getElem? (i := 19) (by decide +kernel), List.mem_of_getElem? (i := 575) (by decide +kernel), List.mem_of_getElem? (i := 576) (by decide +kernel)⟩
theorem lw_p12 : lw_okq (⟨"Archivepress", "findLowestHidden", "(J)I"⟩, 11) := ⟨⟨by decide +kernel, by decide +kernel⟩, List.mem_of_getElem? (i := 19) (by decide +kernel), List.mem_of_getElem? (i := 580) (by decide +kernel), List.mem_of_getElem? (i := 581) (by decide +kernel)⟩
theorem lw_p13 : lw_okq (⟨"Archivepress", "countHidingReasons", "(I)I"⟩, 11) := ⟨⟨by decide +kernel, by decide +kernel⟩, List.mem_of_getElem? (i := 19) (by decide +kernel), List.mem_of_getElem? (i := 615) (by decide +kernel), List.mem_of_getElem? (i := 616) (by decide +kernel)⟩
theorem lw_p14 : lw_okq (⟨"Archivepress", "requireRequest", "(I)V"⟩, 11) := ⟨⟨by decide +kernel, by decide +kernel⟩, List.mem_of_getElem? (i := 19) (by decide +kernel), List.mem_of_getElem? (i := 662) (by decide +kernel), List.mem_of_getElem? (i := 663) (by decide +kernel)⟩
theorem lw_p15 : lw_okq (⟨"Archivepress", "requireWaiting", "(I)V"⟩, 11) := ⟨⟨by decide +kernel, by decide +kernel⟩, List.mem_of_getElem? (i := 19) (by decide +kernel), List.mem_of_getElem? (i := 674) (by decide +kernel), List.mem_of_getElem? (i := 675) (by decide +kernel)⟩
def lw_privs_1 : List (MethodName × Nat) := [(⟨"Archivepress", "countHidden", "()I"⟩, 11), (⟨"Archivepress", "isHiddenToday", "(I)Z"⟩, 11), (⟨"Archivepress", "isHiddenByRule", "(I)Z"⟩, 11), (⟨"Archivepress", "isHiddenBySpan", "(I)Z"⟩, 11), (⟨"java/lang/Throwable", "fillInStackTrace", "(I)Ljava/lang/Throwable;"⟩, 6), (⟨"Archivepress", "requireDocument", "(I)V"⟩, 11), (⟨"Archivepress", "requireLine", "(I)V"⟩, 11), (⟨"Archivepress", "requireLastDay", "(I)V"⟩, 11), (⟨"Archivepress", "growAllHeld", "()V"⟩, 11), (⟨"Archivepress$Joins", "addTold", "(J)J"⟩, 3), (⟨"Archivepress", "requireNotHeld", "(II)V"⟩, 11), (⟨"Archivepress", "findProtectedLine", "(II)I"⟩, 11), (⟨"Archivepress", "findLowestHidden", "(J)I"⟩, 11), (⟨"Archivepress", "countHidingReasons", "(I)I"⟩, 11), (⟨"Archivepress", "requireRequest", "(I)V"⟩, 11), (⟨"Archivepress", "requireWaiting", "(I)V"⟩, 11)]
theorem lw_r1 : ∀ q ∈ lw_privs_1, lw_okq q := List.forall_mem_cons.mpr ⟨lw_p0, List.forall_mem_cons.mpr ⟨lw_p1, List.forall_mem_cons.mpr ⟨lw_p2, List.forall_mem_cons.mpr ⟨lw_p3, List.forall_mem_cons.mpr ⟨lw_p4, List.forall_mem_cons.mpr ⟨lw_p5, List.forall_mem_cons.mpr ⟨lw_p6, List.forall_mem_cons.mpr ⟨lw_p7, List.forall_mem_cons.mpr ⟨lw_p8, List.forall_mem_cons.mpr ⟨lw_p9, List.forall_mem_cons.mpr ⟨lw_p10, List.forall_mem_cons.mpr ⟨lw_p11, List.forall_mem_cons.mpr ⟨lw_p12, List.forall_mem_cons.mpr ⟨lw_p13, List.forall_mem_cons.mpr ⟨lw_p14, List.forall_mem_cons.mpr ⟨lw_p15, fun _ h => absurd h List.not_mem_nil⟩⟩⟩⟩⟩⟩⟩⟩⟩⟩⟩⟩⟩⟩⟩⟩
theorem lw_p16 : lw_okq (⟨"Archivepress", "giveDocument", "(II)I"⟩, 11) := ⟨⟨by decide +kernel, by decide +kernel⟩, List.mem_of_getElem? (i := 19) (by decide +kernel), List.mem_of_getElem? (i := 679) (by decide +kernel), List.mem_of_getElem? (i := 680) (by decide +kernel)⟩
theorem lw_p17 : lw_okq (⟨"Archivepress", "isFreeFor", "(II)Z"⟩, 11) := ⟨⟨by decide +kernel, by decide +kernel⟩, List.mem_of_getElem? (i := 19) (by decide +kernel), List.mem_of_getElem? (i := 683) (by decide +kernel), List.mem_of_getElem? (i := 684) (by decide +kernel)⟩
theorem lw_p18 : lw_okq (⟨"Archivepress", "give", "(II)V"⟩, 11) := ⟨⟨by decide +kernel, by decide +kernel⟩, List.mem_of_getElem? (i := 19) (by decide +kernel), List.mem_of_getElem? (i := 687) (by decide +kernel), List.mem_of_getElem? (i := 688) (by decide +kernel)⟩
theorem lw_p19 : lw_okq (⟨"ArchivepressModel", "refuse", "(I)I"⟩, 31) := ⟨⟨by decide +kernel, by decide +kernel⟩, List.mem_of_getElem? (i := 746) (by decide +kernel), List.mem_of_getElem? (i := 854) (by decide +kernel), List.mem_of_getElem? (i := 855) (by decide +kernel)⟩
theorem lw_p20 : lw_okq (⟨"ArchivepressModel", "noDocument", "(I)Z"⟩, 31) := ⟨⟨by decide +kernel, by decide +kernel⟩, List.mem_of_getElem? (i := 746) (by decide +kernel), List.mem_of_getElem? (i := 862) (by decide +kernel), List.mem_of_getElem? (i := 863) (by decide +kernel)⟩
theorem lw_p21 : lw_okq (⟨"ArchivepressModel", "noLine", "(I)Z"⟩, 31) := ⟨⟨by decide +kernel, by decide +kernel⟩, List.mem_of_getElem? (i := 746) (by decide +kernel), List.mem_of_getElem? (i := 873) (by decide +kernel), List.mem_of_getElem? (i := 874) (by decide +kernel)⟩
theorem lw_p22 : lw_okq (⟨"ArchivepressModel", "index", "(I)I"⟩, 31) := ⟨⟨by decide +kernel, by decide +kernel⟩, List.mem_of_getElem? (i := 746) (by decide +kernel), List.mem_of_getElem? (i := 885) (by decide +kernel), List.mem_of_getElem? (i := 886) (by decide +kernel)⟩
theorem lw_p23 : lw_okq (⟨"ArchivepressModel", "hiddenLines", "()I"⟩, 31) := ⟨⟨by decide +kernel, by decide +kernel⟩, List.mem_of_getElem? (i := 746) (by decide +kernel), List.mem_of_getElem? (i := 905) (by decide +kernel), List.mem_of_getElem? (i := 906) (by decide +kernel)⟩
theorem lw_p24 : lw_okq (⟨"ArchivepressModel", "hides", "(I)Z"⟩, 31) := ⟨⟨by decide +kernel, by decide +kernel⟩, List.mem_of_getElem? (i := 746) (by decide +kernel), List.mem_of_getElem? (i := 909) (by decide +kernel), List.mem_of_getElem? (i := 910) (by decide +kernel)⟩
theorem lw_p25 : lw_okq (⟨"ArchivepressModel", "byRule", "(I)Z"⟩, 31) := ⟨⟨by decide +kernel, by decide +kernel⟩, List.mem_of_getElem? (i := 746) (by decide +kernel), List.mem_of_getElem? (i := 913) (by decide +kernel), List.mem_of_getElem? (i := 914) (by decide +kernel)⟩
theorem lw_p26 : lw_okq (⟨"ArchivepressModel", "bySpan", "(I)Z"⟩, 31) := ⟨⟨by decide +kernel, by decide +kernel⟩, List.mem_of_getElem? (i := 746) (by decide +kernel), List.mem_of_getElem? (i := 917) (by decide +kernel), List.mem_of_getElem? (i := 918) (by decide +kernel)⟩
theorem lw_p27 : lw_okq (⟨"ArchivepressModel", "grows", "(I)V"⟩, 31) := ⟨⟨by decide +kernel, by decide +kernel⟩, List.mem_of_getElem? (i := 746) (by decide +kernel), List.mem_of_getElem? (i := 933) (by decide +kernel), List.mem_of_getElem? (i := 934) (by decide +kernel)⟩
theorem lw_p28 : lw_okq (⟨"ArchivepressModel", "noAsker", "(I)Z"⟩, 31) := ⟨⟨by decide +kernel, by decide +kernel⟩, List.mem_of_getElem? (i := 746) (by decide +kernel), List.mem_of_getElem? (i := 941) (by decide +kernel), List.mem_of_getElem? (i := 942) (by decide +kernel)⟩
theorem lw_p29 : lw_okq (⟨"ArchivepressModel", "noReasons", "(II)Z"⟩, 31) := ⟨⟨by decide +kernel, by decide +kernel⟩, List.mem_of_getElem? (i := 746) (by decide +kernel), List.mem_of_getElem? (i := 966) (by decide +kernel), List.mem_of_getElem? (i := 967) (by decide +kernel)⟩
theorem lw_p30 : lw_okq (⟨"ArchivepressModel", "first", "(II)C"⟩, 31) := ⟨⟨by decide +kernel, by decide +kernel⟩, List.mem_of_getElem? (i := 746) (by decide +kernel), List.mem_of_getElem? (i := 970) (by decide +kernel), List.mem_of_getElem? (i := 971) (by decide +kernel)⟩
theorem lw_p31 : lw_okq (⟨"ArchivepressModel", "betrayed", "(II)I"⟩, 31) := ⟨⟨by decide +kernel, by decide +kernel⟩, List.mem_of_getElem? (i := 746) (by decide +kernel), List.mem_of_getElem? (i := 974) (by decide +kernel), List.mem_of_getElem? (i := 975) (by decide +kernel)⟩
def lw_privs_2 : List (MethodName × Nat) := [(⟨"Archivepress", "giveDocument", "(II)I"⟩, 11), (⟨"Archivepress", "isFreeFor", "(II)Z"⟩, 11), (⟨"Archivepress", "give", "(II)V"⟩, 11), (⟨"ArchivepressModel", "refuse", "(I)I"⟩, 31), (⟨"ArchivepressModel", "noDocument", "(I)Z"⟩, 31), (⟨"ArchivepressModel", "noLine", "(I)Z"⟩, 31), (⟨"ArchivepressModel", "index", "(I)I"⟩, 31), (⟨"ArchivepressModel", "hiddenLines", "()I"⟩, 31), (⟨"ArchivepressModel", "hides", "(I)Z"⟩, 31), (⟨"ArchivepressModel", "byRule", "(I)Z"⟩, 31), (⟨"ArchivepressModel", "bySpan", "(I)Z"⟩, 31), (⟨"ArchivepressModel", "grows", "(I)V"⟩, 31), (⟨"ArchivepressModel", "noAsker", "(I)Z"⟩, 31), (⟨"ArchivepressModel", "noReasons", "(II)Z"⟩, 31), (⟨"ArchivepressModel", "first", "(II)C"⟩, 31), (⟨"ArchivepressModel", "betrayed", "(II)I"⟩, 31)]
theorem lw_r2 : ∀ q ∈ lw_privs_2, lw_okq q := List.forall_mem_cons.mpr ⟨lw_p16, List.forall_mem_cons.mpr ⟨lw_p17, List.forall_mem_cons.mpr ⟨lw_p18, List.forall_mem_cons.mpr ⟨lw_p19, List.forall_mem_cons.mpr ⟨lw_p20, List.forall_mem_cons.mpr ⟨lw_p21, List.forall_mem_cons.mpr ⟨lw_p22, List.forall_mem_cons.mpr ⟨lw_p23, List.forall_mem_cons.mpr ⟨lw_p24, List.forall_mem_cons.mpr ⟨lw_p25, List.forall_mem_cons.mpr ⟨lw_p26, List.forall_mem_cons.mpr ⟨lw_p27, List.forall_mem_cons.mpr ⟨lw_p28, List.forall_mem_cons.mpr ⟨lw_p29, List.forall_mem_cons.mpr ⟨lw_p30, List.forall_mem_cons.mpr ⟨lw_p31, fun _ h => absurd h List.not_mem_nil⟩⟩⟩⟩⟩⟩⟩⟩⟩⟩⟩⟩⟩⟩⟩⟩
theorem lw_p32 : lw_okq (⟨"ArchivepressModel", "cause", "(II)I"⟩, 31) := ⟨⟨by decide +kernel, by decide +kernel⟩, List.mem_of_getElem? (i := 746) (by decide +kernel), List.mem_of_getElem? (i := 982) (by decide +kernel), List.mem_of_getElem? (i := 983) (by decide +kernel)⟩
theorem lw_p33 : lw_okq (⟨"ArchivepressModel", "noRequest", "(I)Z"⟩, 31) := ⟨⟨by decide +kernel, by decide +kernel⟩, List.mem_of_getElem? (i := 746) (by decide +kernel), List.mem_of_getElem? (i := 998) (by decide +kernel), List.mem_of_getElem? (i := 999) (by decide +kernel)⟩
theorem lw_p34 : lw_okq (⟨"ArchivepressModel", "lateOnes", "()I"⟩, 31) := ⟨⟨by decide +kernel, by decide +kernel⟩, List.mem_of_getElem? (i := 746) (by decide +kernel), List.mem_of_getElem? (i := 1026) (by decide +kernel), List.mem_of_getElem? (i := 1027) (by decide +kernel)⟩
def lw_privs_3 : List (MethodName × Nat) := [(⟨"ArchivepressModel", "cause", "(II)I"⟩, 31), (⟨"ArchivepressModel", "noRequest", "(I)Z"⟩, 31), (⟨"ArchivepressModel", "lateOnes", "()I"⟩, 31)]
theorem lw_r3 : ∀ q ∈ lw_privs_3, lw_okq q := List.forall_mem_cons.mpr ⟨lw_p32, List.forall_mem_cons.mpr ⟨lw_p33, List.forall_mem_cons.mpr ⟨lw_p34, fun _ h => absurd h List.not_mem_nil⟩⟩⟩
def lw_privs : List (MethodName × Nat) := lw_privs_1 ++ (lw_privs_2 ++ (lw_privs_3))
def lw_tbl : List Cond := k2_sels lw_privs ++ tables_1
theorem lw_privs_ok : ∀ q ∈ lw_privs, lw_okq q := by
  show ∀ q ∈ lw_privs_1 ++ (lw_privs_2 ++ (lw_privs_3)), lw_okq q
  exact List.forall_mem_append.mpr ⟨lw_r1, List.forall_mem_append.mpr ⟨lw_r2, lw_r3⟩⟩
/-- the streams that the claim lets the run draw from -/
abbrev lw_cs : List Choice := [Jvm.Choice.named "NaN.bits"]
theorem lw_bits : nanBits ∈ lw_cs := by first | decide | exact List.mem_cons_self | simp [lw_cs, nanBits]
end
section
/-! ===== BEGIN words of one list among another's, by their places ===== -/
theorem goodIn_r {big : List Cond} (ws : List Cond) (ps : List Nat) (hp : ws = ps.filterMap (fun i => big[i]?)) (h : ws.all goodWord = true) : GoodIn big ws := by
  intro w hw
  have h1 := List.all_eq_true.mp h w hw
  rw [hp] at hw
  obtain ⟨i, -, hi⟩ := List.mem_filterMap.mp hw
  have hm : w ∈ big := by first | exact List.mem_of_getElem? hi | exact List.getElem?_mem hi
  exact ⟨hm, good_of_word h1⟩
theorem goodIn_app {big a b : List Cond} (ha : GoodIn big a) (hb : GoodIn big b) : GoodIn big (a ++ b) := fun w h => (List.mem_append.mp h).elim (ha w) (hb w)
theorem goodIn_ca {big a b : List Cond} {c : Cond} (ha : GoodIn big (c :: a)) (hb : GoodIn big b) : GoodIn big (c :: (a ++ b)) := fun w h => (List.mem_cons.mp h).elim (fun e => ha w (List.mem_cons.mpr (Or.inl e))) (fun h => (List.mem_append.mp h).elim (fun h => ha w (List.mem_cons.mpr (Or.inr h))) (hb w))
theorem goodIn_sub {big ws : List Cond} (hm : ∀ w ∈ ws, w ∈ big) (h : ws.all goodWord = true) : GoodIn big ws := fun w hw => ⟨hm w hw, good_of_word (List.all_eq_true.mp h w hw)⟩
/-! ===== END ===== -/

/-! ===== BEGIN exceptions that leave a method, and their catching by the caller (launches without stack traces) ===== -/
section VXA
/-! The laws vx_back, vx_callV, vx_callS, vx_callSW, vx_throw0, vx_throwS follow proofs of the library, with one case more: JvmDerived/Free/Laws.lean (Back.of_free), Shelf42/LK1.lean (callV, callS), Shelf/KitTraced.lean (throwNew0V, throwNewS). -/
/-- where a method has thrown q: the class by its name, the cell, what was written, the world -/
def vx_T (XC : String → State → State → Prop) (st : State) (q : Addr) (t : State) (mc ms : Nat) (free : Addr → Prop) : Prop :=
  ∃ (E : String) (ce : Cell) (L : List Loc), XC E st t ∧ t.heap[q]? = some ce ∧ ce.vm = .none ∧ st.vm.findClass E = some ce.cls ∧ st.WarmedH t.vm ∧ st.sameButNew ({ t with vm := st.vm } : State) L mc ms ∧ ∀ z ∈ L, free z.base
def vx_Q (Qc : Array Value → State → Outcome → State → Prop) (XC : String → State → State → Prop) (mc ms : Nat) (free : Addr → Prop) : Array Value → State → Outcome → State → Prop := fun a st o t =>
  (Qc a st o t ∧ ∃ L, FrameEnd st o t L mc ms ∧ ∀ q ∈ L, free q.base) ∨ ∃ q, o = .threw q ∧ vx_T XC st q t mc ms free
/-- a callee that returns or throws -/
def vx_Met (l : Launch) (y : MethodName) (ws : List Cond) (rm : Room) (Pc : Array Value → State → Prop) (Qc : Array Value → State → Outcome → State → Prop) (XC : String → State → State → Prop) (mc ms : Nat) (free : Addr → Prop) : Prop :=
  MetFree l y (headSpec ws rm) Pc (fun _ _ _ _ _ => True) (vx_Q Qc XC mc ms free)
def vx_Post (XC : String → State → State → Prop) (mc ms : Nat) (free : Addr → Prop) : Pt → Array Value → Addr → Pt → Prop := fun A a q B =>
  ∃ (g : JFrame) (mk : MethodId) (t : State) (L : List Loc) (E : String) (ce : Cell), B.U.heap = t.heap ∧ B.U.vm = t.vm ∧ XC E (A.U.calling g mk a) t ∧ t.heap[q]? = some ce ∧ ce.vm = .none ∧ A.U.vm.findClass E = some ce.cls ∧ B.locs = A.locs ++ L ∧ (∀ z ∈ L, free z.base) ∧ B.cells = A.cells + mc ∧ B.slots = A.slots + ms
def vx_Back (l : Launch) (R : Room) (p : Program) (e : Env) (below : List Frame) (s : State) (sargs : Array Value) (y : MethodName) (len W9 : Nat)
    (Pre : Pt → Array Value → Prop) (Post : Pt → Array Value → Option Value → Pt → Prop) (PostX : Pt → Array Value → Addr → Pt → Prop) : Prop :=
  ∀ (m : MethodId) (meth : Method) (c : Code) (A : Pt) (g : JFrame) (ig : Instr) (mk : MethodId) (a : Array Value),
    Stand p l e R s m sargs below meth c A.U A.locs A.cells A.slots → g.method = m → g.locals.size = c.maxLocals → decode c.code g.pc = .ok (ig, len) →
    2 * g.monitorRoom + (g.stack.map fun v => v.category).sum ≤ W9 → A.U.methodNamed? y = some mk → Pre A a →
    (∃ (v : Option Value) (B : Pt), Stand p l e R s m sargs below meth c B.U B.locs B.cells B.slots ∧ Post A a v B ∧
      Steps p.tables e below (doInvoke e (A.U.setTop g) [] mk a).1 (B.U.setTop { g with pc := g.pc + len, stack := v.toList ++ g.stack })) ∨
    (∃ (q : Addr) (B : Pt), Stand p l e R s m sargs below meth c B.U B.locs B.cells B.slots ∧ PostX A a q B ∧
      Steps p.tables e below (doInvoke e (A.U.setTop g) [] mk a).1 ((B.U.setTop g).pushFrame (.throwing q)))
section Payer
variable {l : Launch} {R : Room} {p : Program} {e : Env} {below : List Frame} {s : State} {sargs : Array Value} {y : MethodName} {len W9 : Nat}
theorem vx_back {ws : List Cond} {rm : Room} {Pc : Array Value → State → Prop} {Qc : Array Value → State → Outcome → State → Prop} {XC : String → State → State → Prop} {mc ms : Nat} {free : Addr → Prop} {bytes : ByteArray} {maxL : Nat} {ret : Option FieldType}
    (hM : vx_Met l y ws rm Pc Qc XC mc ms free) (hblind : FrameBlind Pc) (hrc : rm.cells = mc) (hrs : rm.slots = ms)
    (hframes : rm.frames + 1 ≤ R.frames) (hlocals : W9 + (maxL + 11) + rm.locals ≤ R.locals)
    (hws : ∀ w ∈ ws, ∀ a' U, s.WarmedH U.vm → w.before a' U = true) (hcode : Cond.code y bytes maxL ret ∈ ws) (hinit : ∀ a' U, s.WarmedH U.vm → (Cond.initialized y.cls).before a' U = true) :
    vx_Back l R p e below s sargs y len W9 (PreOf R mc ms Pc) (PostOf Qc mc ms free) (vx_Post XC mc ms free) := by
  intro m meth c A g ig mk a X hg hsize hdg hW hn hp
  have h1 : (headSpec ws rm).pre.before a A.U = true := atoms_intro fun w hw => hws w hw _ _ X.warmed
  have h2 : (Cond.code y bytes maxL ret).before a A.U = true := hws _ hcode _ _ X.warmed
  have h3 : (Cond.initialized y.cls).before a A.U = true := hinit _ _ X.warmed
  have h4 : A.cells + (headSpec ws rm).room.cells ≤ R.cells := by rw [show (headSpec ws rm).room.cells = mc from hrc]; exact hp.1
  have h5 : A.slots + (headSpec ws rm).room.slots ≤ R.slots := by rw [show (headSpec ws rm).room.slots = ms from hrs]; exact hp.2.1
  have hPc : Pc a (A.U.calling g mk a) := hblind _ _ _ _ hp.2.2
  obtain ⟨U, Ls, c0, s0⟩ := A
  dsimp only [Pt.U, Pt.locs, Pt.cells, Pt.slots] at h1 h2 h3 h4 h5 X hn hPc ⊢
  obtain ⟨methY, cY, hmY, hcY, -, hlY, -, -, -, -⟩ := Cond.code_spec hn h2
  obtain ⟨kY, hkY, -⟩ := className_of_methodNamed hn
  have hinitY : kY.init = .initialized := Cond.initialized_spec (findClass_of_methodNamed hn) hkY h3
  have h : At U g.method c below := by rw [hg]; exact X.here
  have hlocals9 : W9 + (maxL + 11) + (headSpec ws rm).room.locals ≤ R.locals := hlocals
  have happ : (headSpec ws rm).appliesLoose y e.platform (U.calling g mk a) = true :=
    Spec.appliesLoose_calling (g := g) h hdg hn hkY hinitY
      (X.room_calling (g := g) (R' := (headSpec ws rm).room) hsize hmY hcY hframes (by rw [hlY]; omega) h4 h5) h1
  obtain ⟨mid, hmid⟩ := h.above
  have hfr : (U.setTop g).frames = (.java g :: mid) ++ below := by rw [State.frames_setTop' g h.top, hmid]; rfl
  obtain ⟨o, s₂, hsteps, -, hend, hq⟩ := Steps.callFree hM p X.admits X.cas X.clock (acts := []) hfr happ hPc trivial
  have hq' : vx_Q Qc XC mc ms free a (U.calling g mk a) o s₂ := hq
  rw [State.frames_setTop' g h.top] at hend
  obtain ⟨g₀, hg0⟩ := Option.isSome_iff_exists.mp h.top
  obtain ⟨r, hr⟩ := State.topJava?_eq_some.mp hg0
  have hr' : (({ U with heap := s₂.heap, slotsUsed := s₂.slotsUsed } : State).setVm s₂.vm).frames = .java g₀ :: r := hr
  rcases hq' with ⟨hqc, L, hfe, hL⟩ | ⟨q, rfl, E, ce, L, hx, hce, hcv, hcl, hW₂, hsm, hL⟩
  · obtain ⟨⟨v, rfl⟩, hW₂, e2, q2, q3, q4, q5, q6⟩ := id hfe
    have e3 : s₂ = ({ (U.calling g mk a).setFrames s₂.frames with heap := s₂.heap, slotsUsed := s₂.slotsUsed } : State).setVm s₂.vm := by
      have : s₂ = ({ s₂ with vm := (U.calling g mk a).vm } : State).setVm s₂.vm := rfl
      rw [e2] at this
      exact this
    obtain ⟨c₂, i₂, len₂, hc₂, hd₂, hf₂⟩ := hend
    have hW' : U.WarmedH s₂.vm := hW₂
    have hcc : c₂ = c := by
      have h1 : s₂.code? g.method = U.code? g.method := by
        rw [State.code?_eq, State.code?_eq, hW'.alike.method?]
      exact Option.some.inj (hc₂.symm.trans (h1.trans h.code))
    subst hcc
    have hlen : len₂ = len := by rw [hdg] at hd₂; cases hd₂; rfl
    subst hlen
    have hs₂ : s₂ = (({ U with heap := s₂.heap, slotsUsed := s₂.slotsUsed } : State).setVm s₂.vm).setTop { g with pc := g.pc + len₂, stack := v.toList ++ g.stack } := by
      refine e3.trans ?_
      rw [hf₂, State.calling_eq h.top, State.setFrames_setFrames, State.setTop_of_frames _ hr', hr]
      rfl
    have hsame : U.sameButNew ({ U with heap := s₂.heap, slotsUsed := s₂.slotsUsed } : State) L mc ms := by
      refine ⟨?_, q2, q3, q4, q5, q6⟩
      obtain ⟨t, ht, -⟩ := State.frames_cons hr
      show ({ U with heap := s₂.heap, slotsUsed := s₂.slotsUsed } : State) = { U.setFrames U.frames with heap := s₂.heap, slotsUsed := s₂.slotsUsed }
      rw [State.setFrames_self ht]
    subst hg
    refine Or.inl ⟨v, ⟨(({ U with heap := s₂.heap, slotsUsed := s₂.slotsUsed } : State).setVm s₂.vm), Ls ++ L, c0 + mc, s0 + ms⟩,
      ⟨X.admits, X.cas, X.clock, X.frames, X.room, X.hears, X.method, X.code, (X.here.setHeapUsed s₂.heap s₂.slotsUsed).setVm hW'.alike, X.tail, State.WarmedH.trans X.warmed hW', X.limits, X.bytes, X.same.trans (hsame.setVm s.vm)⟩,
      ⟨g, mk, s₂, L, rfl, rfl, hqc, rfl, hL, rfl, rfl⟩, ?_⟩
    show Steps p.tables e below _ ((({ U with heap := s₂.heap, slotsUsed := s₂.slotsUsed } : State).setVm s₂.vm).setTop { g with pc := g.pc + len₂, stack := v.toList ++ g.stack })
    rw [← hs₂]
    exact hsteps
  · obtain ⟨e2, q2, q3, q4, q5, q6⟩ := id hsm
    have e3 : s₂ = ({ (U.calling g mk a).setFrames s₂.frames with heap := s₂.heap, slotsUsed := s₂.slotsUsed } : State).setVm s₂.vm := by
      have : s₂ = ({ s₂ with vm := (U.calling g mk a).vm } : State).setVm s₂.vm := rfl
      rw [e2] at this
      exact this
    have hf₂ : s₂.frames = .throwing q :: .java g :: U.frames.tail := hend
    have hW' : U.WarmedH s₂.vm := hW₂
    have hs₂ : s₂ = ((({ U with heap := s₂.heap, slotsUsed := s₂.slotsUsed } : State).setVm s₂.vm).setTop g).pushFrame (.throwing q) := by
      refine e3.trans ?_
      rw [hf₂, State.calling_eq h.top, State.setFrames_setFrames, State.pushFrame, State.frames_setTop _ hr', State.setTop_of_frames _ hr', State.setFrames_setFrames, hr]
      rfl
    have hsame : U.sameButNew ({ U with heap := s₂.heap, slotsUsed := s₂.slotsUsed } : State) L mc ms := by
      refine ⟨?_, q2, q3, q4, q5, q6⟩
      obtain ⟨t, ht, -⟩ := State.frames_cons hr
      show ({ U with heap := s₂.heap, slotsUsed := s₂.slotsUsed } : State) = { U.setFrames U.frames with heap := s₂.heap, slotsUsed := s₂.slotsUsed }
      rw [State.setFrames_self ht]
    subst hg
    refine Or.inr ⟨q, ⟨(({ U with heap := s₂.heap, slotsUsed := s₂.slotsUsed } : State).setVm s₂.vm), Ls ++ L, c0 + mc, s0 + ms⟩,
      ⟨X.admits, X.cas, X.clock, X.frames, X.room, X.hears, X.method, X.code, (X.here.setHeapUsed s₂.heap s₂.slotsUsed).setVm hW'.alike, X.tail, State.WarmedH.trans X.warmed hW', X.limits, X.bytes, X.same.trans (hsame.setVm s.vm)⟩,
      ⟨g, mk, s₂, L, E, ce, rfl, rfl, hx, hce, hcv, hcl, rfl, hL, rfl, rfl⟩, ?_⟩
    show Steps p.tables e below _ (((({ U with heap := s₂.heap, slotsUsed := s₂.slotsUsed } : State).setVm s₂.vm).setTop g).pushFrame (.throwing q))
    rw [← hs₂]
    exact hsteps
end Payer
section Calls
variable {p : Program} {l : Launch} {e : Env} {R : Room} {s : State} {m : MethodId} {args : Array Value} {below : List Frame} {meth : Method} {c : Code} {T : State} {locs : List Loc} {cells slots : Nat}
theorem vx_callV (X : Stand p l e R s m args below meth c T locs cells slots) (hexec : p.tables.exec = Jvm.exec) {own C : String} {index : Nat} {y : MethodName} {bytes : ByteArray} {maxL : Nat} {ret : Option FieldType}
    (hown : s.vm.findClass own = some m.cls) (hlink : (Cond.methodLink own index y).before args s = true) (hinst : (Cond.instanceMethod y).before args s = true) (hsel : (Cond.selects C y y).before args s = true)
    (hcode : (Cond.code y bytes maxL ret).before args s = true) (hy : y.cls ≠ "java/lang/invoke/MethodHandle" ∧ y.cls ≠ "java/lang/invoke/VarHandle")
    {W9 : Nat} {Pre : Pt → Array Value → Prop} {Post : Pt → Array Value → Option Value → Pt → Prop} {PostX : Pt → Array Value → Addr → Pt → Prop} (hK : vx_Back l R p e below s args y 3 W9 Pre Post PostX)
    {b : Addr} {cellB : Cell} (hcell : T.heap[b]? = some cellB) (hobj : cellB.vm.isStatics = false) (hcls : s.vm.findClass C = some cellB.cls)
    {g : JFrame} (hg : g.method = m) (hsize : g.locals.size = c.maxLocals) {argsL rest : List Value} (hlen : ∀ sig, parseMethodDescriptor y.desc = some sig → argsL.length = sig.parameters.length)
    (hstack : g.stack = argsL.reverse ++ .ref b :: rest) (hW : 2 * g.monitorRoom + (rest.map fun v => v.category).sum ≤ W9) (hdg : decode c.code g.pc = .ok (.invokevirtual index, 3))
    (hpre : ∀ vm₁, s.WarmedH vm₁ → Pre ⟨T.setVm vm₁, locs, cells, slots⟩ (Value.ref b :: argsL).toArray) :
    (∃ (v : Option Value) (vm₁ : Vm) (B : Pt), s.WarmedH vm₁ ∧ Stand p l e R s m args below meth c B.U B.locs B.cells B.slots ∧ Post ⟨T.setVm vm₁, locs, cells, slots⟩ (Value.ref b :: argsL).toArray v B ∧
      ∀ target, Steps p.tables e below (B.U.setTop { g with pc := g.pc + 3, stack := v.toList ++ rest }) target → Steps p.tables e below (T.setTop g) target) ∨
    (∃ (q : Addr) (vm₁ : Vm) (B : Pt), s.WarmedH vm₁ ∧ Stand p l e R s m args below meth c B.U B.locs B.cells B.slots ∧ PostX ⟨T.setVm vm₁, locs, cells, slots⟩ (Value.ref b :: argsL).toArray q B ∧
      Steps p.tables e below (T.setTop g) ((B.U.setTop { g with stack := rest }).pushFrame (.throwing q))) := by
  obtain ⟨mk, methM, hnamed, hmethM, hstM, habM⟩ := Cond.instanceMethod_spec hinst
  obtain ⟨methM', cM, hmethM', -, -, -, -, -, -, hsigM⟩ := Cond.code_spec hnamed hcode
  cases hmethM.symm.trans hmethM'
  obtain ⟨c2, r2, m2, q1, q2, q3, q4, kP, hkP, hkPi⟩ := Cond.selects_spec hsel
  cases hcls.symm.trans q1
  cases (State.methodFound?_of_named hnamed hy).symm.trans q2
  cases hnamed.symm.trans q3
  have hselP : selectMethod e.platform s.vm cellB.cls mk = .method mk := by rw [Launch.admits_selectMethod X.admits]; exact q4
  obtain ⟨vm₁, X₁, hstep₁⟩ := X.invokevirtual hexec hown hlink hnamed hmethM hstM hkP hkPi hy (a := b) (cell := cellB) hcell
    (fun z h => by rw [h] at hobj; cases hobj) hselP hmethM habM hkP hkPi (g := g) hg (argsL := argsL) (rest := rest) (hlen _ hsigM) hstack hdg
  rcases hK m meth c ⟨T.setVm vm₁, locs, cells, slots⟩ { g with stack := rest } (.invokevirtual index) mk (Value.ref b :: argsL).toArray X₁ hg hsize hdg hW (X₁.named hnamed) (hpre vm₁ X₁.warmed) with ⟨v, B, X', hpost, hsteps⟩ | ⟨q, B, X', hpost, hsteps⟩
  · exact Or.inl ⟨v, vm₁, B, X₁.warmed, X', hpost, fun target h => hstep₁ _ fun acts => by rw [doInvoke_state]; exact hsteps.trans h⟩
  · exact Or.inr ⟨q, vm₁, B, X₁.warmed, X', hpost, hstep₁ _ fun acts => by rw [doInvoke_state]; exact hsteps⟩
theorem vx_callS (X : Stand p l e R s m args below meth c T locs cells slots) (hexec : p.tables.exec = Jvm.exec) {own : String} {index : Nat} {y : MethodName} {bytes : ByteArray} {maxL : Nat} {ret : Option FieldType}
    (hown : s.vm.findClass own = some m.cls) (hlink : (Cond.methodLink own index y).before args s = true) (hstat : (Cond.static y).before args s = true) (hinit : (Cond.initialized y.cls).before args s = true)
    (hcode : (Cond.code y bytes maxL ret).before args s = true) (hy : y.cls ≠ "java/lang/invoke/MethodHandle" ∧ y.cls ≠ "java/lang/invoke/VarHandle")
    {W9 : Nat} {Pre : Pt → Array Value → Prop} {Post : Pt → Array Value → Option Value → Pt → Prop} {PostX : Pt → Array Value → Addr → Pt → Prop} (hK : vx_Back l R p e below s args y 3 W9 Pre Post PostX)
    {g : JFrame} (hg : g.method = m) (hsize : g.locals.size = c.maxLocals) {argsL rest : List Value} (hlen : ∀ sig, parseMethodDescriptor y.desc = some sig → argsL.length = sig.parameters.length)
    (hstack : g.stack = argsL.reverse ++ rest) (hW : 2 * g.monitorRoom + (rest.map fun v => v.category).sum ≤ W9) (hdg : decode c.code g.pc = .ok (.invokestatic index, 3))
    (hpre : ∀ vm₁, s.WarmedH vm₁ → Pre ⟨T.setVm vm₁, locs, cells, slots⟩ argsL.toArray) :
    (∃ (v : Option Value) (vm₁ : Vm) (B : Pt), s.WarmedH vm₁ ∧ Stand p l e R s m args below meth c B.U B.locs B.cells B.slots ∧ Post ⟨T.setVm vm₁, locs, cells, slots⟩ argsL.toArray v B ∧
      ∀ target, Steps p.tables e below (B.U.setTop { g with pc := g.pc + 3, stack := v.toList ++ rest }) target → Steps p.tables e below (T.setTop g) target) ∨
    (∃ (q : Addr) (vm₁ : Vm) (B : Pt), s.WarmedH vm₁ ∧ Stand p l e R s m args below meth c B.U B.locs B.cells B.slots ∧ PostX ⟨T.setVm vm₁, locs, cells, slots⟩ argsL.toArray q B ∧
      Steps p.tables e below (T.setTop g) ((B.U.setTop { g with stack := rest }).pushFrame (.throwing q))) := by
  obtain ⟨mk, hnamed⟩ := Cond.code_named hcode
  obtain ⟨methM, cM, hmethM, -, -, -, -, -, -, hsigM⟩ := Cond.code_spec hnamed hcode
  have hstatic : methM.isStatic = true := Cond.static_spec hnamed hmethM hstat
  obtain ⟨kP, hkP, -⟩ := className_of_methodNamed hnamed
  have hinitP : kP.init = .initialized := Cond.initialized_spec (findClass_of_methodNamed hnamed) hkP hinit
  obtain ⟨vm₁, X₁, hstep₁⟩ := X.invokestatic hexec hown hlink hnamed hmethM hstatic hkP hinitP hy (g := g) hg (argsL := argsL) (rest := rest) (hlen _ hsigM) hstack hdg
  rcases hK m meth c ⟨T.setVm vm₁, locs, cells, slots⟩ { g with stack := rest } (.invokestatic index) mk argsL.toArray X₁ hg hsize hdg hW (X₁.named hnamed) (hpre vm₁ X₁.warmed) with ⟨v, B, X', hpost, hsteps⟩ | ⟨q, B, X', hpost, hsteps⟩
  · exact Or.inl ⟨v, vm₁, B, X₁.warmed, X', hpost, fun target h => hstep₁ _ fun acts => by rw [doInvoke_state]; exact hsteps.trans h⟩
  · exact Or.inr ⟨q, vm₁, B, X₁.warmed, X', hpost, hstep₁ _ fun acts => by rw [doInvoke_state]; exact hsteps⟩
end Calls
theorem vx_cls {s : State} {T : State} {vm₁ : Vm} {E : String} {k : ClassId} (hW : s.WarmedH vm₁) (h : (T.setVm vm₁).vm.findClass E = some k) : s.vm.findClass E = some k := by
  have h1 : vm₁.findClass E = some k := h
  rw [hW.alike.findClass] at h1
  exact h1
/-- the method's frame g, with q thrown over it -/
def vx_W (p : Program) (l : Launch) (e : Env) (R : Room) (s : State) (m : MethodId) (args : Array Value) (below : List Frame) (meth : Method) (c : Code) (H : Heap) (locs : List Loc) (cells slots : Nat) (Q : State → Prop) (g : JFrame) (q : Addr) : Prop :=
  ∀ T : State, T.heap = H → Stand p l e R s m args below meth c T locs cells slots → ∃ t, Steps p.tables e below ((T.setTop g).pushFrame (.throwing q)) t ∧ Q t
def vx_Run (p : Program) (l : Launch) (e : Env) (R : Room) (s : State) (m : MethodId) (args : Array Value) (below : List Frame) (meth : Method) (c : Code) (H : Heap) (locs : List Loc) (cells slots mc ms : Nat) (g : JFrame) (rest : List Value) (Qa : State → Outcome → State → Prop) (XC : String → State → State → Prop) (free : Addr → Prop) : Prop :=
  ∀ T : State, T.heap = H → Stand p l e R s m args below meth c T locs cells slots →
    (∃ (v : Option Value) (st₀ t T' : State) (L : List Loc), st₀.heap = H ∧ Stand p l e R s m args below meth c T' (locs ++ L) (cells + mc) (slots + ms) ∧ (∀ q ∈ L, free q.base) ∧ T'.heap = t.heap ∧ T'.vm = t.vm ∧ Qa st₀ (.returned v) t ∧
      Goes p e below T g T' { g with pc := g.pc + 3, stack := v.toList ++ rest }) ∨
    (∃ (q : Addr) (st₀ t T' : State) (L : List Loc) (E : String) (ce : Cell), st₀.heap = H ∧ Stand p l e R s m args below meth c T' (locs ++ L) (cells + mc) (slots + ms) ∧ (∀ z ∈ L, free z.base) ∧ T'.heap = t.heap ∧ T'.vm = t.vm ∧ XC E st₀ t ∧ t.heap[q]? = some ce ∧ ce.vm = .none ∧ s.vm.findClass E = some ce.cls ∧
      Steps p.tables e below (T.setTop g) ((T'.setTop { g with stack := rest }).pushFrame (.throwing q)))
def vx_X {S : Type} (px : S → Prop) (B : String → S → State → Prop) (A : Nat → Prop) : String → State → State → Prop := fun E st t => ∃ u : S, px u ∧ B E u t ∧ va_F A st t
section Runs
variable {p : Program} {l : Launch} {e : Env} {R : Room} {s : State} {m : MethodId} {args : Array Value} {below : List Frame} {meth : Method} {c : Code} {H : Heap} {locs : List Loc} {cells slots : Nat}
variable {y : MethodName} {bytes cc : ByteArray} {maxL nL mc ms n index : Nat} {ret : Option FieldType} {ws : List Cond} {rm : Room} {Pc : Array Value → State → Prop} {Qc : Array Value → State → Outcome → State → Prop} {XC : String → State → State → Prop} {free : Addr → Prop} {Ts : List Cond} {own C : String} {b : Addr} {As rest : List Value} {g : JFrame}
theorem vx_callBack (cb : CallB R s args own index y bytes maxL ret ws rm mc ms n) (hM : vx_Met l y ws rm Pc Qc XC mc ms free) (hbl : FrameBlind Pc) : vx_Back l R p e below s args y 3 8 (PreOf R mc ms Pc) (PostOf Qc mc ms free) (vx_Post XC mc ms free) := by
  obtain ⟨hrc, hrs, hfr, hlo, hws, hcw, -, hini, -⟩ := cb
  exact vx_back (bytes := bytes) (maxL := maxL) (ret := ret) hM hbl hrc hrs hfr hlo hws hcw (fun a' U hW => word_at hW (Or.inl (by first | rfl | simp [Cond.onTables, Cond.keeps, Cond.steady])) hini)
theorem vx_runV (S : CallFix p m c cc nL s args Ts own) (hM : vx_Met l y ws rm Pc Qc XC mc ms free) (cw : CallW R s args own C index y bytes maxL ret ws rm mc ms n) (hp : PreV s H C b Pc As)
    (hg : g.method = m) (hn : As.length = n) (hsize : g.locals.size = nL) (hstack : g.stack = As.reverse ++ .ref b :: rest) (hW : 2 * g.monitorRoom + (rest.map fun v => v.category).sum ≤ 8) (hdg : decode cc g.pc = .ok (.invokevirtual index, 3)) (hf : cells + mc ≤ R.cells ∧ slots + ms ≤ R.slots) :
    vx_Run p l e R s m args below meth c H locs cells slots mc ms g rest (Qc (Value.ref b :: As).toArray) XC free := by
  have hK : vx_Back l R p e below s args y 3 8 (PreOf R mc ms Pc) (PostOf Qc mc ms free) (vx_Post XC mc ms free) := vx_callBack cw.1 hM hp.1
  obtain ⟨⟨-, -, -, -, -, -, hcode, -, hy, hlen, hl⟩, hin, hse⟩ := cw
  obtain ⟨hx, hb, hml, ho, -⟩ := S
  obtain ⟨-, ⟨cellB, hcB, hoB, hclB⟩, hPc⟩ := hp
  intro T hT X
  rcases vx_callV X hx (C := C) (bytes := bytes) (maxL := maxL) (ret := ret) ho hl hin hse hcode hy hK (by rw [hT]; exact hcB) hoB hclB hg (hsize.trans hml.symm) (argsL := As) (rest := rest) (fun sig h => hn.trans (hlen sig h)) hstack hW (by rw [hb]; exact hdg)
    (fun vm₁ hW₁ => ⟨hf.1, hf.2, hPc (T.setVm vm₁) hT hW₁⟩) with ⟨v, vm₁, ⟨U', l2, c2, s2⟩, hW₁, X', ⟨g', mk, t, L, e1, e2, hq, h1, hL, h2, h3⟩, st⟩ | ⟨q, vm₁, ⟨U', l2, c2, s2⟩, hW₁, X', ⟨g', mk, t, L, E, ce, e1, e2, hq, hce, hcv, hcl, h1, hL, h2, h3⟩, st⟩
  · dsimp only [Pt.U, Pt.locs, Pt.cells, Pt.slots] at X' e1 e2 h1 h2 h3 st
    subst h1; subst h2; subst h3
    exact Or.inl ⟨v, (T.setVm vm₁).calling g' mk (Value.ref b :: As).toArray, t, U', L, hT, X', hL, e1, e2, hq, st⟩
  · dsimp only [Pt.U, Pt.locs, Pt.cells, Pt.slots] at X' e1 e2 h1 h2 h3 st hcl
    subst h1; subst h2; subst h3
    exact Or.inr ⟨q, (T.setVm vm₁).calling g' mk (Value.ref b :: As).toArray, t, U', L, E, ce, hT, X', hL, e1, e2, hq, hce, hcv, vx_cls hW₁ hcl, st⟩
theorem vx_runS (S : CallFix p m c cc nL s args Ts own) (hM : vx_Met l y ws rm Pc Qc XC mc ms free) (cw : CallB R s args own index y bytes maxL ret ws rm mc ms n ∧ (Cond.static y).before args s = true) (hp : PreS s H Pc As)
    (hg : g.method = m) (hn : As.length = n) (hsize : g.locals.size = nL) (hstack : g.stack = As.reverse ++ rest) (hW : 2 * g.monitorRoom + (rest.map fun v => v.category).sum ≤ 8) (hdg : decode cc g.pc = .ok (.invokestatic index, 3)) (hf : cells + mc ≤ R.cells ∧ slots + ms ≤ R.slots) :
    vx_Run p l e R s m args below meth c H locs cells slots mc ms g rest (Qc As.toArray) XC free := by
  have hK : vx_Back l R p e below s args y 3 8 (PreOf R mc ms Pc) (PostOf Qc mc ms free) (vx_Post XC mc ms free) := vx_callBack cw.1 hM hp.1
  obtain ⟨⟨-, -, -, -, -, -, hcode, hini, hy, hlen, hl⟩, hstt⟩ := cw
  obtain ⟨hx, hb, hml, ho, -⟩ := S
  intro T hT X
  rcases vx_callS X hx (bytes := bytes) (maxL := maxL) (ret := ret) ho hl hstt hini hcode hy hK hg (hsize.trans hml.symm) (argsL := As) (rest := rest) (fun sig h => hn.trans (hlen sig h)) hstack hW (by rw [hb]; exact hdg)
    (fun vm₁ hW₁ => ⟨hf.1, hf.2, hp.2 (T.setVm vm₁) hT hW₁⟩) with ⟨v, vm₁, ⟨U', l2, c2, s2⟩, hW₁, X', ⟨g', mk, t, L, e1, e2, hq, h1, hL, h2, h3⟩, st⟩ | ⟨q, vm₁, ⟨U', l2, c2, s2⟩, hW₁, X', ⟨g', mk, t, L, E, ce, e1, e2, hq, hce, hcv, hcl, h1, hL, h2, h3⟩, st⟩
  · dsimp only [Pt.U, Pt.locs, Pt.cells, Pt.slots] at X' e1 e2 h1 h2 h3 st
    subst h1; subst h2; subst h3
    exact Or.inl ⟨v, (T.setVm vm₁).calling g' mk As.toArray, t, U', L, hT, X', hL, e1, e2, hq, st⟩
  · dsimp only [Pt.U, Pt.locs, Pt.cells, Pt.slots] at X' e1 e2 h1 h2 h3 st hcl
    subst h1; subst h2; subst h3
    exact Or.inr ⟨q, (T.setVm vm₁).calling g' mk As.toArray, t, U', L, E, ce, hT, X', hL, e1, e2, hq, hce, hcv, vx_cls hW₁ hcl, st⟩
end Runs
section Rows
variable {p : Program} {l : Launch} {e : Env} {R : Room} {s : State} {m : MethodId} {args : Array Value} {below : List Frame} {meth : Method} {c : Code} {H : Heap} {locs : List Loc} {cells slots : Nat} {Q : State → Prop}
variable {mc ms : Nat} {free : Addr → Prop} {A0 A1 : Nat → Prop} {H0 : Heap} {a : Array Value} {pc : Nat} {ls : Array Slot} {st0 rest : List Value}
theorem vx_keep {st₀ t T' : State} {L : List Loc} (h0 : st₀.heap = H) (e1 : T'.heap = t.heap) (hS : va_S A0 H0 H locs) (hA : ∀ q, q < H.size → A1 q → A0 q) (hf : ∀ q, free q → A0 q) (hL : ∀ q ∈ L, free q.base) (hF : va_F A1 st₀ t) :
    H.size ≤ T'.heap.size ∧ (∀ q : Nat, q < H.size → ¬ A1 q → T'.heap[q]? = H[q]?) ∧ va_S A0 H0 T'.heap (locs ++ L) := by
  obtain ⟨hz, hk⟩ := hF
  rw [h0] at hz hk
  exact ⟨by rw [e1]; exact hz, fun q h1 h2 => by rw [e1]; exact hk q h1 h2,
    ⟨Nat.le_trans hS.1 (by rw [e1]; exact hz), fun q h1 h2 => by rw [e1, hk q (Nat.lt_of_lt_of_le h1 hS.1) (fun z => h2 (hA q (Nat.lt_of_lt_of_le h1 hS.1) z))]; exact hS.2.1 q h1 h2, fun q hq => by
      rcases List.mem_append.mp hq with h | h
      · exact hS.2.2 q h
      · exact hf _ (hL q h)⟩⟩
theorem vx_calli {S SX : Type} {post : Int32 → S → Prop} {px : SX → Prop} {B : S → State → Prop} {BX : String → SX → State → Prop} {AX : Nat → Prop} (hr : vx_Run p l e R s m args below meth c H locs cells slots mc ms (F0 m pc ls st0) rest (va_Qi post B A1 a) (vx_X px BX AX) free) (hS : va_S A0 H0 H locs) (hA : ∀ q, q < H.size → A1 q → A0 q) (hf : ∀ q, free q → A0 q) (hAX : ∀ q, q < H.size → AX q → A0 q)
    (kx : ∀ (E : String) (ce : Cell) (q9 : Addr) (u : SX) (t : State) (H1 : Heap) (locs1 : List Loc), t.heap = H1 → s.vm.Alike t.vm → px u → BX E u t → H.size ≤ H1.size → (∀ q : Nat, q < H.size → ¬ AX q → H1[q]? = H[q]?) → va_S A0 H0 H1 locs1 → H1[q9]? = some ce → ce.vm = .none → s.vm.findClass E = some ce.cls → vx_W p l e R s m args below meth c H1 locs1 (cells + mc) (slots + ms) Q (F0 m pc ls rest) q9)
    (kk : ∀ (r : Int32) (u : S) (t : State) (H1 : Heap) (locs1 : List Loc), t.heap = H1 → s.vm.Alike t.vm → post r u → B u t → H.size ≤ H1.size → (∀ q : Nat, q < H.size → ¬ A1 q → H1[q]? = H[q]?) → va_S A0 H0 H1 locs1 → W p l e R s m args below meth c H1 locs1 (cells + mc) (slots + ms) Q (F0 m (pc + 3) ls (.int r :: rest))) : W p l e R s m args below meth c H locs cells slots Q (F0 m pc ls st0) := by
  intro T hT X
  rcases hr T hT X with ⟨v, st₀, t, T', L, h0, X', hL, e1, e2, ⟨⟨r, u, hv, hp, hb⟩, hF⟩, st⟩ | ⟨q, st₀, t, T', L, E, ce, h0, X', hL, e1, e2, ⟨u, hp, hb, hF⟩, hce, hcv, hcl, st⟩
  · cases hv
    obtain ⟨k1, k2, k3⟩ := vx_keep h0 e1 hS hA hf hL hF
    obtain ⟨t2, a1, b1⟩ := kk r u t T'.heap (locs ++ L) e1.symm (by rw [← e2]; exact X'.warmed.alike) hp hb k1 k2 k3 T' rfl X'
    exact ⟨t2, st t2 a1, b1⟩
  · obtain ⟨k1, k2, k3⟩ := vx_keep h0 e1 hS hAX hf hL hF
    obtain ⟨t2, a1, b1⟩ := kx E ce q u t T'.heap (locs ++ L) e1.symm (by rw [← e2]; exact X'.warmed.alike) hp hb k1 k2 k3 (by rw [e1]; exact hce) hcv hcl T' rfl X'
    exact ⟨t2, st.trans a1, b1⟩
theorem vx_calll {S SX : Type} {post : Int64 → S → Prop} {px : SX → Prop} {B : S → State → Prop} {BX : String → SX → State → Prop} {AX : Nat → Prop} (hr : vx_Run p l e R s m args below meth c H locs cells slots mc ms (F0 m pc ls st0) rest (va_Ql post B A1 a) (vx_X px BX AX) free) (hS : va_S A0 H0 H locs) (hA : ∀ q, q < H.size → A1 q → A0 q) (hf : ∀ q, free q → A0 q) (hAX : ∀ q, q < H.size → AX q → A0 q)
    (kx : ∀ (E : String) (ce : Cell) (q9 : Addr) (u : SX) (t : State) (H1 : Heap) (locs1 : List Loc), t.heap = H1 → s.vm.Alike t.vm → px u → BX E u t → H.size ≤ H1.size → (∀ q : Nat, q < H.size → ¬ AX q → H1[q]? = H[q]?) → va_S A0 H0 H1 locs1 → H1[q9]? = some ce → ce.vm = .none → s.vm.findClass E = some ce.cls → vx_W p l e R s m args below meth c H1 locs1 (cells + mc) (slots + ms) Q (F0 m pc ls rest) q9)
    (kk : ∀ (r : Int64) (u : S) (t : State) (H1 : Heap) (locs1 : List Loc), t.heap = H1 → s.vm.Alike t.vm → post r u → B u t → H.size ≤ H1.size → (∀ q : Nat, q < H.size → ¬ A1 q → H1[q]? = H[q]?) → va_S A0 H0 H1 locs1 → W p l e R s m args below meth c H1 locs1 (cells + mc) (slots + ms) Q (F0 m (pc + 3) ls (.long r :: rest))) : W p l e R s m args below meth c H locs cells slots Q (F0 m pc ls st0) := by
  intro T hT X
  rcases hr T hT X with ⟨v, st₀, t, T', L, h0, X', hL, e1, e2, ⟨⟨r, u, hv, hp, hb⟩, hF⟩, st⟩ | ⟨q, st₀, t, T', L, E, ce, h0, X', hL, e1, e2, ⟨u, hp, hb, hF⟩, hce, hcv, hcl, st⟩
  · cases hv
    obtain ⟨k1, k2, k3⟩ := vx_keep h0 e1 hS hA hf hL hF
    obtain ⟨t2, a1, b1⟩ := kk r u t T'.heap (locs ++ L) e1.symm (by rw [← e2]; exact X'.warmed.alike) hp hb k1 k2 k3 T' rfl X'
    exact ⟨t2, st t2 a1, b1⟩
  · obtain ⟨k1, k2, k3⟩ := vx_keep h0 e1 hS hAX hf hL hF
    obtain ⟨t2, a1, b1⟩ := kx E ce q u t T'.heap (locs ++ L) e1.symm (by rw [← e2]; exact X'.warmed.alike) hp hb k1 k2 k3 (by rw [e1]; exact hce) hcv hcl T' rfl X'
    exact ⟨t2, st.trans a1, b1⟩
theorem vx_callf {S SX : Type} {post : UInt32 → S → Prop} {px : SX → Prop} {B : S → State → Prop} {BX : String → SX → State → Prop} {AX : Nat → Prop} (hr : vx_Run p l e R s m args below meth c H locs cells slots mc ms (F0 m pc ls st0) rest (va_Qf post B A1 a) (vx_X px BX AX) free) (hS : va_S A0 H0 H locs) (hA : ∀ q, q < H.size → A1 q → A0 q) (hf : ∀ q, free q → A0 q) (hAX : ∀ q, q < H.size → AX q → A0 q)
    (kx : ∀ (E : String) (ce : Cell) (q9 : Addr) (u : SX) (t : State) (H1 : Heap) (locs1 : List Loc), t.heap = H1 → s.vm.Alike t.vm → px u → BX E u t → H.size ≤ H1.size → (∀ q : Nat, q < H.size → ¬ AX q → H1[q]? = H[q]?) → va_S A0 H0 H1 locs1 → H1[q9]? = some ce → ce.vm = .none → s.vm.findClass E = some ce.cls → vx_W p l e R s m args below meth c H1 locs1 (cells + mc) (slots + ms) Q (F0 m pc ls rest) q9)
    (kk : ∀ (r : UInt32) (u : S) (t : State) (H1 : Heap) (locs1 : List Loc), t.heap = H1 → s.vm.Alike t.vm → post r u → B u t → H.size ≤ H1.size → (∀ q : Nat, q < H.size → ¬ A1 q → H1[q]? = H[q]?) → va_S A0 H0 H1 locs1 → W p l e R s m args below meth c H1 locs1 (cells + mc) (slots + ms) Q (F0 m (pc + 3) ls (.float r :: rest))) : W p l e R s m args below meth c H locs cells slots Q (F0 m pc ls st0) := by
  intro T hT X
  rcases hr T hT X with ⟨v, st₀, t, T', L, h0, X', hL, e1, e2, ⟨⟨r, u, hv, hp, hb⟩, hF⟩, st⟩ | ⟨q, st₀, t, T', L, E, ce, h0, X', hL, e1, e2, ⟨u, hp, hb, hF⟩, hce, hcv, hcl, st⟩
  · cases hv
    obtain ⟨k1, k2, k3⟩ := vx_keep h0 e1 hS hA hf hL hF
    obtain ⟨t2, a1, b1⟩ := kk r u t T'.heap (locs ++ L) e1.symm (by rw [← e2]; exact X'.warmed.alike) hp hb k1 k2 k3 T' rfl X'
    exact ⟨t2, st t2 a1, b1⟩
  · obtain ⟨k1, k2, k3⟩ := vx_keep h0 e1 hS hAX hf hL hF
    obtain ⟨t2, a1, b1⟩ := kx E ce q u t T'.heap (locs ++ L) e1.symm (by rw [← e2]; exact X'.warmed.alike) hp hb k1 k2 k3 (by rw [e1]; exact hce) hcv hcl T' rfl X'
    exact ⟨t2, st.trans a1, b1⟩
theorem vx_calld {S SX : Type} {post : UInt64 → S → Prop} {px : SX → Prop} {B : S → State → Prop} {BX : String → SX → State → Prop} {AX : Nat → Prop} (hr : vx_Run p l e R s m args below meth c H locs cells slots mc ms (F0 m pc ls st0) rest (va_Qd post B A1 a) (vx_X px BX AX) free) (hS : va_S A0 H0 H locs) (hA : ∀ q, q < H.size → A1 q → A0 q) (hf : ∀ q, free q → A0 q) (hAX : ∀ q, q < H.size → AX q → A0 q)
    (kx : ∀ (E : String) (ce : Cell) (q9 : Addr) (u : SX) (t : State) (H1 : Heap) (locs1 : List Loc), t.heap = H1 → s.vm.Alike t.vm → px u → BX E u t → H.size ≤ H1.size → (∀ q : Nat, q < H.size → ¬ AX q → H1[q]? = H[q]?) → va_S A0 H0 H1 locs1 → H1[q9]? = some ce → ce.vm = .none → s.vm.findClass E = some ce.cls → vx_W p l e R s m args below meth c H1 locs1 (cells + mc) (slots + ms) Q (F0 m pc ls rest) q9)
    (kk : ∀ (r : UInt64) (u : S) (t : State) (H1 : Heap) (locs1 : List Loc), t.heap = H1 → s.vm.Alike t.vm → post r u → B u t → H.size ≤ H1.size → (∀ q : Nat, q < H.size → ¬ A1 q → H1[q]? = H[q]?) → va_S A0 H0 H1 locs1 → W p l e R s m args below meth c H1 locs1 (cells + mc) (slots + ms) Q (F0 m (pc + 3) ls (.double r :: rest))) : W p l e R s m args below meth c H locs cells slots Q (F0 m pc ls st0) := by
  intro T hT X
  rcases hr T hT X with ⟨v, st₀, t, T', L, h0, X', hL, e1, e2, ⟨⟨r, u, hv, hp, hb⟩, hF⟩, st⟩ | ⟨q, st₀, t, T', L, E, ce, h0, X', hL, e1, e2, ⟨u, hp, hb, hF⟩, hce, hcv, hcl, st⟩
  · cases hv
    obtain ⟨k1, k2, k3⟩ := vx_keep h0 e1 hS hA hf hL hF
    obtain ⟨t2, a1, b1⟩ := kk r u t T'.heap (locs ++ L) e1.symm (by rw [← e2]; exact X'.warmed.alike) hp hb k1 k2 k3 T' rfl X'
    exact ⟨t2, st t2 a1, b1⟩
  · obtain ⟨k1, k2, k3⟩ := vx_keep h0 e1 hS hAX hf hL hF
    obtain ⟨t2, a1, b1⟩ := kx E ce q u t T'.heap (locs ++ L) e1.symm (by rw [← e2]; exact X'.warmed.alike) hp hb k1 k2 k3 (by rw [e1]; exact hce) hcv hcl T' rfl X'
    exact ⟨t2, st.trans a1, b1⟩
theorem vx_callv {S SX : Type} {post : S → Prop} {px : SX → Prop} {B : S → State → Prop} {BX : String → SX → State → Prop} {AX : Nat → Prop} (hr : vx_Run p l e R s m args below meth c H locs cells slots mc ms (F0 m pc ls st0) rest (va_Qv post B A1 a) (vx_X px BX AX) free) (hS : va_S A0 H0 H locs) (hA : ∀ q, q < H.size → A1 q → A0 q) (hf : ∀ q, free q → A0 q) (hAX : ∀ q, q < H.size → AX q → A0 q)
    (kx : ∀ (E : String) (ce : Cell) (q9 : Addr) (u : SX) (t : State) (H1 : Heap) (locs1 : List Loc), t.heap = H1 → s.vm.Alike t.vm → px u → BX E u t → H.size ≤ H1.size → (∀ q : Nat, q < H.size → ¬ AX q → H1[q]? = H[q]?) → va_S A0 H0 H1 locs1 → H1[q9]? = some ce → ce.vm = .none → s.vm.findClass E = some ce.cls → vx_W p l e R s m args below meth c H1 locs1 (cells + mc) (slots + ms) Q (F0 m pc ls rest) q9)
    (kk : ∀ (u : S) (t : State) (H1 : Heap) (locs1 : List Loc), t.heap = H1 → s.vm.Alike t.vm → post u → B u t → H.size ≤ H1.size → (∀ q : Nat, q < H.size → ¬ A1 q → H1[q]? = H[q]?) → va_S A0 H0 H1 locs1 → W p l e R s m args below meth c H1 locs1 (cells + mc) (slots + ms) Q (F0 m (pc + 3) ls (rest))) : W p l e R s m args below meth c H locs cells slots Q (F0 m pc ls st0) := by
  intro T hT X
  rcases hr T hT X with ⟨v, st₀, t, T', L, h0, X', hL, e1, e2, ⟨⟨u, hv, hp, hb⟩, hF⟩, st⟩ | ⟨q, st₀, t, T', L, E, ce, h0, X', hL, e1, e2, ⟨u, hp, hb, hF⟩, hce, hcv, hcl, st⟩
  · cases hv
    obtain ⟨k1, k2, k3⟩ := vx_keep h0 e1 hS hA hf hL hF
    obtain ⟨t2, a1, b1⟩ := kk u t T'.heap (locs ++ L) e1.symm (by rw [← e2]; exact X'.warmed.alike) hp hb k1 k2 k3 T' rfl X'
    exact ⟨t2, st t2 a1, b1⟩
  · obtain ⟨k1, k2, k3⟩ := vx_keep h0 e1 hS hAX hf hL hF
    obtain ⟨t2, a1, b1⟩ := kx E ce q u t T'.heap (locs ++ L) e1.symm (by rw [← e2]; exact X'.warmed.alike) hp hb k1 k2 k3 (by rw [e1]; exact hce) hcv hcl T' rfl X'
    exact ⟨t2, st.trans a1, b1⟩
/-- caught by the row x of this method's table; the rows ahead don't take it -/
theorem vx_catch {own name : String} {E : String} {ce : Cell} {q : Addr} (hown : s.vm.findClass own = some m.cls) (pre : List ExceptionTableEntry) (x : ExceptionTableEntry) (suf : List ExceptionTableEntry) (hsplit : c.exceptionTable.toList = pre ++ x :: suf)
    (hpass : ∀ z ∈ pre, covers z pc = false ∨ (z.catchType ≠ 0 ∧ ∃ nm : String, (Cond.classLink own z.catchType nm).before args s = true ∧ va_Nc E nm s)) (hx : covers x pc = true) (h0 : x.catchType ≠ 0)
    (hlink : (Cond.classLink own x.catchType name).before args s = true) (hcast : (Cond.castable E name).before args s = true) (hcell : H[q]? = some ce) (hv : ce.vm = .none) (hcl : s.vm.findClass E = some ce.cls)
    (kk : W p l e R s m args below meth c H locs cells slots Q (F0 m x.handlerPc ls [.ref q])) : vx_W p l e R s m args below meth c H locs cells slots Q (F0 m pc ls rest) q := by
  intro T hT X
  have hpl : e.platform.magicAccessors = ({} : Platform).magicAccessors := by rw [X.admits.platform]
  obtain ⟨c3, c4, hc3, hc4, hasg⟩ := Cond.castable_spec hcast
  cases Option.some.inj (hc3.symm.trans hcl)
  obtain ⟨c5, hc5, hcl5⟩ := Cond.classLink_spec hown hlink e.platform hpl
  cases Option.some.inj (hc4.symm.trans hc5)
  obtain ⟨vm', X', st⟩ := X.thenCaughtThrough q (g := F0 m pc ls rest) rfl (Steps.refl _) (by rw [hT]; exact hcell) (by rw [hv]; rfl) (by obtain ⟨k9, h9, -⟩ := Vm.findClass_spec hcl; exact ⟨k9, h9⟩) pre x suf hsplit
    (fun z hz => by
      rcases hpass z hz with h | ⟨hz0, nm, hl1, hn1⟩
      · exact Or.inl h
      · obtain ⟨c6, hc6, hcl6⟩ := Cond.classLink_spec hown hl1 e.platform hpl
        obtain ⟨a8, b8, h1, h2, h3⟩ := hn1
        cases Option.some.inj (h1.symm.trans hcl)
        cases Option.some.inj (h2.symm.trans hc6)
        exact Or.inr ⟨hz0, _, hcl6, h3⟩) hx (Or.inr ⟨h0, c4, hcl5, hasg⟩)
  obtain ⟨t, a1, b1⟩ := kk (T.setVm vm') hT X'
  exact ⟨t, st.trans a1, b1⟩
end Rows
section Ends
variable {p : Program} {l : Launch} {e : Env} {R : Room} {s : State} {m : MethodId} {args : Array Value} {below : List Frame} {meth : Method} {c : Code} {H : Heap} {locs : List Loc} {cells slots : Nat} {Q : State → Prop}
variable {mc ms : Nat} {free : Addr → Prop} {A0 A1 : Nat → Prop} {H0 : Heap} {a : Array Value} {ls : Array Slot} {st0 rest : List Value}
variable {Qc : Array Value → State → Outcome → State → Prop} {XC : String → State → State → Prop}
/-- what a body that may throw owes at its end -/
def vx_MQ (below : List Frame) (Qc : Array Value → State → Outcome → State → Prop) (XC : String → State → State → Prop) (a : Array Value) (s : State) (mc ms : Nat) (free : Addr → Prop) : State → Prop := fun t =>
  ∃ o, t.status = .running ∧ Ended t below o ∧ vx_Q Qc XC mc ms free a s o t
theorem vx_ret {g : JFrame} {mc ms : Nat} (k : W p l e R s m args below meth c H locs cells slots (MQ below Qc args s mc ms free) g) : W p l e R s m args below meth c H locs cells slots (vx_MQ below Qc XC args s mc ms free) g := by
  intro T hT X
  obtain ⟨t, a1, o, b1, b2, b3, b4⟩ := k T hT X
  exact ⟨t, a1, o, b1, b2, Or.inl ⟨b3, b4⟩⟩
/-- not caught here: it goes on to the caller -/
theorem vx_widen {g : JFrame} {q : Addr} {k n : Nat} (h1 : cells ≤ k) (h2 : slots ≤ n) (kk : vx_W p l e R s m args below meth c H locs k n Q g q) : vx_W p l e R s m args below meth c H locs cells slots Q g q := fun T hT X => kk T hT (stand_widen X h1 h2)
theorem vx_out {pc : Nat} {E : String} {ce : Cell} {q : Addr} {mc ms : Nat} (hout : ∀ x ∈ c.exceptionTable.toList, covers x pc = false) (hlocks : meth.locks = false) (hcell : H[q]? = some ce) (hv : ce.vm = .none) (hcl : s.vm.findClass E = some ce.cls)
    (hx : ∀ t : State, t.heap = H → s.vm.Alike t.vm → XC E s t) (hf : ∀ z ∈ locs, free z.base) (hc : cells ≤ mc) (hs : slots ≤ ms) :
    vx_W p l e R s m args below meth c H locs cells slots (vx_MQ below Qc XC args s mc ms free) (F0 m pc ls rest) q := by
  intro T hT X
  obtain ⟨st1, hrun, hend, hW, hsm⟩ := X.leaveThrown q (g := F0 m pc ls rest) rfl rfl rfl hout hlocks
  have hcell9 : (T.setFrames (.throwing q :: below)).heap[q]? = some ce := by
    show T.heap[q]? = some ce
    rw [hT]; exact hcell
  exact ⟨_, st1, .threw q, hrun, hend, Or.inr ⟨q, rfl, E, ce, locs, hx _ hT hW.alike, hcell9, hv, hcl, hW, hsm.mono hc hs, hf⟩⟩
theorem vx_frame {U : State} {k n : Nat} (h : s.sameButNew ({ U with vm := s.vm } : State) locs k n) : s.heap.size ≤ U.heap.size ∧ ∀ q : Nat, q < s.heap.size → (∀ z ∈ locs, z.base ≠ q) → U.heap[q]? = s.heap[q]? := by
  obtain ⟨-, h2, -, -, -, h6⟩ := h
  refine ⟨h2, fun q hq hz => ?_⟩
  obtain ⟨c9, e1, e2, e3, e4⟩ := h6 q _ (Array.getElem?_eq_getElem hq)
  have hs : c9.slots = (s.heap[q]).slots := Array.ext_getElem? fun i => e4 i fun hm => hz _ hm rfl
  have h9 : c9 = s.heap[q] := by
    rw [hs] at e2
    exact e2
  have e5 : U.heap[q]? = some c9 := e1
  rw [e5, h9, Array.getElem?_eq_getElem hq]
/-- the words of a throw but the four that speak of the heap -/
def vx_no (w : Cond) : Bool := decide (w ≠ .isRef (.static Bundle.tN "UNASSIGNED_STACK" Bundle.steD)) && decide (w ≠ .isRef (.static Bundle.tN "SUPPRESSED_SENTINEL" Bundle.listD)) && decide (w ≠ .laysStatic Bundle.tN "UNASSIGNED_STACK" Bundle.steD) && decide (w ≠ .laysStatic Bundle.tN "SUPPRESSED_SENTINEL" Bundle.listD)
def vx_at0 (own : String) (ic : Nat) (X : String) (names : List String) : List Cond := (Bundle.ownAtoms0 own ic X names).filter vx_no
def vx_atS (own : String) (ic : Nat) (X : String) (names : List String) : List Cond := (Bundle.ownAtoms own ic X names).filter vx_no
/-- a word that the tables alone decide, or a good one -/
def vx_ot (w : Cond) : Bool := w.onTables || goodWord w
theorem vx_ot_at {args a' : Array Value} {s U : State} {w : Cond} (hW : s.WarmedH U.vm) (hvm : s.vm = U.vm) (hg : vx_ot w = true) (h : w.before args s = true) : w.before a' U = true := by
  simp only [vx_ot, Bool.or_eq_true] at hg
  rcases hg with hg | hg
  · exact va_tabs hg hvm h
  · exact word_at hW (good_of_word hg) h
/-- a list's words: the good ones out of the method's own list, the others by premises of their own -/
theorem vx_hat {args : Array Value} {s : State} {L B : List Cond} (h1 : ∀ w ∈ L.filter goodWord, w.before args s = true) (h2 : ∀ w ∈ L.filter (fun w => !goodWord w), w ∈ B) (h3 : ∀ w ∈ B, w.before args s = true) : ∀ w ∈ L, w.before args s = true := by
  intro w hw
  by_cases g : goodWord w = true
  · exact h1 w (List.mem_filter.mpr ⟨hw, g⟩)
  · refine h3 w (h2 w (List.mem_filter.mpr ⟨hw, ?_⟩))
    show (!goodWord w) = true
    cases hgw : goodWord w
    · rfl
    · exact absurd hgw g
theorem vx_c {args : Array Value} {s : State} {w : Cond} {B : List Cond} (h : w.before args s = true) (t : ∀ w ∈ B, w.before args s = true) : ∀ w' ∈ w :: B, w'.before args s = true := fun w' h' => (List.mem_cons.mp h').elim (fun e => by rw [e]; exact h) (t w')
theorem vx_n {args : Array Value} {s : State} : ∀ w ∈ ([] : List Cond), w.before args s = true := fun _ h => nomatch h
theorem vx_own {args : Array Value} {s : State} {L : List Cond} (h1 : ∀ w ∈ L.filter vx_no, w.before args s = true)
    (hU : (Cond.isRef (.static Bundle.tN "UNASSIGNED_STACK" Bundle.steD)).before args s = true) (hN : (Cond.isRef (.static Bundle.tN "SUPPRESSED_SENTINEL" Bundle.listD)).before args s = true)
    (lU : (Cond.laysStatic Bundle.tN "UNASSIGNED_STACK" Bundle.steD).before args s = true) (lN : (Cond.laysStatic Bundle.tN "SUPPRESSED_SENTINEL" Bundle.listD).before args s = true) : ∀ w ∈ L, w.before args s = true := by
  intro w hw
  by_cases e1 : w = .isRef (.static Bundle.tN "UNASSIGNED_STACK" Bundle.steD)
  · rw [e1]; exact hU
  · by_cases e2 : w = .isRef (.static Bundle.tN "SUPPRESSED_SENTINEL" Bundle.listD)
    · rw [e2]; exact hN
    · by_cases e3 : w = .laysStatic Bundle.tN "UNASSIGNED_STACK" Bundle.steD
      · rw [e3]; exact lU
      · by_cases e4 : w = .laysStatic Bundle.tN "SUPPRESSED_SENTINEL" Bundle.listD
        · rw [e4]; exact lN
        · exact h1 w (List.mem_filter.mpr ⟨hw, by unfold vx_no; rw [decide_eq_true e1, decide_eq_true e2, decide_eq_true e3, decide_eq_true e4]; rfl⟩)
/-- where a static field lies, its class's statics cell in H -/
def vx_L (C n d : String) (A : Nat → Prop) (U : State) (H : Heap) : Prop := ∃ (c : ClassId) (k : Class) (i : Nat) (f : Field) (a : Nat) (cell : Cell), U.vm.findClass C = some c ∧ U.fieldFound? C n d = some (c, k, i, f) ∧ f.isStatic = true ∧ k.statics = some a ∧ H[a]? = some cell ∧ cell.vm.isStatics = true ∧ cell.cls = c ∧ f.slot < cell.slots.size ∧ k.staticTypes[f.slot]? = some f.type ∧ ¬ A a
theorem vx_L.moved {C n d : String} {A : Nat → Prop} {u U : State} {H : Heap} (hvm : u.vm.Alike U.vm) (h : vx_L C n d A u H) : vx_L C n d A U H := by
  obtain ⟨c, k, i, f, a, cell, h1, h2, h3, h4, h5, h6, h7, h8, h9, h10⟩ := h
  obtain ⟨k', hi', he⟩ := State.fieldFound?_setVm hvm h2
  exact ⟨c, k', i, f, a, cell, by rw [hvm.findClass]; exact h1, hi', h3, by rw [he]; exact h4, h5, h6, h7, h8, by rw [he]; exact h9, h10⟩
theorem vx_L.kept {C n d : String} {A : Nat → Prop} {U : State} {H H1 : Heap} (h : vx_L C n d A U H) (hq : ∀ a : Nat, a < H.size → ¬ A a → H1[a]? = H[a]?) : vx_L C n d A U H1 := by
  obtain ⟨c, k, i, f, a, cell, h1, h2, h3, h4, h5, h6, h7, h8, h9, h10⟩ := h
  exact ⟨c, k, i, f, a, cell, h1, h2, h3, h4, by rw [hq a (Array.getElem?_eq_some_iff.mp h5).1 h10]; exact h5, h6, h7, h8, h9, h10⟩
theorem vx_L.narrow {C n d : String} {A B : Nat → Prop} {U : State} {H : Heap} (h : vx_L C n d A U H) (hAB : ∀ q, B q → A q) : vx_L C n d B U H := by
  obtain ⟨c, k, i, f, a, cell, h1, h2, h3, h4, h5, h6, h7, h8, h9, h10⟩ := h
  exact ⟨c, k, i, f, a, cell, h1, h2, h3, h4, h5, h6, h7, h8, h9, fun z => h10 (hAB _ z)⟩
theorem vx_L.word {C n d : String} {A : Nat → Prop} {s : State} {args : Array Value} (h : vx_L C n d A s s.heap) : (Cond.laysStatic C n d).before args s = true := by
  obtain ⟨c, k, i, f, a, cell, h1, h2, h3, h4, h5, h6, h7, h8, h9, -⟩ := h
  show (Cond.laysStatic C n d).holds args s none s [] = true
  exact Cond.laysStatic_of h1 h2 h3 h4 h5 h6 h7 h8 h9
/-- .. and what it holds: null or some reference -/
def vx_Zq (C n d : String) (A : Nat → Prop) (U : State) (H : Heap) : Prop := va_Zq C n d A U H ∧ vx_L C n d A U H
theorem vx_Zq.moved {C n d : String} {A : Nat → Prop} {u U : State} {H : Heap} (hvm : u.vm.Alike U.vm) (h : vx_Zq C n d A u H) : vx_Zq C n d A U H := ⟨va_Zq.moved hvm h.1, vx_L.moved hvm h.2⟩
theorem vx_Zq.kept {C n d : String} {A : Nat → Prop} {U : State} {H H1 : Heap} (h : vx_Zq C n d A U H) (hq : ∀ a : Nat, a < H.size → ¬ A a → H1[a]? = H[a]?) : vx_Zq C n d A U H1 := ⟨va_Zq.kept h.1 hq, vx_L.kept h.2 hq⟩
theorem vx_Zq.narrow {C n d : String} {A B : Nat → Prop} {U : State} {H : Heap} (h : vx_Zq C n d A U H) (hAB : ∀ q, B q → A q) : vx_Zq C n d B U H := ⟨va_Zq.narrow h.1 hAB, vx_L.narrow h.2 hAB⟩
theorem vx_Zqof {args : Array Value} {s : State} {C n d : String} {A : Nat → Prop} (hl : (Cond.laysStatic C n d).before args s = true) (hini : (Cond.initialized C).before args s = true) (h : (Cond.isRef (.static C n d)).before args s = true) (hA : ∀ a : Nat, a < s.heap.size → ¬ A a) : vx_Zq C n d A s s.heap := by
  refine ⟨va_Zqof hl hini h hA, ?_⟩
  obtain ⟨c, k, i, f, a, cell, h1, h2, h3, h4, h5, h6, h7, h8, h9⟩ := Cond.laysStatic_spec hl
  exact ⟨c, k, i, f, a, cell, h1, h2, h3, h4, h5, h6, h7, h8, h9, hA a (Array.getElem?_eq_some_iff.mp h5).1⟩
theorem vx_isRef {C n d : String} {v : Value} {A : Nat → Prop} {s : State} {args : Array Value} (h : va_Z C n d v A s s.heap) (hv : v.isRef = true) : (Cond.isRef (.static C n d)).before args s = true := by
  obtain ⟨cf, kf, fi, f, a, cell, h1, h2, h3, h4, h5, h6, h7, -⟩ := h
  have he : (Term.static C n d).eval args s none [] s = some v := by
    simp [Term.eval, State.fieldNamed?, h1, h2, h4, h5, h6, h7]
  simp only [Cond.before, Cond.holds, Cond.value, he]
  cases v <;> simp_all [Value.isRef]
theorem vx_isRefq {C n d : String} {A : Nat → Prop} {s : State} {args : Array Value} (h : va_Zq C n d A s s.heap) : (Cond.isRef (.static C n d)).before args s = true := by
  rcases h with h | ⟨t, h⟩
  · exact vx_isRef h rfl
  · exact vx_isRef h rfl
/-- the same frame, seen from here: as if the method were called anew in this heap -/
theorem vx_rebase {T : State} (X : Stand p l e R s m args below meth c T locs cells slots) {R' : Room} (hf : R'.frames ≤ R.frames) (hl : R'.locals ≤ R.locals) (hc : cells + R'.cells ≤ R.cells) (hs : slots + R'.slots ≤ R.slots) :
    Stand p l e R' ((T.setVm s.vm).setFrames (.invoking m args :: below)) m args below meth c T [] 0 0 := by
  have htop : (T.setVm s.vm).topJava?.isSome := X.here.top
  have hF : ((T.setVm s.vm).setFrames (.invoking m args :: below)).frames = .invoking m args :: below := State.frames_setFrames _ (State.cur_lt_of_top htop)
  obtain ⟨g₀, hg0⟩ := Option.isSome_iff_exists.mp htop
  obtain ⟨r, hr⟩ := State.topJava?_eq_some.mp hg0
  have hl9 : e.platform.stackLimits (T.setVm s.vm).me = e.platform.stackLimits s.me := X.limits
  have hb9 : (T.setVm s.vm).me.stackBytes = s.me.stackBytes := X.bytes
  refine ⟨X.admits, X.cas, X.clock, hF, ?_, X.hears, X.method, X.code, X.here, X.tail, X.warmed, ?_, ?_, ?_⟩
  · have h := X.room
    have hU : ((T.setVm s.vm).setFrames (.invoking m args :: below)).localsInUse = s.localsInUse := by
      rw [State.localsInUse_invoking hF (meth := meth) (c := c) X.method X.code, State.localsInUse_invoking X.frames X.method X.code]
    simp only [State.hasRoom, Bool.and_eq_true, decide_eq_true_eq] at h ⊢
    obtain ⟨⟨⟨⟨h1, h2, h3, h4, h5, h6⟩, h7⟩, h8⟩, h9⟩ := h
    rw [X.frames, List.length_cons] at h2 h3
    have q1 := X.heapSize
    have q2 := X.used
    simp only [hF, hU, List.length_cons, State.stackLimits_setFrames, State.stackBytes_setFrames, hl9, hb9]
    refine ⟨⟨⟨⟨by omega, by omega, by omega, by omega, by omega, h6⟩, ?_⟩, ?_⟩, X.book⟩
    · show T.heap.size + R'.cells ≤ e.platform.maxCells
      omega
    · show T.slotsUsed + R'.slots ≤ e.platform.maxSlots
      omega
  · rw [State.stackLimits_setFrames]; rfl
  · rw [State.stackBytes_setFrames]; rfl
  · refine ⟨?_, Nat.le_refl _, Nat.le_refl _, ?_, ?_, fun a c9 h9 => ⟨c9, h9, rfl, rfl, fun _ _ => rfl⟩⟩
    · obtain ⟨t, ht, -⟩ := State.frames_cons hr
      show T.setVm s.vm = { ((T.setVm s.vm).setFrames (.invoking m args :: below)).setFrames (T.setVm s.vm).frames with heap := T.heap, slotsUsed := T.slotsUsed }
      rw [State.setFrames_setFrames, State.setFrames_self ht]
      rfl
    · show T.slotsUsed = T.slotsUsed + ((T.heap.toList.drop T.heap.size).map (·.slots.size)).sum
      rw [List.drop_eq_nil_of_le (Nat.le_of_eq Array.length_toList)]
      rfl
    · show ((T.heap.toList.drop T.heap.size).map (·.slots.size)).sum ≤ 0
      rw [List.drop_eq_nil_of_le (Nat.le_of_eq Array.length_toList)]
      exact Nat.le_refl _
/-- 'throw new E()': new; dup; invokespecial; athrow -/
theorem vx_throw0 {cc : ByteArray} {pc : Nat} (hexec : p.tables.exec = Jvm.exec) (hb : c.code = cc) (hl : l.stackTraces = false) {own cls : String} {names : List String} {ik ic mc ms : Nat} {A : Nat → Prop}
    (hown : s.vm.findClass own = some m.cls) (hcls : Bundle.fit cls = true) (hnames : ∀ n ∈ names, Bundle.fit n = true)
    (hk : (Cond.classLink own ik cls).before args s = true) (hini : (Cond.initialized cls).before args s = true) (hat : ∀ w ∈ vx_at0 own ic cls names, w.before args s = true)
    (hgood : ∀ w ∈ Cond.classLink own ik cls :: Cond.initialized cls :: vx_at0 own ic cls names, vx_ot w = true)
    (hU : vx_Zq Bundle.tN "UNASSIGNED_STACK" Bundle.steD A s s.heap) (hN : vx_Zq Bundle.tN "SUPPRESSED_SENTINEL" Bundle.listD A s s.heap) (hS : va_S A s.heap H locs) (hsize : ls.size = c.maxLocals)
    (d0 : decode cc pc = .ok (.new ik, 3)) (d3 : decode cc (pc + 3) = .ok (.dup, 1)) (d4 : decode cc (pc + 4) = .ok (.invokespecial ic, 3)) (d7 : decode cc (pc + 7) = .ok (.athrow, 1))
    (hout : ∀ x ∈ c.exceptionTable.toList, covers x (pc + 7) = false)
    (hRframes : names.length + 3 < R.frames) (hRlocals : (rest.map fun v => v.category).sum + (13 * (names.length + 1) + 42) ≤ R.locals) (hRcells : cells + 1 ≤ R.cells) (hRslots : slots + 6 ≤ R.slots) (hlocks : meth.locks = false)
    (hx : ∀ t : State, s.vm.Alike t.vm → H.size ≤ t.heap.size → (∀ q : Nat, q < H.size → t.heap[q]? = H[q]?) → XC cls s t)
    (hf : ∀ z ∈ locs, free z.base) (hc : cells + 1 ≤ mc) (hs : slots + 6 ≤ ms) :
    W p l e R s m args below meth c H locs cells slots (vx_MQ below Qc XC args s mc ms free) (F0 m pc ls rest) := by
  intro T hT X
  have htr : e.platform.stackTraces = false := (show e.platform.stackTraces = l.stackTraces by rw [X.admits.platform]).trans hl
  have Y := vx_rebase X (R' := { frames := R.frames, locals := R.locals, cells := 1, slots := 6 }) (Nat.le_refl _) (Nat.le_refl _) hRcells hRslots
  obtain ⟨s', hA⟩ : ∃ z, z = (T.setVm s.vm).setFrames (.invoking m args :: below) := ⟨_, rfl⟩
  rw [← hA] at Y
  have hvm : s'.vm = s.vm := by rw [hA]; rfl
  have hhp : s'.heap = H := by rw [hA]; exact hT
  have hW0 : s.WarmedH s'.vm := by rw [hvm]; exact State.WarmedH.refl s
  have hat' : ∀ w ∈ vx_at0 own ic cls names, w.before args s' = true := fun w hw => vx_ot_at hW0 hvm.symm (hgood w (List.mem_cons_of_mem _ (List.mem_cons_of_mem _ hw))) (hat w hw)
  have hk' : (Cond.classLink own ik cls).before args s' = true := vx_ot_at hW0 hvm.symm (hgood _ List.mem_cons_self) hk
  have hini' : (Cond.initialized cls).before args s' = true := vx_ot_at hW0 hvm.symm (hgood _ (List.mem_cons_of_mem _ List.mem_cons_self)) hini
  have hU' : vx_Zq Bundle.tN "UNASSIGNED_STACK" Bundle.steD A s' s'.heap := by rw [hhp]; exact vx_Zq.moved hW0.alike (hU.kept hS.2.1)
  have hN' : vx_Zq Bundle.tN "SUPPRESSED_SENTINEL" Bundle.listD A s' s'.heap := by rw [hhp]; exact vx_Zq.moved hW0.alike (hN.kept hS.2.1)
  have h : ∀ w ∈ Bundle.ownAtoms0 own ic cls names, w.before args s' = true := vx_own hat' (vx_isRefq hU'.1) (vx_isRefq hN'.1) hU'.2.word hN'.2.word
  have hown' : s'.vm.findClass own = some m.cls := by rw [hvm]; exact hown
  have hins : (Cond.instantiable cls 6).before args s' = true := h _ (by simp [Bundle.ownAtoms0])
  obtain ⟨vm₁, cX, kX, hfX, hkX, -, -, X₁, st1⟩ := Y.newCold hexec (own := own) (C := cls) (index := ik) (n := 6) hown' hk' hins hini'
    (g := F0 m pc ls rest) rfl (by rw [hb]; exact d0) (Nat.le_refl _) (Nat.le_refl _)
  generalize hT1 : (T.setVm vm₁).pushCell { cls := cX, slots := kX.instanceTypes.map defaultValue, vm := .none } = T1 at X₁ st1
  have hcat : (Value.ref T.heap.size).category = 1 := rfl
  have hcellA : T1.heap[T.heap.size]? = some (freshCell cX kX) := by rw [← hT1]; exact State.heap_pushCell_size _ _
  have d3' : decode c.code (pc + 3) = .ok (.dup, 1) := by rw [hb]; exact d3
  obtain ⟨U, hsteps, hrun, hend, hW, hsame, ce, hce, hO⟩ := X₁.ctorThrow0 hexec htr (own := own) (cls := cls) (names := names) (ic := ic) hown' hcls hnames h (fun x hx => nomatch hx) hfX hkX hcellA (by rw [hhp, hT]; exact Nat.le_refl _)
    (g := { method := m, pc := pc + 4, locals := ls, stack := .ref T.heap.size :: .ref T.heap.size :: rest, locked := none }) rfl hsize rfl rfl (rest := rest) rfl
    (by rw [hb]; exact d4) (by rw [hb]; exact d7) hout hRframes (by simp only [List.map_cons, List.sum_cons, hcat]; omega) hlocks
  obtain ⟨f1, f2⟩ := vx_frame hsame
  rw [hhp] at f1 f2
  have hWs : s.WarmedH U.vm := State.WarmedH.trans hW0 hW
  have hcl : s.vm.findClass cls = some ce.cls := by
    have h9 := hO.cls
    rw [hvm] at h9
    exact h9
  have hall : s.sameButNew ({ U with vm := s.vm } : State) locs mc ms := by
    subst hA
    obtain ⟨e1, e2⟩ := hsame
    rw [State.setFrames_setFrames] at e1
    have h2 : (T.setVm s.vm).sameButNew ({ U with vm := s.vm } : State) [] (0 + 1) (0 + 6) := ⟨e1, e2⟩
    have h3 := X.same.trans h2
    rw [List.append_nil] at h3
    exact h3.mono hc hs
  refine ⟨U, ?_, .threw T.heap.size, hrun, hend, Or.inr ⟨T.heap.size, rfl, cls, ce, locs, hx U hWs.alike f1 (fun q hq => f2 q hq (fun z hz => nomatch hz)), hce, hO.vm, hcl, hWs, hall, hf⟩⟩
  refine st1 _ ?_
  show Steps p.tables e below (T1.setTop { method := m, pc := pc + 3, locals := ls, stack := .ref T.heap.size :: rest, locked := none }) _
  jvm_step X₁.here [X₁.here.top, hexec, d3', Value.category]
  exact hsteps
/-- 'throw new E("text")': new; dup; ldc; invokespecial; athrow -/
theorem vx_throwS {cc : ByteArray} {pc : Nat} (hexec : p.tables.exec = Jvm.exec) (hb : c.code = cc) (hl : l.stackTraces = false) {own cls text : String} {names : List String} {ik is ic mc ms sa : Nat} {A : Nat → Prop}
    (hown : s.vm.findClass own = some m.cls) (hcls : Bundle.fit cls = true) (hnames : ∀ n ∈ names, Bundle.fit n = true)
    (hk : (Cond.classLink own ik cls).before args s = true) (hini : (Cond.initialized cls).before args s = true) (hstr : vk_R own is text sa s) (hat : ∀ w ∈ vx_atS own ic cls names, w.before args s = true)
    (hgood : ∀ w ∈ Cond.classLink own ik cls :: Cond.initialized cls :: vx_atS own ic cls names, vx_ot w = true)
    (hU : vx_Zq Bundle.tN "UNASSIGNED_STACK" Bundle.steD A s s.heap) (hN : vx_Zq Bundle.tN "SUPPRESSED_SENTINEL" Bundle.listD A s s.heap) (hS : va_S A s.heap H locs) (hsize : ls.size = c.maxLocals)
    (d0 : decode cc pc = .ok (.new ik, 3)) (d3 : decode cc (pc + 3) = .ok (.dup, 1)) (d4 : decode cc (pc + 4) = .ok (.ldc is, 2)) (d6 : decode cc (pc + 6) = .ok (.invokespecial ic, 3)) (d9 : decode cc (pc + 9) = .ok (.athrow, 1))
    (hout : ∀ x ∈ c.exceptionTable.toList, covers x (pc + 9) = false)
    (hRframes : names.length + 3 < R.frames) (hRlocals : (rest.map fun v => v.category).sum + (13 * (names.length + 1) + 43) ≤ R.locals) (hRcells : cells + 1 ≤ R.cells) (hRslots : slots + 6 ≤ R.slots) (hlocks : meth.locks = false)
    (hx : ∀ t : State, s.vm.Alike t.vm → H.size ≤ t.heap.size → (∀ q : Nat, q < H.size → t.heap[q]? = H[q]?) → XC cls s t)
    (hf : ∀ z ∈ locs, free z.base) (hc : cells + 1 ≤ mc) (hs : slots + 6 ≤ ms) :
    W p l e R s m args below meth c H locs cells slots (vx_MQ below Qc XC args s mc ms free) (F0 m pc ls rest) := by
  intro T hT X
  have htr : e.platform.stackTraces = false := (show e.platform.stackTraces = l.stackTraces by rw [X.admits.platform]).trans hl
  have Y := vx_rebase X (R' := { frames := R.frames, locals := R.locals, cells := 1, slots := 6 }) (Nat.le_refl _) (Nat.le_refl _) hRcells hRslots
  obtain ⟨s', hA⟩ : ∃ z, z = (T.setVm s.vm).setFrames (.invoking m args :: below) := ⟨_, rfl⟩
  rw [← hA] at Y
  have hvm : s'.vm = s.vm := by rw [hA]; rfl
  have hhp : s'.heap = H := by rw [hA]; exact hT
  have hW0 : s.WarmedH s'.vm := by rw [hvm]; exact State.WarmedH.refl s
  have hat' : ∀ w ∈ vx_atS own ic cls names, w.before args s' = true := fun w hw => vx_ot_at hW0 hvm.symm (hgood w (List.mem_cons_of_mem _ (List.mem_cons_of_mem _ hw))) (hat w hw)
  have hk' : (Cond.classLink own ik cls).before args s' = true := vx_ot_at hW0 hvm.symm (hgood _ List.mem_cons_self) hk
  have hini' : (Cond.initialized cls).before args s' = true := vx_ot_at hW0 hvm.symm (hgood _ (List.mem_cons_of_mem _ List.mem_cons_self)) hini
  have hU' : vx_Zq Bundle.tN "UNASSIGNED_STACK" Bundle.steD A s' s'.heap := by rw [hhp]; exact vx_Zq.moved hW0.alike (hU.kept hS.2.1)
  have hN' : vx_Zq Bundle.tN "SUPPRESSED_SENTINEL" Bundle.listD A s' s'.heap := by rw [hhp]; exact vx_Zq.moved hW0.alike (hN.kept hS.2.1)
  have h : ∀ w ∈ Bundle.ownAtoms own ic cls names, w.before args s' = true := vx_own hat' (vx_isRefq hU'.1) (vx_isRefq hN'.1) hU'.2.word hN'.2.word
  have hown' : s'.vm.findClass own = some m.cls := by rw [hvm]; exact hown
  have hins : (Cond.instantiable cls 6).before args s' = true := h _ (by simp [Bundle.ownAtoms])
  obtain ⟨vm₁, cX, kX, hfX, hkX, -, -, X₁, st1⟩ := Y.newCold hexec (own := own) (C := cls) (index := ik) (n := 6) hown' hk' hins hini'
    (g := F0 m pc ls rest) rfl (by rw [hb]; exact d0) (Nat.le_refl _) (Nat.le_refl _)
  generalize hT1 : (T.setVm vm₁).pushCell { cls := cX, slots := kX.instanceTypes.map defaultValue, vm := .none } = T1 at X₁ st1
  have hcat : (Value.ref T.heap.size).category = 1 := rfl
  have hcellA : T1.heap[T.heap.size]? = some (freshCell cX kX) := by rw [← hT1]; exact State.heap_pushCell_size _ _
  have d3' : decode c.code (pc + 3) = .ok (.dup, 1) := by rw [hb]; exact d3
  have d4' : decode c.code (pc + 4) = .ok (.ldc is, 2) := by rw [hb]; exact d4
  have hstr' : vk_R own is text sa s' := vk_R.warm hW0 hstr
  obtain ⟨U, hsteps, hrun, hend, hW, hsame, ce, hce, hO⟩ := X₁.ctorThrowS hexec htr (own := own) (cls := cls) (names := names) (ic := ic) hown' hcls hnames h (fun x hx => nomatch hx) hfX hkX hcellA (by rw [hhp, hT]; exact Nat.le_refl _) (msg := .ref sa) rfl
    (g := { method := m, pc := pc + 6, locals := ls, stack := .ref sa :: .ref T.heap.size :: .ref T.heap.size :: rest, locked := none }) rfl hsize rfl rfl (rest := rest) rfl
    (by rw [hb]; exact d6) (by rw [hb]; exact d9) hout hRframes (by simp only [List.map_cons, List.sum_cons, hcat]; omega) hlocks
  obtain ⟨f1, f2⟩ := vx_frame hsame
  rw [hhp] at f1 f2
  have hWs : s.WarmedH U.vm := State.WarmedH.trans hW0 hW
  have hcl : s.vm.findClass cls = some ce.cls := by
    have h9 := hO.cls
    rw [hvm] at h9
    exact h9
  have hall : s.sameButNew ({ U with vm := s.vm } : State) locs mc ms := by
    subst hA
    obtain ⟨e1, e2⟩ := hsame
    rw [State.setFrames_setFrames] at e1
    have h2 : (T.setVm s.vm).sameButNew ({ U with vm := s.vm } : State) [] (0 + 1) (0 + 6) := ⟨e1, e2⟩
    have h3 := X.same.trans h2
    rw [List.append_nil] at h3
    exact h3.mono hc hs
  refine ⟨U, ?_, .threw T.heap.size, hrun, hend, Or.inr ⟨T.heap.size, rfl, cls, ce, locs, hx U hWs.alike f1 (fun q hq => f2 q hq (fun z hz => nomatch hz)), hce, hO.vm, hcl, hWs, hall, hf⟩⟩
  refine st1 _ ?_
  show Steps p.tables e below (T1.setTop { method := m, pc := pc + 3, locals := ls, stack := .ref T.heap.size :: rest, locked := none }) _
  jvm_step X₁.here [X₁.here.top, hexec, d3', Value.category]
  exact X₁.ldcString hexec (own := own) (text := text) (index := is) (a := sa) hown' hstr'.1 hstr'.2
    (g := { method := m, pc := pc + 4, locals := ls, stack := .ref T.heap.size :: .ref T.heap.size :: rest, locked := none }) rfl d4' _ hsteps
/-- 'throw new E("text")', the text by a wide index -/
theorem vx_throwSW {cc : ByteArray} {pc : Nat} (hexec : p.tables.exec = Jvm.exec) (hb : c.code = cc) (hl : l.stackTraces = false) {own cls text : String} {names : List String} {ik is ic mc ms sa : Nat} {A : Nat → Prop}
    (hown : s.vm.findClass own = some m.cls) (hcls : Bundle.fit cls = true) (hnames : ∀ n ∈ names, Bundle.fit n = true)
    (hk : (Cond.classLink own ik cls).before args s = true) (hini : (Cond.initialized cls).before args s = true) (hstr : vk_R own is text sa s) (hat : ∀ w ∈ vx_atS own ic cls names, w.before args s = true)
    (hgood : ∀ w ∈ Cond.classLink own ik cls :: Cond.initialized cls :: vx_atS own ic cls names, vx_ot w = true)
    (hU : vx_Zq Bundle.tN "UNASSIGNED_STACK" Bundle.steD A s s.heap) (hN : vx_Zq Bundle.tN "SUPPRESSED_SENTINEL" Bundle.listD A s s.heap) (hS : va_S A s.heap H locs) (hsize : ls.size = c.maxLocals)
    (d0 : decode cc pc = .ok (.new ik, 3)) (d3 : decode cc (pc + 3) = .ok (.dup, 1)) (d4 : decode cc (pc + 4) = .ok (.ldc_w is, 3)) (d7 : decode cc (pc + 7) = .ok (.invokespecial ic, 3)) (d10 : decode cc (pc + 10) = .ok (.athrow, 1))
    (hout : ∀ x ∈ c.exceptionTable.toList, covers x (pc + 10) = false)
    (hRframes : names.length + 3 < R.frames) (hRlocals : (rest.map fun v => v.category).sum + (13 * (names.length + 1) + 43) ≤ R.locals) (hRcells : cells + 1 ≤ R.cells) (hRslots : slots + 6 ≤ R.slots) (hlocks : meth.locks = false)
    (hx : ∀ t : State, s.vm.Alike t.vm → H.size ≤ t.heap.size → (∀ q : Nat, q < H.size → t.heap[q]? = H[q]?) → XC cls s t)
    (hf : ∀ z ∈ locs, free z.base) (hc : cells + 1 ≤ mc) (hs : slots + 6 ≤ ms) :
    W p l e R s m args below meth c H locs cells slots (vx_MQ below Qc XC args s mc ms free) (F0 m pc ls rest) := by
  intro T hT X
  have htr : e.platform.stackTraces = false := (show e.platform.stackTraces = l.stackTraces by rw [X.admits.platform]).trans hl
  have Y := vx_rebase X (R' := { frames := R.frames, locals := R.locals, cells := 1, slots := 6 }) (Nat.le_refl _) (Nat.le_refl _) hRcells hRslots
  obtain ⟨s', hA⟩ : ∃ z, z = (T.setVm s.vm).setFrames (.invoking m args :: below) := ⟨_, rfl⟩
  rw [← hA] at Y
  have hvm : s'.vm = s.vm := by rw [hA]; rfl
  have hhp : s'.heap = H := by rw [hA]; exact hT
  have hW0 : s.WarmedH s'.vm := by rw [hvm]; exact State.WarmedH.refl s
  have hat' : ∀ w ∈ vx_atS own ic cls names, w.before args s' = true := fun w hw => vx_ot_at hW0 hvm.symm (hgood w (List.mem_cons_of_mem _ (List.mem_cons_of_mem _ hw))) (hat w hw)
  have hk' : (Cond.classLink own ik cls).before args s' = true := vx_ot_at hW0 hvm.symm (hgood _ List.mem_cons_self) hk
  have hini' : (Cond.initialized cls).before args s' = true := vx_ot_at hW0 hvm.symm (hgood _ (List.mem_cons_of_mem _ List.mem_cons_self)) hini
  have hU' : vx_Zq Bundle.tN "UNASSIGNED_STACK" Bundle.steD A s' s'.heap := by rw [hhp]; exact vx_Zq.moved hW0.alike (hU.kept hS.2.1)
  have hN' : vx_Zq Bundle.tN "SUPPRESSED_SENTINEL" Bundle.listD A s' s'.heap := by rw [hhp]; exact vx_Zq.moved hW0.alike (hN.kept hS.2.1)
  have h : ∀ w ∈ Bundle.ownAtoms own ic cls names, w.before args s' = true := vx_own hat' (vx_isRefq hU'.1) (vx_isRefq hN'.1) hU'.2.word hN'.2.word
  have hown' : s'.vm.findClass own = some m.cls := by rw [hvm]; exact hown
  have hins : (Cond.instantiable cls 6).before args s' = true := h _ (by simp [Bundle.ownAtoms])
  obtain ⟨vm₁, cX, kX, hfX, hkX, -, -, X₁, st1⟩ := Y.newCold hexec (own := own) (C := cls) (index := ik) (n := 6) hown' hk' hins hini'
    (g := F0 m pc ls rest) rfl (by rw [hb]; exact d0) (Nat.le_refl _) (Nat.le_refl _)
  generalize hT1 : (T.setVm vm₁).pushCell { cls := cX, slots := kX.instanceTypes.map defaultValue, vm := .none } = T1 at X₁ st1
  have hcat : (Value.ref T.heap.size).category = 1 := rfl
  have hcellA : T1.heap[T.heap.size]? = some (freshCell cX kX) := by rw [← hT1]; exact State.heap_pushCell_size _ _
  have d3' : decode c.code (pc + 3) = .ok (.dup, 1) := by rw [hb]; exact d3
  have d4' : decode c.code (pc + 4) = .ok (.ldc_w is, 3) := by rw [hb]; exact d4
  have hstr' : vk_R own is text sa s' := vk_R.warm hW0 hstr
  obtain ⟨U, hsteps, hrun, hend, hW, hsame, ce, hce, hO⟩ := X₁.ctorThrowS hexec htr (own := own) (cls := cls) (names := names) (ic := ic) hown' hcls hnames h (fun x hx => nomatch hx) hfX hkX hcellA (by rw [hhp, hT]; exact Nat.le_refl _) (msg := .ref sa) rfl
    (g := { method := m, pc := pc + 7, locals := ls, stack := .ref sa :: .ref T.heap.size :: .ref T.heap.size :: rest, locked := none }) rfl hsize rfl rfl (rest := rest) rfl
    (by rw [hb]; exact d7) (by rw [hb]; exact d10) hout hRframes (by simp only [List.map_cons, List.sum_cons, hcat]; omega) hlocks
  obtain ⟨f1, f2⟩ := vx_frame hsame
  rw [hhp] at f1 f2
  have hWs : s.WarmedH U.vm := State.WarmedH.trans hW0 hW
  have hcl : s.vm.findClass cls = some ce.cls := by
    have h9 := hO.cls
    rw [hvm] at h9
    exact h9
  have hall : s.sameButNew ({ U with vm := s.vm } : State) locs mc ms := by
    subst hA
    obtain ⟨e1, e2⟩ := hsame
    rw [State.setFrames_setFrames] at e1
    have h2 : (T.setVm s.vm).sameButNew ({ U with vm := s.vm } : State) [] (0 + 1) (0 + 6) := ⟨e1, e2⟩
    have h3 := X.same.trans h2
    rw [List.append_nil] at h3
    exact h3.mono hc hs
  refine ⟨U, ?_, .threw T.heap.size, hrun, hend, Or.inr ⟨T.heap.size, rfl, cls, ce, locs, hx U hWs.alike f1 (fun q hq => f2 q hq (fun z hz => nomatch hz)), hce, hO.vm, hcl, hWs, hall, hf⟩⟩
  refine st1 _ ?_
  show Steps p.tables e below (T1.setTop { method := m, pc := pc + 3, locals := ls, stack := .ref T.heap.size :: rest, locked := none }) _
  jvm_step X₁.here [X₁.here.top, hexec, d3', Value.category]
  exact X₁.ldcStringW hexec (own := own) (text := text) (index := is) (a := sa) hown' hstr'.1 hstr'.2
    (g := { method := m, pc := pc + 4, locals := ls, stack := .ref T.heap.size :: .ref T.heap.size :: rest, locked := none }) rfl d4' _ hsteps
end Ends
section Bodies
variable {l : Launch}
theorem vx_ofW {y : MethodName} {ws ws' : List Cond} {rm : Room} {Pc : Array Value → State → Prop} {Qc : Array Value → State → Outcome → State → Prop} {XC : String → State → State → Prop} {mc ms : Nat} {free : Addr → Prop} {cc : ByteArray} {maxL : Nat} {ret : Option FieldType}
    (hy : plainName y.cls = true) (hw : ws = Cond.code y cc maxL ret :: ws')
    (body : ∀ p e s m args below meth c s₁, BodyLoose p l y (headSpec ws rm) cc maxL ret e s m args below meth c s₁ → c.maxLocals = maxL → (∀ x ∈ c.exceptionTable.toList, False) → Pc args s →
      W p l e (headSpec ws rm).room s m args below meth c s.heap [] 0 0 (vx_MQ below Qc XC args s mc ms free) (entryFrame m args maxL)) : vx_Met l y ws rm Pc Qc XC mc ms free := by
  refine MetFree.of_bodyS (code := cc) (maxLocals := maxL) (ret := ret) hy ?_ ?_
  · intro args s m h hn
    obtain ⟨meth, c, h1, h2, h3, h4, h5, h6, -, -⟩ := Cond.code_spec hn (atoms_spec (ws := ws) h _ (by rw [hw]; exact List.mem_cons_self))
    exact ⟨meth, c, h1, h2, h3, h4, h5, h6⟩
  · intro p e s m args below meth c s₁ B hml hP _
    have hh0 : s₁.heap = s.heap := by rw [B.state]; rfl
    have ht : ∀ x ∈ c.exceptionTable.toList, False := by
      obtain ⟨meth9, c9, h1, h2, -, -, -, -, h7, -⟩ := Cond.code_spec B.named (atoms_spec (ws := ws) B.pre _ (by rw [hw]; exact List.mem_cons_self))
      cases Option.some.inj (h1.symm.trans B.method)
      cases Option.some.inj (h2.symm.trans (Stand.of_body B).code)
      intro x hx
      rw [Array.isEmpty_iff.mp h7] at hx
      cases hx
    obtain ⟨t, a1, o, b1, b2, b3⟩ := body p e s m args below meth c s₁ B hml ht hP s₁ hh0 (Stand.of_body B)
    exact ⟨t, o, a1, b1, b2, b3⟩
/-- the table of a body with handlers -/
theorem vx_table {p : Program} {x y : MethodName} {S : Spec} {cc bytes : ByteArray} {maxL maxL' : Nat} {ret ret' : Option FieldType} {e : Env} {s s₁ : State} {m : MethodId} {args : Array Value} {below : List Frame} {meth : Method} {c : Code} {hh : List (Nat × Nat × Nat × Nat)}
    (B : BodyLoose p l y S cc maxL ret e s m args below meth c s₁) (h : (Cond.codeWith y bytes maxL' ret' hh).before args s = true) : c.exceptionTable.toList = tableOf hh := by
  obtain ⟨m9, meth9, c9, hn9, h1, h2, -, -, h6, -⟩ := Cond.codeWith_spec h
  cases Option.some.inj (hn9.symm.trans B.named)
  cases Option.some.inj (h1.symm.trans B.method)
  cases Option.some.inj (h2.symm.trans (Stand.of_body B).code)
  rw [← h6, table_eq]
end Bodies
end VXA
/-! ===== END ===== -/
/-! ===== BEGIN a static call of a method with an exception table ===== -/
section VXS
variable {p : Program} {l : Launch} {e : Env} {R : Room} {s : State} {m : MethodId} {args : Array Value} {below : List Frame} {meth : Method} {c : Code} {T : State} {H : Heap} {locs : List Loc} {cells slots : Nat}
abbrev vx_CSW (R : Room) (s : State) (args : Array Value) (own : String) (index : Nat) (y : MethodName) (bytes : ByteArray) (maxL : Nat) (ret : Option FieldType) (hh : List (Nat × Nat × Nat × Nat)) (ws : List Cond) (rm : Room) (mc ms n : Nat) : Prop :=
  (rm.cells = mc ∧ rm.slots = ms ∧ rm.frames + 1 ≤ R.frames ∧ 8 + (maxL + 11) + rm.locals ≤ R.locals ∧ (∀ w ∈ ws, ∀ (a' : Array Value) (U : State), s.WarmedH U.vm → w.before a' U = true) ∧ Cond.codeWith y bytes maxL ret hh ∈ ws) ∧
  (Cond.codeWith y bytes maxL ret hh).before args s = true ∧ (Cond.initialized y.cls).before args s = true ∧ (y.cls ≠ "java/lang/invoke/MethodHandle" ∧ y.cls ≠ "java/lang/invoke/VarHandle") ∧
  (∀ sig, parseMethodDescriptor y.desc = some sig → n = sig.parameters.length) ∧ (Cond.methodLink own index y).before args s = true ∧ (Cond.static y).before args s = true
theorem vx_cwSW {own : String} {index maxL mc ms : Nat} {y : MethodName} {bytes : ByteArray} {ret : Option FieldType} {hh : List (Nat × Nat × Nat × Nat)} {Ts ws ws' : List Cond} {rm : Room} (n : Nat) (ht : ∀ w ∈ Ts, w.before args s = true) (hT : GoodIn Ts (va_wsS own index y ws)) (hw : ws = Cond.codeWith y bytes maxL ret hh :: ws') (hrc : rm.cells = mc) (hrs : rm.slots = ms)
    (hd : y.cls ≠ "java/lang/invoke/MethodHandle" ∧ y.cls ≠ "java/lang/invoke/VarHandle" ∧ (parseMethodDescriptor y.desc).map (fun d => d.parameters.length) = some n) (hR : rm.frames + 1 ≤ R.frames ∧ 8 + (maxL + 11) + rm.locals ≤ R.locals) :
    vx_CSW R s args own index y bytes maxL ret hh ws rm mc ms n := by
  have ok : ∀ w ∈ va_wsS own index y ws, w.before args s = true := fun w h => ht w (hT w h).1
  have hG : GoodIn Ts ws := fun w h => hT w (by unfold va_wsS; exact List.mem_append_right _ h)
  have hc : Cond.codeWith y bytes maxL ret hh ∈ ws := by rw [hw]; exact List.mem_cons_self
  refine ⟨⟨hrc, hrs, hR.1, hR.2, pay_in ht hG, hc⟩, ht _ (hG _ hc).1, ok _ (by simp [va_wsS]), ⟨hd.1, hd.2.1⟩, fun sig h => ?_, ok _ (by simp [va_wsS]), ok _ (by simp [va_wsS])⟩
  have h2 := hd.2.2
  rw [h] at h2
  exact (Option.some.inj h2).symm
theorem vx_callSW (X : Stand p l e R s m args below meth c T locs cells slots) (hexec : p.tables.exec = Jvm.exec) {own : String} {index : Nat} {y : MethodName} {bytes : ByteArray} {maxL : Nat} {ret : Option FieldType} {hh : List (Nat × Nat × Nat × Nat)}
    (hown : s.vm.findClass own = some m.cls) (hlink : (Cond.methodLink own index y).before args s = true) (hstat : (Cond.static y).before args s = true) (hinit : (Cond.initialized y.cls).before args s = true)
    (hcode : (Cond.codeWith y bytes maxL ret hh).before args s = true) (hy : y.cls ≠ "java/lang/invoke/MethodHandle" ∧ y.cls ≠ "java/lang/invoke/VarHandle")
    {W9 : Nat} {Pre : Pt → Array Value → Prop} {Post : Pt → Array Value → Option Value → Pt → Prop} (hK : Back l R p e below s args y 3 W9 Pre Post)
    {g : JFrame} (hg : g.method = m) (hsize : g.locals.size = c.maxLocals) {argsL rest : List Value} (hlen : ∀ sig, parseMethodDescriptor y.desc = some sig → argsL.length = sig.parameters.length)
    (hstack : g.stack = argsL.reverse ++ rest) (hW : 2 * g.monitorRoom + (rest.map fun v => v.category).sum ≤ W9) (hdg : decode c.code g.pc = .ok (.invokestatic index, 3))
    (hpre : ∀ vm₁, s.WarmedH vm₁ → Pre ⟨T.setVm vm₁, locs, cells, slots⟩ argsL.toArray) :
    ∃ (v : Option Value) (vm₁ : Vm) (B : Pt), s.WarmedH vm₁ ∧ Stand p l e R s m args below meth c B.U B.locs B.cells B.slots ∧ Post ⟨T.setVm vm₁, locs, cells, slots⟩ argsL.toArray v B ∧
      ∀ target, Steps p.tables e below (B.U.setTop { g with pc := g.pc + 3, stack := v.toList ++ rest }) target → Steps p.tables e below (T.setTop g) target := by
  obtain ⟨mk, methM, cM, hnamed, hmethM, -, -, -, -, -, -, hsigM⟩ := Cond.codeWith_spec hcode
  have hstatic : methM.isStatic = true := Cond.static_spec hnamed hmethM hstat
  obtain ⟨kP, hkP, -⟩ := className_of_methodNamed hnamed
  have hinitP : kP.init = .initialized := Cond.initialized_spec (findClass_of_methodNamed hnamed) hkP hinit
  obtain ⟨vm₁, X₁, hstep₁⟩ := X.invokestatic hexec hown hlink hnamed hmethM hstatic hkP hinitP hy (g := g) hg (argsL := argsL) (rest := rest) (hlen _ hsigM) hstack hdg
  obtain ⟨v, B, X', hpost, hsteps⟩ := hK m meth c ⟨T.setVm vm₁, locs, cells, slots⟩ { g with stack := rest } (.invokestatic index) mk argsL.toArray X₁ hg hsize hdg hW (X₁.named hnamed) (hpre vm₁ X₁.warmed)
  exact ⟨v, vm₁, B, X₁.warmed, X', hpost, fun target h => hstep₁ _ fun acts => by rw [doInvoke_state]; exact hsteps.trans h⟩
theorem vx_runSW {y : MethodName} {bytes cc : ByteArray} {maxL nL mc ms n index : Nat} {ret : Option FieldType} {hh : List (Nat × Nat × Nat × Nat)} {ws : List Cond} {rm : Room} {Pc : Array Value → State → Prop} {Qc : Array Value → State → Outcome → State → Prop} {free : Addr → Prop} {Ts : List Cond} {own : String} {As rest : List Value} {g : JFrame}
    (S : CallFix p m c cc nL s args Ts own) (hM : Met l y ws rm Pc Qc mc ms free) (cw : vx_CSW R s args own index y bytes maxL ret hh ws rm mc ms n) (hp : PreS s H Pc As)
    (hg : g.method = m) (hn : As.length = n) (hsize : g.locals.size = nL) (hstack : g.stack = As.reverse ++ rest) (hW : 2 * g.monitorRoom + (rest.map fun v => v.category).sum ≤ 8) (hdg : decode cc g.pc = .ok (.invokestatic index, 3)) (hf : cells + mc ≤ R.cells ∧ slots + ms ≤ R.slots) :
    va_Run p l e R s m args below meth c H locs cells slots mc ms g rest (Qc As.toArray) (free) := by
  obtain ⟨⟨hrc, hrs, hfr, hlo, hws, hcw⟩, hcode, hini, hy, hlen, hl, hstt⟩ := cw
  have hK : Back l R p e below s args y 3 8 (PreOf R mc ms Pc) (PostOf Qc mc ms free) := va_backW (hh := hh) (bytes := bytes) (maxL := maxL) (ret := ret) hM hp.1 hrc hrs hfr hlo hws hcw (fun a' U hW => word_at hW (Or.inl (by first | rfl | simp [Cond.onTables, Cond.keeps, Cond.steady])) hini)
  obtain ⟨hx, hb, hml, ho, -⟩ := S
  intro T hT X
  obtain ⟨v, vm₁, ⟨U', l2, c2, s2⟩, hW₁, X', ⟨g', mk, t, L, e1, e2, hq, h1, hL, h2, h3⟩, st⟩ := vx_callSW X hx (hh := hh) (bytes := bytes) (maxL := maxL) (ret := ret) ho hl hstt hini hcode hy hK hg (hsize.trans hml.symm) (argsL := As) (rest := rest) (fun sig h => hn.trans (hlen sig h)) hstack hW (by rw [hb]; exact hdg)
    (fun vm₁ hW₁ => ⟨hf.1, hf.2, hp.2 (T.setVm vm₁) hT hW₁⟩)
  dsimp only [Pt.U, Pt.locs, Pt.cells, Pt.slots] at X' e1 e2 h1 h2 h3 st
  subst h1; subst h2; subst h3
  exact ⟨v, (T.setVm vm₁).calling g' mk As.toArray, t, U', L, hT, X', hL, e1, e2, hq, st⟩
/-- not caught here, past rows that name other classes: it goes on to the caller -/
theorem vx_outP {p : Program} {l : Launch} {e : Env} {R : Room} {s : State} {m : MethodId} {args : Array Value} {below : List Frame} {meth : Method} {c : Code} {H : Heap} {locs : List Loc} {cells slots : Nat} {free : Addr → Prop} {ls : Array Slot} {rest : List Value} {Qc : Array Value → State → Outcome → State → Prop} {XC : String → State → State → Prop}
    {pc : Nat} {own E : String} {ce : Cell} {q : Addr} {mc ms : Nat} (hown : s.vm.findClass own = some m.cls) (hlocks : meth.locks = false)
    (hpass : ∀ z ∈ c.exceptionTable.toList, covers z pc = false ∨ (z.catchType ≠ 0 ∧ ∃ nm : String, (Cond.classLink own z.catchType nm).before args s = true ∧ va_Nc E nm s)) (hcell : H[q]? = some ce) (hv : ce.vm = .none) (hcl : s.vm.findClass E = some ce.cls)
    (hx : ∀ t : State, t.heap = H → s.vm.Alike t.vm → XC E s t) (hf : ∀ z ∈ locs, free z.base) (hc : cells ≤ mc) (hs : slots ≤ ms) :
    vx_W p l e R s m args below meth c H locs cells slots (vx_MQ below Qc XC args s mc ms free) (F0 m pc ls rest) q := by
  intro T hT X
  have hpl : e.platform.magicAccessors = ({} : Platform).magicAccessors := by rw [X.admits.platform]
  obtain ⟨vm', hW', X', st⟩ := X.outThrough hlocks q (g := F0 m pc ls rest) rfl rfl rfl (cell := ce) (by rw [hT]; exact hcell) (by rw [hv]; rfl)
    (by obtain ⟨k9, h9, -⟩ := Vm.findClass_spec hcl; exact ⟨k9, h9⟩) (fun z hz => by
      rcases hpass z hz with h | ⟨hz0, nm, hl1, hn1⟩
      · exact Or.inl h
      · obtain ⟨c6, hc6, hcl6⟩ := Cond.classLink_spec hown hl1 e.platform hpl
        obtain ⟨a8, b8, h1, h2, h3⟩ := hn1
        cases Option.some.inj (h1.symm.trans hcl)
        cases Option.some.inj (h2.symm.trans hc6)
        exact Or.inr ⟨hz0, _, hcl6, h3⟩)
  obtain ⟨g₀, hfr⟩ := X'.frames_eq
  have hcell9 : ((T.setVm vm').setFrames (.throwing q :: below)).heap[q]? = some ce := by
    show T.heap[q]? = some ce
    rw [hT]; exact hcell
  have hend : Ended ((T.setVm vm').setFrames (.throwing q :: below)) below (.threw q) := State.frames_setFrames _ (State.cur_lt_of_frames hfr)
  refine ⟨(T.setVm vm').setFrames (.throwing q :: below), ?_, .threw q, X'.here.running, hend, Or.inr ⟨q, rfl, E, ce, locs, hx _ hT (X'.ends _).1.alike, hcell9, hv, hcl, (X'.ends _).1, (X'.ends _).2.mono hc hs, hf⟩⟩
  rw [X.pushThrowing_eq]
  exact st
/-- a thing of a world lies in the heap -/
theorem vx_lt {D : va_G} {cl : List vw_C} {ws : va_W} {H1 : Heap} (h : va_P D cl ws H1) {k : Nat} {q : Nat × va_E} (hk : ws[k]? = some q) : q.1 < H1.size := (h k q hk).lt
end VXS
/-! ===== END ===== -/
/-! ===== BEGIN methods with a table of their own: called by a name, returning or throwing ===== -/
section VXH
/-! vx_backW, vx_callVX, vx_callSX, vx_callVW, vx_runVW, vx_runVX, vx_runSX, vx_ofWH follow the same proofs as their sisters above (Free/Laws.lean, Shelf42/LK1.lean); vx_outP calls Shelf42/NT130.lean (outThrough). -/
section
variable {l : Launch} {R : Room} {p : Program} {e : Env} {below : List Frame} {s : State} {sargs : Array Value} {y : MethodName} {len W9 : Nat}
theorem vx_backW {ws : List Cond} {rm : Room} {Pc : Array Value → State → Prop} {Qc : Array Value → State → Outcome → State → Prop} {XC : String → State → State → Prop} {mc ms : Nat} {free : Addr → Prop} {bytes : ByteArray} {maxL : Nat} {ret : Option FieldType} {hh : List (Nat × Nat × Nat × Nat)}
    (hM : vx_Met l y ws rm Pc Qc XC mc ms free) (hblind : FrameBlind Pc) (hrc : rm.cells = mc) (hrs : rm.slots = ms)
    (hframes : rm.frames + 1 ≤ R.frames) (hlocals : W9 + (maxL + 11) + rm.locals ≤ R.locals)
    (hws : ∀ w ∈ ws, ∀ a' U, s.WarmedH U.vm → w.before a' U = true) (hcode : Cond.codeWith y bytes maxL ret hh ∈ ws) (hinit : ∀ a' U, s.WarmedH U.vm → (Cond.initialized y.cls).before a' U = true) :
    vx_Back l R p e below s sargs y len W9 (PreOf R mc ms Pc) (PostOf Qc mc ms free) (vx_Post XC mc ms free) := by
  intro m meth c A g ig mk a X hg hsize hdg hW hn hp
  have h1 : (headSpec ws rm).pre.before a A.U = true := atoms_intro fun w hw => hws w hw _ _ X.warmed
  have h2 : (Cond.codeWith y bytes maxL ret hh).before a A.U = true := hws _ hcode _ _ X.warmed
  have h3 : (Cond.initialized y.cls).before a A.U = true := hinit _ _ X.warmed
  have h4 : A.cells + (headSpec ws rm).room.cells ≤ R.cells := by rw [show (headSpec ws rm).room.cells = mc from hrc]; exact hp.1
  have h5 : A.slots + (headSpec ws rm).room.slots ≤ R.slots := by rw [show (headSpec ws rm).room.slots = ms from hrs]; exact hp.2.1
  have hPc : Pc a (A.U.calling g mk a) := hblind _ _ _ _ hp.2.2
  obtain ⟨U, Ls, c0, s0⟩ := A
  dsimp only [Pt.U, Pt.locs, Pt.cells, Pt.slots] at h1 h2 h3 h4 h5 X hn hPc ⊢
  obtain ⟨m9, methY, cY, hn9, hmY, hcY, -, hlY, -⟩ := Cond.codeWith_spec h2
  cases Option.some.inj (hn9.symm.trans hn)
  obtain ⟨kY, hkY, -⟩ := className_of_methodNamed hn
  have hinitY : kY.init = .initialized := Cond.initialized_spec (findClass_of_methodNamed hn) hkY h3
  have h : At U g.method c below := by rw [hg]; exact X.here
  have hlocals9 : W9 + (maxL + 11) + (headSpec ws rm).room.locals ≤ R.locals := hlocals
  have happ : (headSpec ws rm).appliesLoose y e.platform (U.calling g mk a) = true :=
    Spec.appliesLoose_calling (g := g) h hdg hn hkY hinitY
      (X.room_calling (g := g) (R' := (headSpec ws rm).room) hsize hmY hcY hframes (by rw [hlY]; omega) h4 h5) h1
  obtain ⟨mid, hmid⟩ := h.above
  have hfr : (U.setTop g).frames = (.java g :: mid) ++ below := by rw [State.frames_setTop' g h.top, hmid]; rfl
  obtain ⟨o, s₂, hsteps, -, hend, hq⟩ := Steps.callFree hM p X.admits X.cas X.clock (acts := []) hfr happ hPc trivial
  have hq' : vx_Q Qc XC mc ms free a (U.calling g mk a) o s₂ := hq
  rw [State.frames_setTop' g h.top] at hend
  obtain ⟨g₀, hg0⟩ := Option.isSome_iff_exists.mp h.top
  obtain ⟨r, hr⟩ := State.topJava?_eq_some.mp hg0
  have hr' : (({ U with heap := s₂.heap, slotsUsed := s₂.slotsUsed } : State).setVm s₂.vm).frames = .java g₀ :: r := hr
  rcases hq' with ⟨hqc, L, hfe, hL⟩ | ⟨q, rfl, E, ce, L, hx, hce, hcv, hcl, hW₂, hsm, hL⟩
  · obtain ⟨⟨v, rfl⟩, hW₂, e2, q2, q3, q4, q5, q6⟩ := id hfe
    have e3 : s₂ = ({ (U.calling g mk a).setFrames s₂.frames with heap := s₂.heap, slotsUsed := s₂.slotsUsed } : State).setVm s₂.vm := by
      have : s₂ = ({ s₂ with vm := (U.calling g mk a).vm } : State).setVm s₂.vm := rfl
      rw [e2] at this
      exact this
    obtain ⟨c₂, i₂, len₂, hc₂, hd₂, hf₂⟩ := hend
    have hW' : U.WarmedH s₂.vm := hW₂
    have hcc : c₂ = c := by
      have h1 : s₂.code? g.method = U.code? g.method := by
        rw [State.code?_eq, State.code?_eq, hW'.alike.method?]
      exact Option.some.inj (hc₂.symm.trans (h1.trans h.code))
    subst hcc
    have hlen : len₂ = len := by rw [hdg] at hd₂; cases hd₂; rfl
    subst hlen
    have hs₂ : s₂ = (({ U with heap := s₂.heap, slotsUsed := s₂.slotsUsed } : State).setVm s₂.vm).setTop { g with pc := g.pc + len₂, stack := v.toList ++ g.stack } := by
      refine e3.trans ?_
      rw [hf₂, State.calling_eq h.top, State.setFrames_setFrames, State.setTop_of_frames _ hr', hr]
      rfl
    have hsame : U.sameButNew ({ U with heap := s₂.heap, slotsUsed := s₂.slotsUsed } : State) L mc ms := by
      refine ⟨?_, q2, q3, q4, q5, q6⟩
      obtain ⟨t, ht, -⟩ := State.frames_cons hr
      show ({ U with heap := s₂.heap, slotsUsed := s₂.slotsUsed } : State) = { U.setFrames U.frames with heap := s₂.heap, slotsUsed := s₂.slotsUsed }
      rw [State.setFrames_self ht]
    subst hg
    refine Or.inl ⟨v, ⟨(({ U with heap := s₂.heap, slotsUsed := s₂.slotsUsed } : State).setVm s₂.vm), Ls ++ L, c0 + mc, s0 + ms⟩,
      ⟨X.admits, X.cas, X.clock, X.frames, X.room, X.hears, X.method, X.code, (X.here.setHeapUsed s₂.heap s₂.slotsUsed).setVm hW'.alike, X.tail, State.WarmedH.trans X.warmed hW', X.limits, X.bytes, X.same.trans (hsame.setVm s.vm)⟩,
      ⟨g, mk, s₂, L, rfl, rfl, hqc, rfl, hL, rfl, rfl⟩, ?_⟩
    show Steps p.tables e below _ ((({ U with heap := s₂.heap, slotsUsed := s₂.slotsUsed } : State).setVm s₂.vm).setTop { g with pc := g.pc + len₂, stack := v.toList ++ g.stack })
    rw [← hs₂]
    exact hsteps
  · obtain ⟨e2, q2, q3, q4, q5, q6⟩ := id hsm
    have e3 : s₂ = ({ (U.calling g mk a).setFrames s₂.frames with heap := s₂.heap, slotsUsed := s₂.slotsUsed } : State).setVm s₂.vm := by
      have : s₂ = ({ s₂ with vm := (U.calling g mk a).vm } : State).setVm s₂.vm := rfl
      rw [e2] at this
      exact this
    have hf₂ : s₂.frames = .throwing q :: .java g :: U.frames.tail := hend
    have hW' : U.WarmedH s₂.vm := hW₂
    have hs₂ : s₂ = ((({ U with heap := s₂.heap, slotsUsed := s₂.slotsUsed } : State).setVm s₂.vm).setTop g).pushFrame (.throwing q) := by
      refine e3.trans ?_
      rw [hf₂, State.calling_eq h.top, State.setFrames_setFrames, State.pushFrame, State.frames_setTop _ hr', State.setTop_of_frames _ hr', State.setFrames_setFrames, hr]
      rfl
    have hsame : U.sameButNew ({ U with heap := s₂.heap, slotsUsed := s₂.slotsUsed } : State) L mc ms := by
      refine ⟨?_, q2, q3, q4, q5, q6⟩
      obtain ⟨t, ht, -⟩ := State.frames_cons hr
      show ({ U with heap := s₂.heap, slotsUsed := s₂.slotsUsed } : State) = { U.setFrames U.frames with heap := s₂.heap, slotsUsed := s₂.slotsUsed }
      rw [State.setFrames_self ht]
    subst hg
    refine Or.inr ⟨q, ⟨(({ U with heap := s₂.heap, slotsUsed := s₂.slotsUsed } : State).setVm s₂.vm), Ls ++ L, c0 + mc, s0 + ms⟩,
      ⟨X.admits, X.cas, X.clock, X.frames, X.room, X.hears, X.method, X.code, (X.here.setHeapUsed s₂.heap s₂.slotsUsed).setVm hW'.alike, X.tail, State.WarmedH.trans X.warmed hW', X.limits, X.bytes, X.same.trans (hsame.setVm s.vm)⟩,
      ⟨g, mk, s₂, L, E, ce, rfl, rfl, hx, hce, hcv, hcl, rfl, hL, rfl, rfl⟩, ?_⟩
    show Steps p.tables e below _ (((({ U with heap := s₂.heap, slotsUsed := s₂.slotsUsed } : State).setVm s₂.vm).setTop g).pushFrame (.throwing q))
    rw [← hs₂]
    exact hsteps
end
variable {p : Program} {l : Launch} {e : Env} {R : Room} {s : State} {m : MethodId} {args : Array Value} {below : List Frame} {meth : Method} {c : Code} {T : State} {H : Heap} {locs : List Loc} {cells slots : Nat}
theorem vx_callVX (X : Stand p l e R s m args below meth c T locs cells slots) (hexec : p.tables.exec = Jvm.exec) {own C : String} {index : Nat} {y : MethodName} {bytes : ByteArray} {maxL : Nat} {ret : Option FieldType} {hh : List (Nat × Nat × Nat × Nat)}
    (hown : s.vm.findClass own = some m.cls) (hlink : (Cond.methodLink own index y).before args s = true) (hinst : (Cond.instanceMethod y).before args s = true) (hsel : (Cond.selects C y y).before args s = true)
    (hcode : (Cond.codeWith y bytes maxL ret hh).before args s = true) (hy : y.cls ≠ "java/lang/invoke/MethodHandle" ∧ y.cls ≠ "java/lang/invoke/VarHandle")
    {W9 : Nat} {Pre : Pt → Array Value → Prop} {Post : Pt → Array Value → Option Value → Pt → Prop} {PostX : Pt → Array Value → Addr → Pt → Prop} (hK : vx_Back l R p e below s args y 3 W9 Pre Post PostX)
    {b : Addr} {cellB : Cell} (hcell : T.heap[b]? = some cellB) (hobj : cellB.vm.isStatics = false) (hcls : s.vm.findClass C = some cellB.cls)
    {g : JFrame} (hg : g.method = m) (hsize : g.locals.size = c.maxLocals) {argsL rest : List Value} (hlen : ∀ sig, parseMethodDescriptor y.desc = some sig → argsL.length = sig.parameters.length)
    (hstack : g.stack = argsL.reverse ++ .ref b :: rest) (hW : 2 * g.monitorRoom + (rest.map fun v => v.category).sum ≤ W9) (hdg : decode c.code g.pc = .ok (.invokevirtual index, 3))
    (hpre : ∀ vm₁, s.WarmedH vm₁ → Pre ⟨T.setVm vm₁, locs, cells, slots⟩ (Value.ref b :: argsL).toArray) :
    (∃ (v : Option Value) (vm₁ : Vm) (B : Pt), s.WarmedH vm₁ ∧ Stand p l e R s m args below meth c B.U B.locs B.cells B.slots ∧ Post ⟨T.setVm vm₁, locs, cells, slots⟩ (Value.ref b :: argsL).toArray v B ∧
      ∀ target, Steps p.tables e below (B.U.setTop { g with pc := g.pc + 3, stack := v.toList ++ rest }) target → Steps p.tables e below (T.setTop g) target) ∨
    (∃ (q : Addr) (vm₁ : Vm) (B : Pt), s.WarmedH vm₁ ∧ Stand p l e R s m args below meth c B.U B.locs B.cells B.slots ∧ PostX ⟨T.setVm vm₁, locs, cells, slots⟩ (Value.ref b :: argsL).toArray q B ∧
      Steps p.tables e below (T.setTop g) ((B.U.setTop { g with stack := rest }).pushFrame (.throwing q))) := by
  obtain ⟨mk, methM, hnamed, hmethM, hstM, habM⟩ := Cond.instanceMethod_spec hinst
  obtain ⟨m8, methM', cM, hn8, hmethM', -, -, -, -, -, -, hsigM⟩ := Cond.codeWith_spec hcode
  cases Option.some.inj (hn8.symm.trans hnamed)
  cases hmethM.symm.trans hmethM'
  obtain ⟨c2, r2, m2, q1, q2, q3, q4, kP, hkP, hkPi⟩ := Cond.selects_spec hsel
  cases hcls.symm.trans q1
  cases (State.methodFound?_of_named hnamed hy).symm.trans q2
  cases hnamed.symm.trans q3
  have hselP : selectMethod e.platform s.vm cellB.cls mk = .method mk := by rw [Launch.admits_selectMethod X.admits]; exact q4
  obtain ⟨vm₁, X₁, hstep₁⟩ := X.invokevirtual hexec hown hlink hnamed hmethM hstM hkP hkPi hy (a := b) (cell := cellB) hcell
    (fun z h => by rw [h] at hobj; cases hobj) hselP hmethM habM hkP hkPi (g := g) hg (argsL := argsL) (rest := rest) (hlen _ hsigM) hstack hdg
  rcases hK m meth c ⟨T.setVm vm₁, locs, cells, slots⟩ { g with stack := rest } (.invokevirtual index) mk (Value.ref b :: argsL).toArray X₁ hg hsize hdg hW (X₁.named hnamed) (hpre vm₁ X₁.warmed) with ⟨v, B, X', hpost, hsteps⟩ | ⟨q, B, X', hpost, hsteps⟩
  · exact Or.inl ⟨v, vm₁, B, X₁.warmed, X', hpost, fun target h => hstep₁ _ fun acts => by rw [doInvoke_state]; exact hsteps.trans h⟩
  · exact Or.inr ⟨q, vm₁, B, X₁.warmed, X', hpost, hstep₁ _ fun acts => by rw [doInvoke_state]; exact hsteps⟩
theorem vx_callSX (X : Stand p l e R s m args below meth c T locs cells slots) (hexec : p.tables.exec = Jvm.exec) {own : String} {index : Nat} {y : MethodName} {bytes : ByteArray} {maxL : Nat} {ret : Option FieldType} {hh : List (Nat × Nat × Nat × Nat)}
    (hown : s.vm.findClass own = some m.cls) (hlink : (Cond.methodLink own index y).before args s = true) (hstat : (Cond.static y).before args s = true) (hinit : (Cond.initialized y.cls).before args s = true)
    (hcode : (Cond.codeWith y bytes maxL ret hh).before args s = true) (hy : y.cls ≠ "java/lang/invoke/MethodHandle" ∧ y.cls ≠ "java/lang/invoke/VarHandle")
    {W9 : Nat} {Pre : Pt → Array Value → Prop} {Post : Pt → Array Value → Option Value → Pt → Prop} {PostX : Pt → Array Value → Addr → Pt → Prop} (hK : vx_Back l R p e below s args y 3 W9 Pre Post PostX)
    {g : JFrame} (hg : g.method = m) (hsize : g.locals.size = c.maxLocals) {argsL rest : List Value} (hlen : ∀ sig, parseMethodDescriptor y.desc = some sig → argsL.length = sig.parameters.length)
    (hstack : g.stack = argsL.reverse ++ rest) (hW : 2 * g.monitorRoom + (rest.map fun v => v.category).sum ≤ W9) (hdg : decode c.code g.pc = .ok (.invokestatic index, 3))
    (hpre : ∀ vm₁, s.WarmedH vm₁ → Pre ⟨T.setVm vm₁, locs, cells, slots⟩ argsL.toArray) :
    (∃ (v : Option Value) (vm₁ : Vm) (B : Pt), s.WarmedH vm₁ ∧ Stand p l e R s m args below meth c B.U B.locs B.cells B.slots ∧ Post ⟨T.setVm vm₁, locs, cells, slots⟩ argsL.toArray v B ∧
      ∀ target, Steps p.tables e below (B.U.setTop { g with pc := g.pc + 3, stack := v.toList ++ rest }) target → Steps p.tables e below (T.setTop g) target) ∨
    (∃ (q : Addr) (vm₁ : Vm) (B : Pt), s.WarmedH vm₁ ∧ Stand p l e R s m args below meth c B.U B.locs B.cells B.slots ∧ PostX ⟨T.setVm vm₁, locs, cells, slots⟩ argsL.toArray q B ∧
      Steps p.tables e below (T.setTop g) ((B.U.setTop { g with stack := rest }).pushFrame (.throwing q))) := by
  obtain ⟨mk, methM, cM, hnamed, hmethM, -, -, -, -, -, -, hsigM⟩ := Cond.codeWith_spec hcode
  have hstatic : methM.isStatic = true := Cond.static_spec hnamed hmethM hstat
  obtain ⟨kP, hkP, -⟩ := className_of_methodNamed hnamed
  have hinitP : kP.init = .initialized := Cond.initialized_spec (findClass_of_methodNamed hnamed) hkP hinit
  obtain ⟨vm₁, X₁, hstep₁⟩ := X.invokestatic hexec hown hlink hnamed hmethM hstatic hkP hinitP hy (g := g) hg (argsL := argsL) (rest := rest) (hlen _ hsigM) hstack hdg
  rcases hK m meth c ⟨T.setVm vm₁, locs, cells, slots⟩ { g with stack := rest } (.invokestatic index) mk argsL.toArray X₁ hg hsize hdg hW (X₁.named hnamed) (hpre vm₁ X₁.warmed) with ⟨v, B, X', hpost, hsteps⟩ | ⟨q, B, X', hpost, hsteps⟩
  · exact Or.inl ⟨v, vm₁, B, X₁.warmed, X', hpost, fun target h => hstep₁ _ fun acts => by rw [doInvoke_state]; exact hsteps.trans h⟩
  · exact Or.inr ⟨q, vm₁, B, X₁.warmed, X', hpost, hstep₁ _ fun acts => by rw [doInvoke_state]; exact hsteps⟩
theorem vx_callVW (X : Stand p l e R s m args below meth c T locs cells slots) (hexec : p.tables.exec = Jvm.exec) {own C : String} {index : Nat} {y : MethodName} {bytes : ByteArray} {maxL : Nat} {ret : Option FieldType} {hh : List (Nat × Nat × Nat × Nat)}
    (hown : s.vm.findClass own = some m.cls) (hlink : (Cond.methodLink own index y).before args s = true) (hinst : (Cond.instanceMethod y).before args s = true) (hsel : (Cond.selects C y y).before args s = true)
    (hcode : (Cond.codeWith y bytes maxL ret hh).before args s = true) (hy : y.cls ≠ "java/lang/invoke/MethodHandle" ∧ y.cls ≠ "java/lang/invoke/VarHandle")
    {W9 : Nat} {Pre : Pt → Array Value → Prop} {Post : Pt → Array Value → Option Value → Pt → Prop} (hK : Back l R p e below s args y 3 W9 Pre Post)
    {b : Addr} {cellB : Cell} (hcell : T.heap[b]? = some cellB) (hobj : cellB.vm.isStatics = false) (hcls : s.vm.findClass C = some cellB.cls)
    {g : JFrame} (hg : g.method = m) (hsize : g.locals.size = c.maxLocals) {argsL rest : List Value} (hlen : ∀ sig, parseMethodDescriptor y.desc = some sig → argsL.length = sig.parameters.length)
    (hstack : g.stack = argsL.reverse ++ .ref b :: rest) (hW : 2 * g.monitorRoom + (rest.map fun v => v.category).sum ≤ W9) (hdg : decode c.code g.pc = .ok (.invokevirtual index, 3))
    (hpre : ∀ vm₁, s.WarmedH vm₁ → Pre ⟨T.setVm vm₁, locs, cells, slots⟩ (Value.ref b :: argsL).toArray) :
    ∃ (v : Option Value) (vm₁ : Vm) (B : Pt), s.WarmedH vm₁ ∧ Stand p l e R s m args below meth c B.U B.locs B.cells B.slots ∧ Post ⟨T.setVm vm₁, locs, cells, slots⟩ (Value.ref b :: argsL).toArray v B ∧
      ∀ target, Steps p.tables e below (B.U.setTop { g with pc := g.pc + 3, stack := v.toList ++ rest }) target → Steps p.tables e below (T.setTop g) target := by
  obtain ⟨mk, methM, hnamed, hmethM, hstM, habM⟩ := Cond.instanceMethod_spec hinst
  obtain ⟨m8, methM', cM, hn8, hmethM', -, -, -, -, -, -, hsigM⟩ := Cond.codeWith_spec hcode
  cases Option.some.inj (hn8.symm.trans hnamed)
  cases hmethM.symm.trans hmethM'
  obtain ⟨c2, r2, m2, q1, q2, q3, q4, kP, hkP, hkPi⟩ := Cond.selects_spec hsel
  cases hcls.symm.trans q1
  cases (State.methodFound?_of_named hnamed hy).symm.trans q2
  cases hnamed.symm.trans q3
  have hselP : selectMethod e.platform s.vm cellB.cls mk = .method mk := by rw [Launch.admits_selectMethod X.admits]; exact q4
  obtain ⟨vm₁, X₁, hstep₁⟩ := X.invokevirtual hexec hown hlink hnamed hmethM hstM hkP hkPi hy (a := b) (cell := cellB) hcell
    (fun z h => by rw [h] at hobj; cases hobj) hselP hmethM habM hkP hkPi (g := g) hg (argsL := argsL) (rest := rest) (hlen _ hsigM) hstack hdg
  obtain ⟨v, B, X', hpost, hsteps⟩ := hK m meth c ⟨T.setVm vm₁, locs, cells, slots⟩ { g with stack := rest } (.invokevirtual index) mk (Value.ref b :: argsL).toArray X₁ hg hsize hdg hW (X₁.named hnamed) (hpre vm₁ X₁.warmed)
  exact ⟨v, vm₁, B, X₁.warmed, X', hpost, fun target h => hstep₁ _ fun acts => by rw [doInvoke_state]; exact hsteps.trans h⟩
abbrev vx_CVW (R : Room) (s : State) (args : Array Value) (own C : String) (index : Nat) (y : MethodName) (bytes : ByteArray) (maxL : Nat) (ret : Option FieldType) (hh : List (Nat × Nat × Nat × Nat)) (ws : List Cond) (rm : Room) (mc ms n : Nat) : Prop :=
  (rm.cells = mc ∧ rm.slots = ms ∧ rm.frames + 1 ≤ R.frames ∧ 8 + (maxL + 11) + rm.locals ≤ R.locals ∧ (∀ w ∈ ws, ∀ (a' : Array Value) (U : State), s.WarmedH U.vm → w.before a' U = true) ∧ Cond.codeWith y bytes maxL ret hh ∈ ws) ∧
  (Cond.codeWith y bytes maxL ret hh).before args s = true ∧ (Cond.initialized y.cls).before args s = true ∧ (y.cls ≠ "java/lang/invoke/MethodHandle" ∧ y.cls ≠ "java/lang/invoke/VarHandle") ∧
  (∀ sig, parseMethodDescriptor y.desc = some sig → n = sig.parameters.length) ∧ (Cond.methodLink own index y).before args s = true ∧ (Cond.instanceMethod y).before args s = true ∧ (Cond.selects C y y).before args s = true
theorem vx_cwVW {own C : String} {index maxL mc ms : Nat} {y : MethodName} {bytes : ByteArray} {ret : Option FieldType} {hh : List (Nat × Nat × Nat × Nat)} {Ts ws ws' : List Cond} {rm : Room} (n : Nat) (ht : ∀ w ∈ Ts, w.before args s = true) (hT : GoodIn Ts (wsV own index C y ws)) (hw : ws = Cond.codeWith y bytes maxL ret hh :: ws') (hrc : rm.cells = mc) (hrs : rm.slots = ms)
    (hd : y.cls = C ∧ y.cls ≠ "java/lang/invoke/MethodHandle" ∧ y.cls ≠ "java/lang/invoke/VarHandle" ∧ (parseMethodDescriptor y.desc).map (fun d => d.parameters.length) = some n) (hR : rm.frames + 1 ≤ R.frames ∧ 8 + (maxL + 11) + rm.locals ≤ R.locals) :
    vx_CVW R s args own C index y bytes maxL ret hh ws rm mc ms n := by
  obtain ⟨hC, hd⟩ := hd
  subst hC
  have ok : ∀ w ∈ wsV own index y.cls y ws, w.before args s = true := fun w h => ht w (hT w h).1
  have hG : GoodIn Ts ws := fun w h => hT w (by unfold wsV; exact List.mem_append_right _ h)
  have hc : Cond.codeWith y bytes maxL ret hh ∈ ws := by rw [hw]; exact List.mem_cons_self
  refine ⟨⟨hrc, hrs, hR.1, hR.2, pay_in ht hG, hc⟩, ht _ (hG _ hc).1, ok _ (by simp [wsV]), ⟨hd.1, hd.2.1⟩, fun sig h => ?_, ok _ (by simp [wsV]), ok _ (by simp [wsV]), ok _ (by simp [wsV])⟩
  have h2 := hd.2.2
  rw [h] at h2
  exact (Option.some.inj h2).symm
theorem vx_runVW {y : MethodName} {bytes cc : ByteArray} {maxL nL mc ms n index : Nat} {ret : Option FieldType} {hh : List (Nat × Nat × Nat × Nat)} {ws : List Cond} {rm : Room} {Pc : Array Value → State → Prop} {Qc : Array Value → State → Outcome → State → Prop} {free : Addr → Prop} {Ts : List Cond} {own C : String} {b : Addr} {As rest : List Value} {g : JFrame}
    (S : CallFix p m c cc nL s args Ts own) (hM : Met l y ws rm Pc Qc mc ms free) (cw : vx_CVW R s args own C index y bytes maxL ret hh ws rm mc ms n) (hp : PreV s H C b Pc As)
    (hg : g.method = m) (hn : As.length = n) (hsize : g.locals.size = nL) (hstack : g.stack = As.reverse ++ .ref b :: rest) (hW : 2 * g.monitorRoom + (rest.map fun v => v.category).sum ≤ 8) (hdg : decode cc g.pc = .ok (.invokevirtual index, 3)) (hf : cells + mc ≤ R.cells ∧ slots + ms ≤ R.slots) :
    va_Run p l e R s m args below meth c H locs cells slots mc ms g rest (Qc (Value.ref b :: As).toArray) free := by
  obtain ⟨⟨hrc, hrs, hfr, hlo, hws, hcw⟩, hcode, hini, hy, hlen, hl, hin, hse⟩ := cw
  have hK : Back l R p e below s args y 3 8 (PreOf R mc ms Pc) (PostOf Qc mc ms free) := va_backW (hh := hh) (bytes := bytes) (maxL := maxL) (ret := ret) hM hp.1 hrc hrs hfr hlo hws hcw (fun a' U hW => word_at hW (Or.inl (by first | rfl | simp [Cond.onTables, Cond.keeps, Cond.steady])) hini)
  obtain ⟨hx, hb, hml, ho, -⟩ := S
  obtain ⟨-, ⟨cellB, hcB, hoB, hclB⟩, hPc⟩ := hp
  intro T hT X
  obtain ⟨v, vm₁, ⟨U', l2, c2, s2⟩, hW₁, X', ⟨g', mk, t, L, e1, e2, hq, h1, hL, h2, h3⟩, st⟩ := vx_callVW X hx (C := C) (hh := hh) (bytes := bytes) (maxL := maxL) (ret := ret) ho hl hin hse hcode hy hK (by rw [hT]; exact hcB) hoB hclB hg (hsize.trans hml.symm) (argsL := As) (rest := rest) (fun sig h => hn.trans (hlen sig h)) hstack hW (by rw [hb]; exact hdg)
    (fun vm₁ hW₁ => ⟨hf.1, hf.2, hPc (T.setVm vm₁) hT hW₁⟩)
  dsimp only [Pt.U, Pt.locs, Pt.cells, Pt.slots] at X' e1 e2 h1 h2 h3 st
  subst h1; subst h2; subst h3
  exact ⟨v, (T.setVm vm₁).calling g' mk (Value.ref b :: As).toArray, t, U', L, hT, X', hL, e1, e2, hq, st⟩
section
variable {y : MethodName} {bytes cc : ByteArray} {maxL nL mc ms n index : Nat} {ret : Option FieldType} {ws : List Cond} {rm : Room} {Pc : Array Value → State → Prop} {Qc : Array Value → State → Outcome → State → Prop} {XC : String → State → State → Prop} {free : Addr → Prop} {Ts : List Cond} {own C : String} {b : Addr} {As rest : List Value} {g : JFrame}
theorem vx_runVX {hh : List (Nat × Nat × Nat × Nat)} (S : CallFix p m c cc nL s args Ts own) (hM : vx_Met l y ws rm Pc Qc XC mc ms free) (cw : vx_CVW R s args own C index y bytes maxL ret hh ws rm mc ms n) (hp : PreV s H C b Pc As)
    (hg : g.method = m) (hn : As.length = n) (hsize : g.locals.size = nL) (hstack : g.stack = As.reverse ++ .ref b :: rest) (hW : 2 * g.monitorRoom + (rest.map fun v => v.category).sum ≤ 8) (hdg : decode cc g.pc = .ok (.invokevirtual index, 3)) (hf : cells + mc ≤ R.cells ∧ slots + ms ≤ R.slots) :
    vx_Run p l e R s m args below meth c H locs cells slots mc ms g rest (Qc (Value.ref b :: As).toArray) XC free := by
  obtain ⟨⟨hrc, hrs, hfr, hlo, hws, hcw⟩, hcode, hini, hy, hlen, hl, hin, hse⟩ := cw
  have hK : vx_Back l R p e below s args y 3 8 (PreOf R mc ms Pc) (PostOf Qc mc ms free) (vx_Post XC mc ms free) := vx_backW (hh := hh) (bytes := bytes) (maxL := maxL) (ret := ret) hM hp.1 hrc hrs hfr hlo hws hcw (fun a' U hW => word_at hW (Or.inl (by first | rfl | simp [Cond.onTables, Cond.keeps, Cond.steady])) hini)
  obtain ⟨hx, hb, hml, ho, -⟩ := S
  obtain ⟨-, ⟨cellB, hcB, hoB, hclB⟩, hPc⟩ := hp
  intro T hT X
  rcases vx_callVX X hx (C := C) (hh := hh) (bytes := bytes) (maxL := maxL) (ret := ret) ho hl hin hse hcode hy hK (by rw [hT]; exact hcB) hoB hclB hg (hsize.trans hml.symm) (argsL := As) (rest := rest) (fun sig h => hn.trans (hlen sig h)) hstack hW (by rw [hb]; exact hdg)
    (fun vm₁ hW₁ => ⟨hf.1, hf.2, hPc (T.setVm vm₁) hT hW₁⟩) with ⟨v, vm₁, ⟨U', l2, c2, s2⟩, hW₁, X', ⟨g', mk, t, L, e1, e2, hq, h1, hL, h2, h3⟩, st⟩ | ⟨q, vm₁, ⟨U', l2, c2, s2⟩, hW₁, X', ⟨g', mk, t, L, E, ce, e1, e2, hq, hce, hcv, hcl, h1, hL, h2, h3⟩, st⟩
  · dsimp only [Pt.U, Pt.locs, Pt.cells, Pt.slots] at X' e1 e2 h1 h2 h3 st
    subst h1; subst h2; subst h3
    exact Or.inl ⟨v, (T.setVm vm₁).calling g' mk (Value.ref b :: As).toArray, t, U', L, hT, X', hL, e1, e2, hq, st⟩
  · dsimp only [Pt.U, Pt.locs, Pt.cells, Pt.slots] at X' e1 e2 h1 h2 h3 st hcl
    subst h1; subst h2; subst h3
    exact Or.inr ⟨q, (T.setVm vm₁).calling g' mk (Value.ref b :: As).toArray, t, U', L, E, ce, hT, X', hL, e1, e2, hq, hce, hcv, vx_cls hW₁ hcl, st⟩
theorem vx_runSX {hh : List (Nat × Nat × Nat × Nat)} (S : CallFix p m c cc nL s args Ts own) (hM : vx_Met l y ws rm Pc Qc XC mc ms free) (cw : vx_CSW R s args own index y bytes maxL ret hh ws rm mc ms n) (hp : PreS s H Pc As)
    (hg : g.method = m) (hn : As.length = n) (hsize : g.locals.size = nL) (hstack : g.stack = As.reverse ++ rest) (hW : 2 * g.monitorRoom + (rest.map fun v => v.category).sum ≤ 8) (hdg : decode cc g.pc = .ok (.invokestatic index, 3)) (hf : cells + mc ≤ R.cells ∧ slots + ms ≤ R.slots) :
    vx_Run p l e R s m args below meth c H locs cells slots mc ms g rest (Qc As.toArray) XC free := by
  obtain ⟨⟨hrc, hrs, hfr, hlo, hws, hcw⟩, hcode, hini, hy, hlen, hl, hstt⟩ := cw
  have hK : vx_Back l R p e below s args y 3 8 (PreOf R mc ms Pc) (PostOf Qc mc ms free) (vx_Post XC mc ms free) := vx_backW (hh := hh) (bytes := bytes) (maxL := maxL) (ret := ret) hM hp.1 hrc hrs hfr hlo hws hcw (fun a' U hW => word_at hW (Or.inl (by first | rfl | simp [Cond.onTables, Cond.keeps, Cond.steady])) hini)
  obtain ⟨hx, hb, hml, ho, -⟩ := S
  intro T hT X
  rcases vx_callSX X hx (hh := hh) (bytes := bytes) (maxL := maxL) (ret := ret) ho hl hstt hini hcode hy hK hg (hsize.trans hml.symm) (argsL := As) (rest := rest) (fun sig h => hn.trans (hlen sig h)) hstack hW (by rw [hb]; exact hdg)
    (fun vm₁ hW₁ => ⟨hf.1, hf.2, hp.2 (T.setVm vm₁) hT hW₁⟩) with ⟨v, vm₁, ⟨U', l2, c2, s2⟩, hW₁, X', ⟨g', mk, t, L, e1, e2, hq, h1, hL, h2, h3⟩, st⟩ | ⟨q, vm₁, ⟨U', l2, c2, s2⟩, hW₁, X', ⟨g', mk, t, L, E, ce, e1, e2, hq, hce, hcv, hcl, h1, hL, h2, h3⟩, st⟩
  · dsimp only [Pt.U, Pt.locs, Pt.cells, Pt.slots] at X' e1 e2 h1 h2 h3 st
    subst h1; subst h2; subst h3
    exact Or.inl ⟨v, (T.setVm vm₁).calling g' mk As.toArray, t, U', L, hT, X', hL, e1, e2, hq, st⟩
  · dsimp only [Pt.U, Pt.locs, Pt.cells, Pt.slots] at X' e1 e2 h1 h2 h3 st hcl
    subst h1; subst h2; subst h3
    exact Or.inr ⟨q, (T.setVm vm₁).calling g' mk As.toArray, t, U', L, E, ce, hT, X', hL, e1, e2, hq, hce, hcv, vx_cls hW₁ hcl, st⟩
end
end VXH
theorem vx_ofWH {l : Launch} {y : MethodName} {ws ws' : List Cond} {rm : Room} {Pc : Array Value → State → Prop} {Qc : Array Value → State → Outcome → State → Prop} {XC : String → State → State → Prop} {mc ms : Nat} {free : Addr → Prop} {cc : ByteArray} {maxL : Nat} {ret : Option FieldType} {hh : List (Nat × Nat × Nat × Nat)}
    (hy : plainName y.cls = true) (hw : ws = Cond.codeWith y cc maxL ret hh :: ws')
    (body : ∀ p e s m args below meth c s₁, BodyLoose p l y (headSpec ws rm) cc maxL ret e s m args below meth c s₁ → c.maxLocals = maxL → Pc args s →
      W p l e (headSpec ws rm).room s m args below meth c s.heap [] 0 0 (vx_MQ below Qc XC args s mc ms free) (entryFrame m args maxL)) : vx_Met l y ws rm Pc Qc XC mc ms free := by
  refine MetFree.of_bodyS (code := cc) (maxLocals := maxL) (ret := ret) hy ?_ ?_
  · intro args s m h hn
    obtain ⟨m9, meth, c, hn9, h1, h2, h3, h4, -, h5, h6, -⟩ := Cond.codeWith_spec (atoms_spec (ws := ws) h _ (by rw [hw]; exact List.mem_cons_self))
    cases hn.symm.trans hn9
    exact ⟨meth, c, h1, h2, h3, h4, h5, h6⟩
  · intro p e s m args below meth c s₁ B hml hP _
    have hh0 : s₁.heap = s.heap := by rw [B.state]; rfl
    obtain ⟨t, a1, o, b1, b2, b3⟩ := body p e s m args below meth c s₁ B hml hP s₁ hh0 (Stand.of_body B)
    exact ⟨t, o, a1, b1, b2, b3⟩
/-! ===== END ===== -/
end
section
def RX0 : String := "Archivepress$Joins"
def TX0 : u_T := fun k => match k with
  | 0 => ("Archivepress$Joins", "pairs", "[J", true)
  | 1 => ("Archivepress$Joins", "tolds", "[J", true)
  | _ => ("Archivepress$Joins", "count", "I", false)
def tyX0 : Nat → FieldType := fun k => match k with
  | 0 => .array .long
  | 1 => .array .long
  | _ => .int
abbrev wsX00 : List Cond := u_ws RX0 TX0 3
theorem nmX0 : ∀ a, a < 3 → ∀ b, b < 3 → a ≠ b → (TX0 a).2.1 ≠ (TX0 b).2.1 := by decide +kernel
theorem tyX0_ok : ∀ k, k < 3 → parseFieldDescriptor (TX0 k).2.2.1 = some (tyX0 k) := by decide +kernel
abbrev cX0_init : ByteArray := prog_2_method_1_code
def yX0_init : MethodName := ⟨RX0, "<init>", "()V"⟩
abbrev cX0_append : ByteArray := prog_2_method_2_code
def yX0_append : MethodName := ⟨RX0, "append", "(III)I"⟩
abbrev cX0_closure : ByteArray := prog_2_method_3_code
def yX0_closure : MethodName := ⟨RX0, "closure", "(J)J"⟩
abbrev cX0_addTold : ByteArray := prog_2_method_4_code
def yX0_addTold : MethodName := ⟨RX0, "addTold", "(J)J"⟩
def RX1 : String := "Archivepress$Lines"
def TX1 : u_T := fun k => match k with
  | 0 => ("Archivepress$Lines", "documentSizes", "[I", true)
  | 1 => ("Archivepress$Lines", "documents", "[I", true)
  | 2 => ("Archivepress$Lines", "indexes", "[I", true)
  | 3 => ("Archivepress$Lines", "values", "[I", true)
  | 4 => ("Archivepress$Lines", "documentCount", "I", false)
  | _ => ("Archivepress$Lines", "count", "I", false)
def tyX1 : Nat → FieldType := fun k => match k with
  | 0 => .array .int
  | 1 => .array .int
  | 2 => .array .int
  | 3 => .array .int
  | 4 => .int
  | _ => .int
abbrev wsX10 : List Cond := u_ws RX1 TX1 6
theorem nmX1 : ∀ a, a < 6 → ∀ b, b < 6 → a ≠ b → (TX1 a).2.1 ≠ (TX1 b).2.1 := by decide +kernel
theorem tyX1_ok : ∀ k, k < 6 → parseFieldDescriptor (TX1 k).2.2.1 = some (tyX1 k) := by decide +kernel
abbrev cX1_init : ByteArray := prog_3_method_1_code
def yX1_init : MethodName := ⟨RX1, "<init>", "()V"⟩
abbrev cX1_appendDocument : ByteArray := prog_3_method_2_code
def yX1_appendDocument : MethodName := ⟨RX1, "appendDocument", "()I"⟩
abbrev cX1_append : ByteArray := prog_3_method_3_code
def yX1_append : MethodName := ⟨RX1, "append", "(II)I"⟩
def RX2 : String := "Archivepress$Log"
def TX2 : u_T := fun k => match k with
  | 0 => ("Archivepress$Log", "askers", "[I", true)
  | 1 => ("Archivepress$Log", "givenLines", "[I", true)
  | _ => ("Archivepress$Log", "count", "I", false)
def tyX2 : Nat → FieldType := fun k => match k with
  | 0 => .array .int
  | 1 => .array .int
  | _ => .int
abbrev wsX20 : List Cond := u_ws RX2 TX2 3
theorem nmX2 : ∀ a, a < 3 → ∀ b, b < 3 → a ≠ b → (TX2 a).2.1 ≠ (TX2 b).2.1 := by decide +kernel
theorem tyX2_ok : ∀ k, k < 3 → parseFieldDescriptor (TX2 k).2.2.1 = some (tyX2 k) := by decide +kernel
abbrev cX2_init : ByteArray := prog_4_method_1_code
def yX2_init : MethodName := ⟨RX2, "<init>", "()V"⟩
abbrev cX2_append : ByteArray := prog_4_method_2_code
def yX2_append : MethodName := ⟨RX2, "append", "(II)V"⟩
abbrev cX2_linesGivenTo : ByteArray := prog_4_method_3_code
def yX2_linesGivenTo : MethodName := ⟨RX2, "linesGivenTo", "(I)J"⟩
def RX3 : String := "Archivepress$Requests"
def TX3 : u_T := fun k => match k with
  | 0 => ("Archivepress$Requests", "askers", "[I", true)
  | 1 => ("Archivepress$Requests", "documents", "[I", true)
  | 2 => ("Archivepress$Requests", "states", "[C", true)
  | 3 => ("Archivepress$Requests", "madeOn", "[I", true)
  | _ => ("Archivepress$Requests", "count", "I", false)
def tyX3 : Nat → FieldType := fun k => match k with
  | 0 => .array .int
  | 1 => .array .int
  | 2 => .array .char
  | 3 => .array .int
  | _ => .int
abbrev wsX30 : List Cond := u_ws RX3 TX3 5
theorem nmX3 : ∀ a, a < 5 → ∀ b, b < 5 → a ≠ b → (TX3 a).2.1 ≠ (TX3 b).2.1 := by decide +kernel
theorem tyX3_ok : ∀ k, k < 5 → parseFieldDescriptor (TX3 k).2.2.1 = some (tyX3 k) := by decide +kernel
abbrev cX3_init : ByteArray := prog_5_method_1_code
def yX3_init : MethodName := ⟨RX3, "<init>", "()V"⟩
abbrev cX3_append : ByteArray := prog_5_method_2_code
def yX3_append : MethodName := ⟨RX3, "append", "(III)I"⟩
abbrev cX3_isWaiting : ByteArray := prog_5_method_3_code
def yX3_isWaiting : MethodName := ⟨RX3, "isWaiting", "(II)Z"⟩
abbrev cX3_countInState : ByteArray := prog_5_method_4_code
def yX3_countInState : MethodName := ⟨RX3, "countInState", "(C)I"⟩
abbrev cX3_countLate : ByteArray := prog_5_method_5_code
def yX3_countLate : MethodName := ⟨RX3, "countLate", "(I)I"⟩
def RX4 : String := "Archivepress$Rules"
def TX4 : u_T := fun k => match k with
  | 0 => ("Archivepress$Rules", "firsts", "[I", true)
  | 1 => ("Archivepress$Rules", "seconds", "[I", true)
  | 2 => ("Archivepress$Rules", "lasts", "[I", true)
  | _ => ("Archivepress$Rules", "count", "I", false)
def tyX4 : Nat → FieldType := fun k => match k with
  | 0 => .array .int
  | 1 => .array .int
  | 2 => .array .int
  | _ => .int
abbrev wsX40 : List Cond := u_ws RX4 TX4 4
theorem nmX4 : ∀ a, a < 4 → ∀ b, b < 4 → a ≠ b → (TX4 a).2.1 ≠ (TX4 b).2.1 := by decide +kernel
theorem tyX4_ok : ∀ k, k < 4 → parseFieldDescriptor (TX4 k).2.2.1 = some (tyX4 k) := by decide +kernel
abbrev cX4_init : ByteArray := prog_6_method_1_code
def yX4_init : MethodName := ⟨RX4, "<init>", "()V"⟩
abbrev cX4_append : ByteArray := prog_6_method_2_code
def yX4_append : MethodName := ⟨RX4, "append", "(III)I"⟩
abbrev cX4_hide : ByteArray := prog_6_method_3_code
def yX4_hide : MethodName := ⟨RX4, "hide", "(II)Z"⟩
def RX5 : String := "Archivepress$Spans"
def TX5 : u_T := fun k => match k with
  | 0 => ("Archivepress$Spans", "documents", "[I", true)
  | 1 => ("Archivepress$Spans", "firsts", "[I", true)
  | 2 => ("Archivepress$Spans", "seconds", "[I", true)
  | 3 => ("Archivepress$Spans", "lasts", "[I", true)
  | 4 => ("Archivepress$Spans", "lifted", "[Z", true)
  | _ => ("Archivepress$Spans", "count", "I", false)
def tyX5 : Nat → FieldType := fun k => match k with
  | 0 => .array .int
  | 1 => .array .int
  | 2 => .array .int
  | 3 => .array .int
  | 4 => .array .boolean
  | _ => .int
abbrev wsX50 : List Cond := u_ws RX5 TX5 6
theorem nmX5 : ∀ a, a < 6 → ∀ b, b < 6 → a ≠ b → (TX5 a).2.1 ≠ (TX5 b).2.1 := by decide +kernel
theorem tyX5_ok : ∀ k, k < 6 → parseFieldDescriptor (TX5 k).2.2.1 = some (tyX5 k) := by decide +kernel
abbrev cX5_init : ByteArray := prog_7_method_1_code
def yX5_init : MethodName := ⟨RX5, "<init>", "()V"⟩
abbrev cX5_append : ByteArray := prog_7_method_2_code
def yX5_append : MethodName := ⟨RX5, "append", "(IIII)I"⟩
abbrev cX5_has : ByteArray := prog_7_method_3_code
def yX5_has : MethodName := ⟨RX5, "has", "(I)Z"⟩
abbrev cX5_isInForce : ByteArray := prog_7_method_4_code
def yX5_isInForce : MethodName := ⟨RX5, "isInForce", "(II)Z"⟩
abbrev cX5_hide : ByteArray := prog_7_method_5_code
def yX5_hide : MethodName := ⟨RX5, "hide", "(III)Z"⟩
def RX6 : String := "Archivepress"
def TX6 : u_T := fun k => match k with
  | 0 => ("Archivepress", "lineTable", "LArchivepress$Lines;", true)
  | 1 => ("Archivepress", "rules", "LArchivepress$Rules;", true)
  | 2 => ("Archivepress", "spans", "LArchivepress$Spans;", true)
  | 3 => ("Archivepress", "joins", "LArchivepress$Joins;", true)
  | 4 => ("Archivepress", "log", "LArchivepress$Log;", true)
  | 5 => ("Archivepress", "requests", "LArchivepress$Requests;", true)
  | 6 => ("Archivepress", "heldLines", "[J", true)
  | 7 => ("Archivepress", "debts", "[I", true)
  | 8 => ("Archivepress", "price", "I", false)
  | 9 => ("Archivepress", "today", "I", false)
  | _ => ("Archivepress", "feeSum", "J", false)
def tyX6 : Nat → FieldType := fun k => match k with
  | 0 => .object "Archivepress$Lines"
  | 1 => .object "Archivepress$Rules"
  | 2 => .object "Archivepress$Spans"
  | 3 => .object "Archivepress$Joins"
  | 4 => .object "Archivepress$Log"
  | 5 => .object "Archivepress$Requests"
  | 6 => .array .long
  | 7 => .array .int
  | 8 => .int
  | 9 => .int
  | _ => .long
abbrev wsX60 : List Cond := u_ws RX6 TX6 11
theorem nmX6 : ∀ a, a < 11 → ∀ b, b < 11 → a ≠ b → (TX6 a).2.1 ≠ (TX6 b).2.1 := by decide +kernel
theorem tyX6_ok : ∀ k, k < 11 → parseFieldDescriptor (TX6 k).2.2.1 = some (tyX6 k) := by decide +kernel
abbrev cX6_init : ByteArray := prog_1_method_1_code
def yX6_init : MethodName := ⟨RX6, "<init>", "()V"⟩
abbrev cX6_addDocument : ByteArray := prog_1_method_2_code
def yX6_addDocument : MethodName := ⟨RX6, "addDocument", "()I"⟩
abbrev cX6_addLine : ByteArray := prog_1_method_3_code
def yX6_addLine : MethodName := ⟨RX6, "addLine", "(II)I"⟩
abbrev cX6_rescan : ByteArray := prog_1_method_4_code
def yX6_rescan : MethodName := ⟨RX6, "rescan", "(II)I"⟩
abbrev cX6_documentOf : ByteArray := prog_1_method_5_code
def yX6_documentOf : MethodName := ⟨RX6, "documentOf", "(I)I"⟩
abbrev cX6_indexOf : ByteArray := prog_1_method_6_code
def yX6_indexOf : MethodName := ⟨RX6, "indexOf", "(I)I"⟩
abbrev cX6_lines : ByteArray := prog_1_method_7_code
def yX6_lines : MethodName := ⟨RX6, "lines", "(I)I"⟩
abbrev cX6_addRule : ByteArray := prog_1_method_8_code
def yX6_addRule : MethodName := ⟨RX6, "addRule", "(III)I"⟩
abbrev cX6_addSpan : ByteArray := prog_1_method_9_code
def yX6_addSpan : MethodName := ⟨RX6, "addSpan", "(IIII)I"⟩
abbrev cX6_lift : ByteArray := prog_1_method_10_code
def yX6_lift : MethodName := ⟨RX6, "lift", "(I)I"⟩
abbrev cX6_isHidden : ByteArray := prog_1_method_11_code
def yX6_isHidden : MethodName := ⟨RX6, "isHidden", "(I)Z"⟩
abbrev cX6_hidden : ByteArray := prog_1_method_12_code
def yX6_hidden : MethodName := ⟨RX6, "hidden", "()I"⟩
abbrev cX6_addJoin : ByteArray := prog_1_method_13_code
def yX6_addJoin : MethodName := ⟨RX6, "addJoin", "(III)I"⟩
abbrev cX6_holds : ByteArray := prog_1_method_14_code
def yX6_holds : MethodName := ⟨RX6, "holds", "(II)Z"⟩
abbrev cX6_holdsByLog : ByteArray := prog_1_method_15_code
def yX6_holdsByLog : MethodName := ⟨RX6, "holdsByLog", "(II)Z"⟩
abbrev cX6_held : ByteArray := prog_1_method_16_code
def yX6_held : MethodName := ⟨RX6, "held", "(I)I"⟩
abbrev cX6_given : ByteArray := prog_1_method_17_code
def yX6_given : MethodName := ⟨RX6, "given", "(I)I"⟩
abbrev cX6_holders : ByteArray := prog_1_method_18_code
def yX6_holders : MethodName := ⟨RX6, "holders", "(I)I"⟩
abbrev cX6_why : ByteArray := prog_1_method_19_code
def yX6_why : MethodName := ⟨RX6, "why", "(II)C"⟩
abbrev cX6_root : ByteArray := prog_1_method_20_code
def yX6_root : MethodName := ⟨RX6, "root", "(II)C"⟩
abbrev cX6_causes : ByteArray := prog_1_method_21_code
def yX6_causes : MethodName := ⟨RX6, "causes", "(II)I"⟩
abbrev cX6_request : ByteArray := prog_1_method_22_code
def yX6_request : MethodName := ⟨RX6, "request", "(II)I"⟩
abbrev cX6_state : ByteArray := prog_1_method_23_code
def yX6_state : MethodName := ⟨RX6, "state", "(I)C"⟩
abbrev cX6_answer : ByteArray := prog_1_method_24_code
def yX6_answer : MethodName := ⟨RX6, "answer", "(I)I"⟩
abbrev cX6_withdraw : ByteArray := prog_1_method_25_code
def yX6_withdraw : MethodName := ⟨RX6, "withdraw", "(I)I"⟩
abbrev cX6_setPrice : ByteArray := prog_1_method_26_code
def yX6_setPrice : MethodName := ⟨RX6, "setPrice", "(I)I"⟩
abbrev cX6_owed : ByteArray := prog_1_method_27_code
def yX6_owed : MethodName := ⟨RX6, "owed", "(I)I"⟩
abbrev cX6_pay : ByteArray := prog_1_method_28_code
def yX6_pay : MethodName := ⟨RX6, "pay", "(II)I"⟩
abbrev cX6_pass : ByteArray := prog_1_method_29_code
def yX6_pass : MethodName := ⟨RX6, "pass", "(I)I"⟩
abbrev cX6_day : ByteArray := prog_1_method_30_code
def yX6_day : MethodName := ⟨RX6, "day", "()I"⟩
abbrev cX6_late : ByteArray := prog_1_method_31_code
def yX6_late : MethodName := ⟨RX6, "late", "()I"⟩
abbrev cX6_fees : ByteArray := prog_1_method_32_code
def yX6_fees : MethodName := ⟨RX6, "fees", "()J"⟩
abbrev cX6_answeredShare : ByteArray := prog_1_method_33_code
def yX6_answeredShare : MethodName := ⟨RX6, "answeredShare", "()F"⟩
abbrev cX6_requireDocument : ByteArray := prog_1_method_34_code
def yX6_requireDocument : MethodName := ⟨RX6, "requireDocument", "(I)V"⟩
abbrev cX6_requireLine : ByteArray := prog_1_method_35_code
def yX6_requireLine : MethodName := ⟨RX6, "requireLine", "(I)V"⟩
abbrev cX6_requireRequest : ByteArray := prog_1_method_36_code
def yX6_requireRequest : MethodName := ⟨RX6, "requireRequest", "(I)V"⟩
abbrev cX6_requireWaiting : ByteArray := prog_1_method_37_code
def yX6_requireWaiting : MethodName := ⟨RX6, "requireWaiting", "(I)V"⟩
abbrev cX6_requireAsker : ByteArray := prog_1_method_38_code
def yX6_requireAsker : MethodName := ⟨RX6, "requireAsker", "(I)V"⟩
abbrev cX6_requireNotHeld : ByteArray := prog_1_method_39_code
def yX6_requireNotHeld : MethodName := ⟨RX6, "requireNotHeld", "(II)V"⟩
abbrev cX6_requireValue : ByteArray := prog_1_method_40_code
def yX6_requireValue : MethodName := ⟨RX6, "requireValue", "(I)V"⟩
abbrev cX6_requireIndex : ByteArray := prog_1_method_41_code
def yX6_requireIndex : MethodName := ⟨RX6, "requireIndex", "(I)V"⟩
abbrev cX6_requireRising : ByteArray := prog_1_method_42_code
def yX6_requireRising : MethodName := ⟨RX6, "requireRising", "(II)V"⟩
abbrev cX6_requireLastDay : ByteArray := prog_1_method_43_code
def yX6_requireLastDay : MethodName := ⟨RX6, "requireLastDay", "(I)V"⟩
abbrev cX6_isHiddenByRule : ByteArray := prog_1_method_44_code
def yX6_isHiddenByRule : MethodName := ⟨RX6, "isHiddenByRule", "(I)Z"⟩
abbrev cX6_isHiddenBySpan : ByteArray := prog_1_method_45_code
def yX6_isHiddenBySpan : MethodName := ⟨RX6, "isHiddenBySpan", "(I)Z"⟩
abbrev cX6_isHiddenToday : ByteArray := prog_1_method_46_code
def yX6_isHiddenToday : MethodName := ⟨RX6, "isHiddenToday", "(I)Z"⟩
abbrev cX6_countHidden : ByteArray := prog_1_method_47_code
def yX6_countHidden : MethodName := ⟨RX6, "countHidden", "()I"⟩
abbrev cX6_countHidingReasons : ByteArray := prog_1_method_48_code
def yX6_countHidingReasons : MethodName := ⟨RX6, "countHidingReasons", "(I)I"⟩
abbrev cX6_findProtectedLine : ByteArray := prog_1_method_49_code
def yX6_findProtectedLine : MethodName := ⟨RX6, "findProtectedLine", "(II)I"⟩
abbrev cX6_findLowestHidden : ByteArray := prog_1_method_50_code
def yX6_findLowestHidden : MethodName := ⟨RX6, "findLowestHidden", "(J)I"⟩
abbrev cX6_giveDocument : ByteArray := prog_1_method_51_code
def yX6_giveDocument : MethodName := ⟨RX6, "giveDocument", "(II)I"⟩
abbrev cX6_isFreeFor : ByteArray := prog_1_method_52_code
def yX6_isFreeFor : MethodName := ⟨RX6, "isFreeFor", "(II)Z"⟩
abbrev cX6_give : ByteArray := prog_1_method_53_code
def yX6_give : MethodName := ⟨RX6, "give", "(II)V"⟩
abbrev cX6_growAllHeld : ByteArray := prog_1_method_54_code
def yX6_growAllHeld : MethodName := ⟨RX6, "growAllHeld", "()V"⟩
abbrev cX6_bitOf : ByteArray := prog_1_method_55_code
def yX6_bitOf : MethodName := ⟨RX6, "bitOf", "(I)J"⟩
abbrev cX6_contains : ByteArray := prog_1_method_56_code
def yX6_contains : MethodName := ⟨RX6, "contains", "(JI)Z"⟩
def RX7 : String := "ArchivepressModel"
def TX7 : u_T := fun k => match k with
  | 0 => ("ArchivepressModel", "thrown", "I", false)
  | 1 => ("ArchivepressModel", "documents", "I", false)
  | 2 => ("ArchivepressModel", "lines", "I", false)
  | 3 => ("ArchivepressModel", "rules", "I", false)
  | 4 => ("ArchivepressModel", "spans", "I", false)
  | 5 => ("ArchivepressModel", "joins", "I", false)
  | 6 => ("ArchivepressModel", "requests", "I", false)
  | 7 => ("ArchivepressModel", "price", "I", false)
  | 8 => ("ArchivepressModel", "day", "I", false)
  | 9 => ("ArchivepressModel", "fees", "J", false)
  | 10 => ("ArchivepressModel", "document", "[I", true)
  | 11 => ("ArchivepressModel", "value", "[I", true)
  | 12 => ("ArchivepressModel", "ruleFrom", "[I", true)
  | 13 => ("ArchivepressModel", "ruleTo", "[I", true)
  | 14 => ("ArchivepressModel", "ruleLast", "[I", true)
  | 15 => ("ArchivepressModel", "spanOf", "[I", true)
  | 16 => ("ArchivepressModel", "spanFrom", "[I", true)
  | 17 => ("ArchivepressModel", "spanTo", "[I", true)
  | 18 => ("ArchivepressModel", "spanLast", "[I", true)
  | 19 => ("ArchivepressModel", "joinOne", "[I", true)
  | 20 => ("ArchivepressModel", "joinOther", "[I", true)
  | 21 => ("ArchivepressModel", "joinTold", "[I", true)
  | 22 => ("ArchivepressModel", "asker", "[I", true)
  | 23 => ("ArchivepressModel", "asked", "[I", true)
  | 24 => ("ArchivepressModel", "made", "[I", true)
  | 25 => ("ArchivepressModel", "owed", "[I", true)
  | 26 => ("ArchivepressModel", "given", "[I", true)
  | 27 => ("ArchivepressModel", "isLifted", "[Z", true)
  | 28 => ("ArchivepressModel", "holds", "[Z", true)
  | 29 => ("ArchivepressModel", "would", "[Z", true)
  | _ => ("ArchivepressModel", "state", "[C", true)
def tyX7 : Nat → FieldType := fun k => match k with
  | 0 => .int
  | 1 => .int
  | 2 => .int
  | 3 => .int
  | 4 => .int
  | 5 => .int
  | 6 => .int
  | 7 => .int
  | 8 => .int
  | 9 => .long
  | 10 => .array .int
  | 11 => .array .int
  | 12 => .array .int
  | 13 => .array .int
  | 14 => .array .int
  | 15 => .array .int
  | 16 => .array .int
  | 17 => .array .int
  | 18 => .array .int
  | 19 => .array .int
  | 20 => .array .int
  | 21 => .array .int
  | 22 => .array .int
  | 23 => .array .int
  | 24 => .array .int
  | 25 => .array .int
  | 26 => .array .int
  | 27 => .array .boolean
  | 28 => .array .boolean
  | 29 => .array .boolean
  | _ => .array .char
abbrev wsX70 : List Cond := u_ws RX7 TX7 31
theorem nmX7 : ∀ a, a < 31 → ∀ b, b < 31 → a ≠ b → (TX7 a).2.1 ≠ (TX7 b).2.1 := by decide +kernel
theorem tyX7_ok : ∀ k, k < 31 → parseFieldDescriptor (TX7 k).2.2.1 = some (tyX7 k) := by decide +kernel
abbrev cX7_init : ByteArray := prog_9_method_1_code
def yX7_init : MethodName := ⟨RX7, "<init>", "()V"⟩
abbrev cX7_thrown : ByteArray := prog_9_method_2_code
def yX7_thrown : MethodName := ⟨RX7, "thrown", "()I"⟩
abbrev cX7_refuse : ByteArray := prog_9_method_3_code
def yX7_refuse : MethodName := ⟨RX7, "refuse", "(I)I"⟩
abbrev cX7_isIn : ByteArray := prog_9_method_4_code
def yX7_isIn : MethodName := ⟨RX7, "isIn", "(III)Z"⟩
abbrev cX7_noDocument : ByteArray := prog_9_method_5_code
def yX7_noDocument : MethodName := ⟨RX7, "noDocument", "(I)Z"⟩
abbrev cX7_noLine : ByteArray := prog_9_method_6_code
def yX7_noLine : MethodName := ⟨RX7, "noLine", "(I)Z"⟩
abbrev cX7_noAsker : ByteArray := prog_9_method_7_code
def yX7_noAsker : MethodName := ⟨RX7, "noAsker", "(I)Z"⟩
abbrev cX7_addDocument : ByteArray := prog_9_method_8_code
def yX7_addDocument : MethodName := ⟨RX7, "addDocument", "()I"⟩
abbrev cX7_addLine : ByteArray := prog_9_method_9_code
def yX7_addLine : MethodName := ⟨RX7, "addLine", "(II)I"⟩
abbrev cX7_rescan : ByteArray := prog_9_method_10_code
def yX7_rescan : MethodName := ⟨RX7, "rescan", "(II)I"⟩
abbrev cX7_documentOf : ByteArray := prog_9_method_11_code
def yX7_documentOf : MethodName := ⟨RX7, "documentOf", "(I)I"⟩
abbrev cX7_index : ByteArray := prog_9_method_12_code
def yX7_index : MethodName := ⟨RX7, "index", "(I)I"⟩
abbrev cX7_indexOf : ByteArray := prog_9_method_13_code
def yX7_indexOf : MethodName := ⟨RX7, "indexOf", "(I)I"⟩
abbrev cX7_lines : ByteArray := prog_9_method_14_code
def yX7_lines : MethodName := ⟨RX7, "lines", "(I)I"⟩
abbrev cX7_addRule : ByteArray := prog_9_method_15_code
def yX7_addRule : MethodName := ⟨RX7, "addRule", "(III)I"⟩
abbrev cX7_addSpan : ByteArray := prog_9_method_16_code
def yX7_addSpan : MethodName := ⟨RX7, "addSpan", "(IIII)I"⟩
abbrev cX7_byRule : ByteArray := prog_9_method_17_code
def yX7_byRule : MethodName := ⟨RX7, "byRule", "(I)Z"⟩
abbrev cX7_bySpan : ByteArray := prog_9_method_18_code
def yX7_bySpan : MethodName := ⟨RX7, "bySpan", "(I)Z"⟩
abbrev cX7_hides : ByteArray := prog_9_method_19_code
def yX7_hides : MethodName := ⟨RX7, "hides", "(I)Z"⟩
abbrev cX7_hiddenLines : ByteArray := prog_9_method_20_code
def yX7_hiddenLines : MethodName := ⟨RX7, "hiddenLines", "()I"⟩
abbrev cX7_lift : ByteArray := prog_9_method_21_code
def yX7_lift : MethodName := ⟨RX7, "lift", "(I)I"⟩
abbrev cX7_isHidden : ByteArray := prog_9_method_22_code
def yX7_isHidden : MethodName := ⟨RX7, "isHidden", "(I)Z"⟩
abbrev cX7_hidden : ByteArray := prog_9_method_23_code
def yX7_hidden : MethodName := ⟨RX7, "hidden", "()I"⟩
abbrev cX7_grows : ByteArray := prog_9_method_24_code
def yX7_grows : MethodName := ⟨RX7, "grows", "(I)V"⟩
abbrev cX7_addJoin : ByteArray := prog_9_method_25_code
def yX7_addJoin : MethodName := ⟨RX7, "addJoin", "(III)I"⟩
abbrev cX7_holds : ByteArray := prog_9_method_26_code
def yX7_holds : MethodName := ⟨RX7, "holds", "(II)Z"⟩
abbrev cX7_holdsByLog : ByteArray := prog_9_method_27_code
def yX7_holdsByLog : MethodName := ⟨RX7, "holdsByLog", "(II)Z"⟩
abbrev cX7_held : ByteArray := prog_9_method_28_code
def yX7_held : MethodName := ⟨RX7, "held", "(I)I"⟩
abbrev cX7_given : ByteArray := prog_9_method_29_code
def yX7_given : MethodName := ⟨RX7, "given", "(I)I"⟩
abbrev cX7_holders : ByteArray := prog_9_method_30_code
def yX7_holders : MethodName := ⟨RX7, "holders", "(I)I"⟩
abbrev cX7_betrayed : ByteArray := prog_9_method_31_code
def yX7_betrayed : MethodName := ⟨RX7, "betrayed", "(II)I"⟩
abbrev cX7_first : ByteArray := prog_9_method_32_code
def yX7_first : MethodName := ⟨RX7, "first", "(II)C"⟩
abbrev cX7_noReasons : ByteArray := prog_9_method_33_code
def yX7_noReasons : MethodName := ⟨RX7, "noReasons", "(II)Z"⟩
abbrev cX7_why : ByteArray := prog_9_method_34_code
def yX7_why : MethodName := ⟨RX7, "why", "(II)C"⟩
abbrev cX7_cause : ByteArray := prog_9_method_35_code
def yX7_cause : MethodName := ⟨RX7, "cause", "(II)I"⟩
abbrev cX7_root : ByteArray := prog_9_method_36_code
def yX7_root : MethodName := ⟨RX7, "root", "(II)C"⟩
abbrev cX7_causes : ByteArray := prog_9_method_37_code
def yX7_causes : MethodName := ⟨RX7, "causes", "(II)I"⟩
abbrev cX7_request : ByteArray := prog_9_method_38_code
def yX7_request : MethodName := ⟨RX7, "request", "(II)I"⟩
abbrev cX7_noRequest : ByteArray := prog_9_method_39_code
def yX7_noRequest : MethodName := ⟨RX7, "noRequest", "(I)Z"⟩
abbrev cX7_state : ByteArray := prog_9_method_40_code
def yX7_state : MethodName := ⟨RX7, "state", "(I)C"⟩
abbrev cX7_answer : ByteArray := prog_9_method_41_code
def yX7_answer : MethodName := ⟨RX7, "answer", "(I)I"⟩
abbrev cX7_withdraw : ByteArray := prog_9_method_42_code
def yX7_withdraw : MethodName := ⟨RX7, "withdraw", "(I)I"⟩
abbrev cX7_setPrice : ByteArray := prog_9_method_43_code
def yX7_setPrice : MethodName := ⟨RX7, "setPrice", "(I)I"⟩
abbrev cX7_owed : ByteArray := prog_9_method_44_code
def yX7_owed : MethodName := ⟨RX7, "owed", "(I)I"⟩
abbrev cX7_pay : ByteArray := prog_9_method_45_code
def yX7_pay : MethodName := ⟨RX7, "pay", "(II)I"⟩
abbrev cX7_lateOnes : ByteArray := prog_9_method_46_code
def yX7_lateOnes : MethodName := ⟨RX7, "lateOnes", "()I"⟩
abbrev cX7_pass : ByteArray := prog_9_method_47_code
def yX7_pass : MethodName := ⟨RX7, "pass", "(I)I"⟩
abbrev cX7_day : ByteArray := prog_9_method_48_code
def yX7_day : MethodName := ⟨RX7, "day", "()I"⟩
abbrev cX7_late : ByteArray := prog_9_method_49_code
def yX7_late : MethodName := ⟨RX7, "late", "()I"⟩
abbrev cX7_fees : ByteArray := prog_9_method_50_code
def yX7_fees : MethodName := ⟨RX7, "fees", "()J"⟩
abbrev cX7_answeredShare : ByteArray := prog_9_method_51_code
def yX7_answeredShare : MethodName := ⟨RX7, "answeredShare", "()F"⟩
def RJx145de : String := "java/io/Serializable"
def RJ13 : String := "java/lang/Long"
abbrev cJ13_bitCount_95d88 : ByteArray := prog_15_method_50_code
def yJ13_bitCount_95d88 : MethodName := ⟨RJ13, "bitCount", "(J)I"⟩
def RJ0 : String := "java/lang/String"
def RL : String := "ArchivepressLaw"
abbrev cL_addDocument : ByteArray := method_3_code
def yL_addDocument : MethodName := ⟨RL, "addDocument", "(LArchivepress;[J)I"⟩
abbrev cL_addLine : ByteArray := method_4_code
def yL_addLine : MethodName := ⟨RL, "addLine", "(LArchivepress;II[J)I"⟩
abbrev cL_rescan : ByteArray := method_5_code
def yL_rescan : MethodName := ⟨RL, "rescan", "(LArchivepress;II[J)I"⟩
abbrev cL_documentOf : ByteArray := method_6_code
def yL_documentOf : MethodName := ⟨RL, "documentOf", "(LArchivepress;I[J)I"⟩
abbrev cL_indexOf : ByteArray := method_7_code
def yL_indexOf : MethodName := ⟨RL, "indexOf", "(LArchivepress;I[J)I"⟩
abbrev cL_lines : ByteArray := method_8_code
def yL_lines : MethodName := ⟨RL, "lines", "(LArchivepress;I[J)I"⟩
abbrev cL_addRule : ByteArray := method_9_code
def yL_addRule : MethodName := ⟨RL, "addRule", "(LArchivepress;III[J)I"⟩
abbrev cL_addSpan : ByteArray := method_10_code
def yL_addSpan : MethodName := ⟨RL, "addSpan", "(LArchivepress;IIII[J)I"⟩
abbrev cL_lift : ByteArray := method_11_code
def yL_lift : MethodName := ⟨RL, "lift", "(LArchivepress;I[J)I"⟩
abbrev cL_isHidden : ByteArray := method_12_code
def yL_isHidden : MethodName := ⟨RL, "isHidden", "(LArchivepress;I[J)I"⟩
abbrev cL_addJoin : ByteArray := method_13_code
def yL_addJoin : MethodName := ⟨RL, "addJoin", "(LArchivepress;III[J)I"⟩
abbrev cL_holds : ByteArray := method_14_code
def yL_holds : MethodName := ⟨RL, "holds", "(LArchivepress;II[J)I"⟩
abbrev cL_holdsByLog : ByteArray := method_15_code
def yL_holdsByLog : MethodName := ⟨RL, "holdsByLog", "(LArchivepress;II[J)I"⟩
abbrev cL_held : ByteArray := method_16_code
def yL_held : MethodName := ⟨RL, "held", "(LArchivepress;I[J)I"⟩
abbrev cL_given : ByteArray := method_17_code
def yL_given : MethodName := ⟨RL, "given", "(LArchivepress;I[J)I"⟩
abbrev cL_holders : ByteArray := method_18_code
def yL_holders : MethodName := ⟨RL, "holders", "(LArchivepress;I[J)I"⟩
abbrev cL_why : ByteArray := method_19_code
def yL_why : MethodName := ⟨RL, "why", "(LArchivepress;II[J)I"⟩
abbrev cL_root : ByteArray := method_20_code
def yL_root : MethodName := ⟨RL, "root", "(LArchivepress;II[J)I"⟩
abbrev cL_causes : ByteArray := method_21_code
def yL_causes : MethodName := ⟨RL, "causes", "(LArchivepress;II[J)I"⟩
abbrev cL_request : ByteArray := method_22_code
def yL_request : MethodName := ⟨RL, "request", "(LArchivepress;II[J)I"⟩
abbrev cL_state : ByteArray := method_23_code
def yL_state : MethodName := ⟨RL, "state", "(LArchivepress;I[J)I"⟩
abbrev cL_answer : ByteArray := method_24_code
def yL_answer : MethodName := ⟨RL, "answer", "(LArchivepress;I[J)I"⟩
abbrev cL_withdraw : ByteArray := method_25_code
def yL_withdraw : MethodName := ⟨RL, "withdraw", "(LArchivepress;I[J)I"⟩
abbrev cL_setPrice : ByteArray := method_26_code
def yL_setPrice : MethodName := ⟨RL, "setPrice", "(LArchivepress;I[J)I"⟩
abbrev cL_owed : ByteArray := method_27_code
def yL_owed : MethodName := ⟨RL, "owed", "(LArchivepress;I[J)I"⟩
abbrev cL_pay : ByteArray := method_28_code
def yL_pay : MethodName := ⟨RL, "pay", "(LArchivepress;II[J)I"⟩
abbrev cL_pass : ByteArray := method_29_code
def yL_pass : MethodName := ⟨RL, "pass", "(LArchivepress;I[J)I"⟩
abbrev cL_answeredShare : ByteArray := method_30_code
def yL_answeredShare : MethodName := ⟨RL, "answeredShare", "(LArchivepress;[D)I"⟩
abbrev cL_law : ByteArray := code
def yL_law : MethodName := ⟨RL, "law", "([I)Z"⟩
abbrev vwCl : List vw_C := [(RX0, TX0, 3), (RX1, TX1, 6), (RX2, TX2, 3), (RX3, TX3, 5), (RX4, TX4, 4), (RX5, TX5, 6), (RX6, TX6, 11), (RX7, TX7, 31)]
end
section
theorem dJ13_bitCount_95d88_0 : decode cJ13_bitCount_95d88 0 = .ok (.lload_n 0, 1) := by decide +kernel
theorem dJ13_bitCount_95d88_1 : decode cJ13_bitCount_95d88 1 = .ok (.lload_n 0, 1) := by decide +kernel
theorem dJ13_bitCount_95d88_2 : decode cJ13_bitCount_95d88 2 = .ok (.iconst 1, 1) := by decide +kernel
theorem dJ13_bitCount_95d88_3 : decode cJ13_bitCount_95d88 3 = .ok (.lushr, 1) := by decide +kernel
theorem dJ13_bitCount_95d88_4 : decode cJ13_bitCount_95d88 4 = .ok (.ldc2_w 314, 3) := by decide +kernel
theorem dJ13_bitCount_95d88_7 : decode cJ13_bitCount_95d88 7 = .ok (.land, 1) := by decide +kernel
theorem dJ13_bitCount_95d88_8 : decode cJ13_bitCount_95d88 8 = .ok (.lsub, 1) := by decide +kernel
theorem dJ13_bitCount_95d88_9 : decode cJ13_bitCount_95d88 9 = .ok (.lstore_n 0, 1) := by decide +kernel
theorem dJ13_bitCount_95d88_10 : decode cJ13_bitCount_95d88 10 = .ok (.lload_n 0, 1) := by decide +kernel
theorem dJ13_bitCount_95d88_11 : decode cJ13_bitCount_95d88 11 = .ok (.ldc2_w 316, 3) := by decide +kernel
theorem dJ13_bitCount_95d88_14 : decode cJ13_bitCount_95d88 14 = .ok (.land, 1) := by decide +kernel
theorem dJ13_bitCount_95d88_15 : decode cJ13_bitCount_95d88 15 = .ok (.lload_n 0, 1) := by decide +kernel
theorem dJ13_bitCount_95d88_16 : decode cJ13_bitCount_95d88 16 = .ok (.iconst 2, 1) := by decide +kernel
theorem dJ13_bitCount_95d88_17 : decode cJ13_bitCount_95d88 17 = .ok (.lushr, 1) := by decide +kernel
theorem dJ13_bitCount_95d88_18 : decode cJ13_bitCount_95d88 18 = .ok (.ldc2_w 316, 3) := by decide +kernel
theorem dJ13_bitCount_95d88_21 : decode cJ13_bitCount_95d88 21 = .ok (.land, 1) := by decide +kernel
theorem dJ13_bitCount_95d88_22 : decode cJ13_bitCount_95d88 22 = .ok (.ladd, 1) := by decide +kernel
theorem dJ13_bitCount_95d88_23 : decode cJ13_bitCount_95d88 23 = .ok (.lstore_n 0, 1) := by decide +kernel
theorem dJ13_bitCount_95d88_24 : decode cJ13_bitCount_95d88 24 = .ok (.lload_n 0, 1) := by decide +kernel
theorem dJ13_bitCount_95d88_25 : decode cJ13_bitCount_95d88 25 = .ok (.lload_n 0, 1) := by decide +kernel
theorem dJ13_bitCount_95d88_26 : decode cJ13_bitCount_95d88 26 = .ok (.iconst 4, 1) := by decide +kernel
theorem dJ13_bitCount_95d88_27 : decode cJ13_bitCount_95d88 27 = .ok (.lushr, 1) := by decide +kernel
theorem dJ13_bitCount_95d88_28 : decode cJ13_bitCount_95d88 28 = .ok (.ladd, 1) := by decide +kernel
theorem dJ13_bitCount_95d88_29 : decode cJ13_bitCount_95d88 29 = .ok (.ldc2_w 318, 3) := by decide +kernel
theorem dJ13_bitCount_95d88_32 : decode cJ13_bitCount_95d88 32 = .ok (.land, 1) := by decide +kernel
theorem dJ13_bitCount_95d88_33 : decode cJ13_bitCount_95d88 33 = .ok (.lstore_n 0, 1) := by decide +kernel
theorem dJ13_bitCount_95d88_34 : decode cJ13_bitCount_95d88 34 = .ok (.lload_n 0, 1) := by decide +kernel
theorem dJ13_bitCount_95d88_35 : decode cJ13_bitCount_95d88 35 = .ok (.lload_n 0, 1) := by decide +kernel
theorem dJ13_bitCount_95d88_36 : decode cJ13_bitCount_95d88 36 = .ok (.bipush 8, 2) := by decide +kernel
theorem dJ13_bitCount_95d88_38 : decode cJ13_bitCount_95d88 38 = .ok (.lushr, 1) := by decide +kernel
theorem dJ13_bitCount_95d88_39 : decode cJ13_bitCount_95d88 39 = .ok (.ladd, 1) := by decide +kernel
theorem dJ13_bitCount_95d88_40 : decode cJ13_bitCount_95d88 40 = .ok (.lstore_n 0, 1) := by decide +kernel
theorem dJ13_bitCount_95d88_41 : decode cJ13_bitCount_95d88 41 = .ok (.lload_n 0, 1) := by decide +kernel
theorem dJ13_bitCount_95d88_42 : decode cJ13_bitCount_95d88 42 = .ok (.lload_n 0, 1) := by decide +kernel
theorem dJ13_bitCount_95d88_43 : decode cJ13_bitCount_95d88 43 = .ok (.bipush 16, 2) := by decide +kernel
theorem dJ13_bitCount_95d88_45 : decode cJ13_bitCount_95d88 45 = .ok (.lushr, 1) := by decide +kernel
theorem dJ13_bitCount_95d88_46 : decode cJ13_bitCount_95d88 46 = .ok (.ladd, 1) := by decide +kernel
theorem dJ13_bitCount_95d88_47 : decode cJ13_bitCount_95d88 47 = .ok (.lstore_n 0, 1) := by decide +kernel
theorem dJ13_bitCount_95d88_48 : decode cJ13_bitCount_95d88 48 = .ok (.lload_n 0, 1) := by decide +kernel
theorem dJ13_bitCount_95d88_49 : decode cJ13_bitCount_95d88 49 = .ok (.lload_n 0, 1) := by decide +kernel
theorem dJ13_bitCount_95d88_50 : decode cJ13_bitCount_95d88 50 = .ok (.bipush 32, 2) := by decide +kernel
theorem dJ13_bitCount_95d88_52 : decode cJ13_bitCount_95d88 52 = .ok (.lushr, 1) := by decide +kernel
theorem dJ13_bitCount_95d88_53 : decode cJ13_bitCount_95d88 53 = .ok (.ladd, 1) := by decide +kernel
theorem dJ13_bitCount_95d88_54 : decode cJ13_bitCount_95d88 54 = .ok (.lstore_n 0, 1) := by decide +kernel
theorem dJ13_bitCount_95d88_55 : decode cJ13_bitCount_95d88 55 = .ok (.lload_n 0, 1) := by decide +kernel
theorem dJ13_bitCount_95d88_56 : decode cJ13_bitCount_95d88 56 = .ok (.l2i, 1) := by decide +kernel
theorem dJ13_bitCount_95d88_57 : decode cJ13_bitCount_95d88 57 = .ok (.bipush 127, 2) := by decide +kernel
theorem dJ13_bitCount_95d88_59 : decode cJ13_bitCount_95d88 59 = .ok (.iand, 1) := by decide +kernel
theorem dJ13_bitCount_95d88_60 : decode cJ13_bitCount_95d88 60 = .ok (.ireturn, 1) := by decide +kernel
end
section
theorem dL_addDocument_0 : decode cL_addDocument 0 = .ok (.aload_n 1, 1) := by decide +kernel
theorem dL_addDocument_1 : decode cL_addDocument 1 = .ok (.iconst 0, 1) := by decide +kernel
theorem dL_addDocument_2 : decode cL_addDocument 2 = .ok (.aload_n 0, 1) := by decide +kernel
theorem dL_addDocument_3 : decode cL_addDocument 3 = .ok (.invokevirtual 7, 3) := by decide +kernel
theorem dL_addDocument_6 : decode cL_addDocument 6 = .ok (.i2l, 1) := by decide +kernel
theorem dL_addDocument_7 : decode cL_addDocument 7 = .ok (.lastore, 1) := by decide +kernel
theorem dL_addDocument_8 : decode cL_addDocument 8 = .ok (.goto 6, 3) := by decide +kernel
theorem dL_addDocument_11 : decode cL_addDocument 11 = .ok (.astore_n 2, 1) := by decide +kernel
theorem dL_addDocument_12 : decode cL_addDocument 12 = .ok (.iconst 1, 1) := by decide +kernel
theorem dL_addDocument_13 : decode cL_addDocument 13 = .ok (.ireturn, 1) := by decide +kernel
theorem dL_addDocument_14 : decode cL_addDocument 14 = .ok (.iconst 0, 1) := by decide +kernel
theorem dL_addDocument_15 : decode cL_addDocument 15 = .ok (.ireturn, 1) := by decide +kernel
theorem dL_addLine_0 : decode cL_addLine 0 = .ok (.aload_n 3, 1) := by decide +kernel
theorem dL_addLine_1 : decode cL_addLine 1 = .ok (.iconst 0, 1) := by decide +kernel
theorem dL_addLine_2 : decode cL_addLine 2 = .ok (.aload_n 0, 1) := by decide +kernel
theorem dL_addLine_3 : decode cL_addLine 3 = .ok (.iload_n 1, 1) := by decide +kernel
theorem dL_addLine_4 : decode cL_addLine 4 = .ok (.iload_n 2, 1) := by decide +kernel
theorem dL_addLine_5 : decode cL_addLine 5 = .ok (.invokevirtual 15, 3) := by decide +kernel
theorem dL_addLine_8 : decode cL_addLine 8 = .ok (.i2l, 1) := by decide +kernel
theorem dL_addLine_9 : decode cL_addLine 9 = .ok (.lastore, 1) := by decide +kernel
theorem dL_addLine_10 : decode cL_addLine 10 = .ok (.goto 15, 3) := by decide +kernel
theorem dL_addLine_13 : decode cL_addLine 13 = .ok (.astore 4, 2) := by decide +kernel
theorem dL_addLine_15 : decode cL_addLine 15 = .ok (.iconst 1, 1) := by decide +kernel
theorem dL_addLine_16 : decode cL_addLine 16 = .ok (.ireturn, 1) := by decide +kernel
theorem dL_addLine_17 : decode cL_addLine 17 = .ok (.astore 4, 2) := by decide +kernel
theorem dL_addLine_19 : decode cL_addLine 19 = .ok (.iconst 2, 1) := by decide +kernel
theorem dL_addLine_20 : decode cL_addLine 20 = .ok (.ireturn, 1) := by decide +kernel
theorem dL_addLine_21 : decode cL_addLine 21 = .ok (.astore 4, 2) := by decide +kernel
theorem dL_addLine_23 : decode cL_addLine 23 = .ok (.iconst 3, 1) := by decide +kernel
theorem dL_addLine_24 : decode cL_addLine 24 = .ok (.ireturn, 1) := by decide +kernel
theorem dL_addLine_25 : decode cL_addLine 25 = .ok (.iconst 0, 1) := by decide +kernel
theorem dL_addLine_26 : decode cL_addLine 26 = .ok (.ireturn, 1) := by decide +kernel
theorem dL_rescan_0 : decode cL_rescan 0 = .ok (.aload_n 3, 1) := by decide +kernel
theorem dL_rescan_1 : decode cL_rescan 1 = .ok (.iconst 0, 1) := by decide +kernel
theorem dL_rescan_2 : decode cL_rescan 2 = .ok (.aload_n 0, 1) := by decide +kernel
theorem dL_rescan_3 : decode cL_rescan 3 = .ok (.iload_n 1, 1) := by decide +kernel
theorem dL_rescan_4 : decode cL_rescan 4 = .ok (.iload_n 2, 1) := by decide +kernel
theorem dL_rescan_5 : decode cL_rescan 5 = .ok (.invokevirtual 23, 3) := by decide +kernel
theorem dL_rescan_8 : decode cL_rescan 8 = .ok (.i2l, 1) := by decide +kernel
theorem dL_rescan_9 : decode cL_rescan 9 = .ok (.lastore, 1) := by decide +kernel
theorem dL_rescan_10 : decode cL_rescan 10 = .ok (.goto 11, 3) := by decide +kernel
theorem dL_rescan_13 : decode cL_rescan 13 = .ok (.astore 4, 2) := by decide +kernel
theorem dL_rescan_15 : decode cL_rescan 15 = .ok (.iconst 1, 1) := by decide +kernel
theorem dL_rescan_16 : decode cL_rescan 16 = .ok (.ireturn, 1) := by decide +kernel
theorem dL_rescan_17 : decode cL_rescan 17 = .ok (.astore 4, 2) := by decide +kernel
theorem dL_rescan_19 : decode cL_rescan 19 = .ok (.iconst 2, 1) := by decide +kernel
theorem dL_rescan_20 : decode cL_rescan 20 = .ok (.ireturn, 1) := by decide +kernel
theorem dL_rescan_21 : decode cL_rescan 21 = .ok (.iconst 0, 1) := by decide +kernel
theorem dL_rescan_22 : decode cL_rescan 22 = .ok (.ireturn, 1) := by decide +kernel
theorem dL_documentOf_0 : decode cL_documentOf 0 = .ok (.aload_n 2, 1) := by decide +kernel
theorem dL_documentOf_1 : decode cL_documentOf 1 = .ok (.iconst 0, 1) := by decide +kernel
theorem dL_documentOf_2 : decode cL_documentOf 2 = .ok (.aload_n 0, 1) := by decide +kernel
theorem dL_documentOf_3 : decode cL_documentOf 3 = .ok (.iload_n 1, 1) := by decide +kernel
theorem dL_documentOf_4 : decode cL_documentOf 4 = .ok (.invokevirtual 26, 3) := by decide +kernel
theorem dL_documentOf_7 : decode cL_documentOf 7 = .ok (.i2l, 1) := by decide +kernel
theorem dL_documentOf_8 : decode cL_documentOf 8 = .ok (.lastore, 1) := by decide +kernel
theorem dL_documentOf_9 : decode cL_documentOf 9 = .ok (.goto 6, 3) := by decide +kernel
theorem dL_documentOf_12 : decode cL_documentOf 12 = .ok (.astore_n 3, 1) := by decide +kernel
theorem dL_documentOf_13 : decode cL_documentOf 13 = .ok (.iconst 1, 1) := by decide +kernel
theorem dL_documentOf_14 : decode cL_documentOf 14 = .ok (.ireturn, 1) := by decide +kernel
theorem dL_documentOf_15 : decode cL_documentOf 15 = .ok (.iconst 0, 1) := by decide +kernel
theorem dL_documentOf_16 : decode cL_documentOf 16 = .ok (.ireturn, 1) := by decide +kernel
theorem dL_indexOf_0 : decode cL_indexOf 0 = .ok (.aload_n 2, 1) := by decide +kernel
theorem dL_indexOf_1 : decode cL_indexOf 1 = .ok (.iconst 0, 1) := by decide +kernel
theorem dL_indexOf_2 : decode cL_indexOf 2 = .ok (.aload_n 0, 1) := by decide +kernel
theorem dL_indexOf_3 : decode cL_indexOf 3 = .ok (.iload_n 1, 1) := by decide +kernel
theorem dL_indexOf_4 : decode cL_indexOf 4 = .ok (.invokevirtual 30, 3) := by decide +kernel
theorem dL_indexOf_7 : decode cL_indexOf 7 = .ok (.i2l, 1) := by decide +kernel
theorem dL_indexOf_8 : decode cL_indexOf 8 = .ok (.lastore, 1) := by decide +kernel
theorem dL_indexOf_9 : decode cL_indexOf 9 = .ok (.goto 6, 3) := by decide +kernel
theorem dL_indexOf_12 : decode cL_indexOf 12 = .ok (.astore_n 3, 1) := by decide +kernel
theorem dL_indexOf_13 : decode cL_indexOf 13 = .ok (.iconst 1, 1) := by decide +kernel
theorem dL_indexOf_14 : decode cL_indexOf 14 = .ok (.ireturn, 1) := by decide +kernel
theorem dL_indexOf_15 : decode cL_indexOf 15 = .ok (.iconst 0, 1) := by decide +kernel
theorem dL_indexOf_16 : decode cL_indexOf 16 = .ok (.ireturn, 1) := by decide +kernel
theorem dL_lines_0 : decode cL_lines 0 = .ok (.aload_n 2, 1) := by decide +kernel
theorem dL_lines_1 : decode cL_lines 1 = .ok (.iconst 0, 1) := by decide +kernel
theorem dL_lines_2 : decode cL_lines 2 = .ok (.aload_n 0, 1) := by decide +kernel
theorem dL_lines_3 : decode cL_lines 3 = .ok (.iload_n 1, 1) := by decide +kernel
theorem dL_lines_4 : decode cL_lines 4 = .ok (.invokevirtual 33, 3) := by decide +kernel
theorem dL_lines_7 : decode cL_lines 7 = .ok (.i2l, 1) := by decide +kernel
theorem dL_lines_8 : decode cL_lines 8 = .ok (.lastore, 1) := by decide +kernel
theorem dL_lines_9 : decode cL_lines 9 = .ok (.goto 6, 3) := by decide +kernel
theorem dL_lines_12 : decode cL_lines 12 = .ok (.astore_n 3, 1) := by decide +kernel
theorem dL_lines_13 : decode cL_lines 13 = .ok (.iconst 1, 1) := by decide +kernel
theorem dL_lines_14 : decode cL_lines 14 = .ok (.ireturn, 1) := by decide +kernel
theorem dL_lines_15 : decode cL_lines 15 = .ok (.iconst 0, 1) := by decide +kernel
theorem dL_lines_16 : decode cL_lines 16 = .ok (.ireturn, 1) := by decide +kernel
theorem dL_addRule_0 : decode cL_addRule 0 = .ok (.aload 4, 2) := by decide +kernel
theorem dL_addRule_2 : decode cL_addRule 2 = .ok (.iconst 0, 1) := by decide +kernel
theorem dL_addRule_3 : decode cL_addRule 3 = .ok (.aload_n 0, 1) := by decide +kernel
theorem dL_addRule_4 : decode cL_addRule 4 = .ok (.iload_n 1, 1) := by decide +kernel
theorem dL_addRule_5 : decode cL_addRule 5 = .ok (.iload_n 2, 1) := by decide +kernel
theorem dL_addRule_6 : decode cL_addRule 6 = .ok (.iload_n 3, 1) := by decide +kernel
theorem dL_addRule_7 : decode cL_addRule 7 = .ok (.invokevirtual 36, 3) := by decide +kernel
theorem dL_addRule_10 : decode cL_addRule 10 = .ok (.i2l, 1) := by decide +kernel
theorem dL_addRule_11 : decode cL_addRule 11 = .ok (.lastore, 1) := by decide +kernel
theorem dL_addRule_12 : decode cL_addRule 12 = .ok (.goto 11, 3) := by decide +kernel
theorem dL_addRule_15 : decode cL_addRule 15 = .ok (.astore 5, 2) := by decide +kernel
theorem dL_addRule_17 : decode cL_addRule 17 = .ok (.iconst 1, 1) := by decide +kernel
theorem dL_addRule_18 : decode cL_addRule 18 = .ok (.ireturn, 1) := by decide +kernel
theorem dL_addRule_19 : decode cL_addRule 19 = .ok (.astore 5, 2) := by decide +kernel
theorem dL_addRule_21 : decode cL_addRule 21 = .ok (.iconst 2, 1) := by decide +kernel
theorem dL_addRule_22 : decode cL_addRule 22 = .ok (.ireturn, 1) := by decide +kernel
theorem dL_addRule_23 : decode cL_addRule 23 = .ok (.iconst 0, 1) := by decide +kernel
theorem dL_addRule_24 : decode cL_addRule 24 = .ok (.ireturn, 1) := by decide +kernel
theorem dL_addSpan_0 : decode cL_addSpan 0 = .ok (.aload 5, 2) := by decide +kernel
theorem dL_addSpan_2 : decode cL_addSpan 2 = .ok (.iconst 0, 1) := by decide +kernel
theorem dL_addSpan_3 : decode cL_addSpan 3 = .ok (.aload_n 0, 1) := by decide +kernel
theorem dL_addSpan_4 : decode cL_addSpan 4 = .ok (.iload_n 1, 1) := by decide +kernel
theorem dL_addSpan_5 : decode cL_addSpan 5 = .ok (.iload_n 2, 1) := by decide +kernel
theorem dL_addSpan_6 : decode cL_addSpan 6 = .ok (.iload_n 3, 1) := by decide +kernel
theorem dL_addSpan_7 : decode cL_addSpan 7 = .ok (.iload 4, 2) := by decide +kernel
theorem dL_addSpan_9 : decode cL_addSpan 9 = .ok (.invokevirtual 40, 3) := by decide +kernel
theorem dL_addSpan_12 : decode cL_addSpan 12 = .ok (.i2l, 1) := by decide +kernel
theorem dL_addSpan_13 : decode cL_addSpan 13 = .ok (.lastore, 1) := by decide +kernel
theorem dL_addSpan_14 : decode cL_addSpan 14 = .ok (.goto 15, 3) := by decide +kernel
theorem dL_addSpan_17 : decode cL_addSpan 17 = .ok (.astore 6, 2) := by decide +kernel
theorem dL_addSpan_19 : decode cL_addSpan 19 = .ok (.iconst 1, 1) := by decide +kernel
theorem dL_addSpan_20 : decode cL_addSpan 20 = .ok (.ireturn, 1) := by decide +kernel
theorem dL_addSpan_21 : decode cL_addSpan 21 = .ok (.astore 6, 2) := by decide +kernel
theorem dL_addSpan_23 : decode cL_addSpan 23 = .ok (.iconst 2, 1) := by decide +kernel
theorem dL_addSpan_24 : decode cL_addSpan 24 = .ok (.ireturn, 1) := by decide +kernel
theorem dL_addSpan_25 : decode cL_addSpan 25 = .ok (.astore 6, 2) := by decide +kernel
theorem dL_addSpan_27 : decode cL_addSpan 27 = .ok (.iconst 3, 1) := by decide +kernel
theorem dL_addSpan_28 : decode cL_addSpan 28 = .ok (.ireturn, 1) := by decide +kernel
theorem dL_addSpan_29 : decode cL_addSpan 29 = .ok (.iconst 0, 1) := by decide +kernel
theorem dL_addSpan_30 : decode cL_addSpan 30 = .ok (.ireturn, 1) := by decide +kernel
theorem dL_lift_0 : decode cL_lift 0 = .ok (.aload_n 2, 1) := by decide +kernel
theorem dL_lift_1 : decode cL_lift 1 = .ok (.iconst 0, 1) := by decide +kernel
theorem dL_lift_2 : decode cL_lift 2 = .ok (.aload_n 0, 1) := by decide +kernel
theorem dL_lift_3 : decode cL_lift 3 = .ok (.iload_n 1, 1) := by decide +kernel
theorem dL_lift_4 : decode cL_lift 4 = .ok (.invokevirtual 44, 3) := by decide +kernel
theorem dL_lift_7 : decode cL_lift 7 = .ok (.i2l, 1) := by decide +kernel
theorem dL_lift_8 : decode cL_lift 8 = .ok (.lastore, 1) := by decide +kernel
theorem dL_lift_9 : decode cL_lift 9 = .ok (.goto 9, 3) := by decide +kernel
theorem dL_lift_12 : decode cL_lift 12 = .ok (.astore_n 3, 1) := by decide +kernel
theorem dL_lift_13 : decode cL_lift 13 = .ok (.iconst 1, 1) := by decide +kernel
theorem dL_lift_14 : decode cL_lift 14 = .ok (.ireturn, 1) := by decide +kernel
theorem dL_lift_15 : decode cL_lift 15 = .ok (.astore_n 3, 1) := by decide +kernel
theorem dL_lift_16 : decode cL_lift 16 = .ok (.iconst 2, 1) := by decide +kernel
theorem dL_lift_17 : decode cL_lift 17 = .ok (.ireturn, 1) := by decide +kernel
theorem dL_lift_18 : decode cL_lift 18 = .ok (.iconst 0, 1) := by decide +kernel
theorem dL_lift_19 : decode cL_lift 19 = .ok (.ireturn, 1) := by decide +kernel
theorem dL_isHidden_0 : decode cL_isHidden 0 = .ok (.aload_n 2, 1) := by decide +kernel
theorem dL_isHidden_1 : decode cL_isHidden 1 = .ok (.iconst 0, 1) := by decide +kernel
theorem dL_isHidden_2 : decode cL_isHidden 2 = .ok (.aload_n 0, 1) := by decide +kernel
theorem dL_isHidden_3 : decode cL_isHidden 3 = .ok (.iload_n 1, 1) := by decide +kernel
theorem dL_isHidden_4 : decode cL_isHidden 4 = .ok (.invokevirtual 47, 3) := by decide +kernel
theorem dL_isHidden_7 : decode cL_isHidden 7 = .ok (.ifCond .eq 7, 3) := by decide +kernel
theorem dL_isHidden_10 : decode cL_isHidden 10 = .ok (.lconst 1, 1) := by decide +kernel
theorem dL_isHidden_11 : decode cL_isHidden 11 = .ok (.goto 4, 3) := by decide +kernel
theorem dL_isHidden_14 : decode cL_isHidden 14 = .ok (.lconst 0, 1) := by decide +kernel
theorem dL_isHidden_15 : decode cL_isHidden 15 = .ok (.lastore, 1) := by decide +kernel
theorem dL_isHidden_16 : decode cL_isHidden 16 = .ok (.goto 6, 3) := by decide +kernel
theorem dL_isHidden_19 : decode cL_isHidden 19 = .ok (.astore_n 3, 1) := by decide +kernel
theorem dL_isHidden_20 : decode cL_isHidden 20 = .ok (.iconst 1, 1) := by decide +kernel
theorem dL_isHidden_21 : decode cL_isHidden 21 = .ok (.ireturn, 1) := by decide +kernel
theorem dL_isHidden_22 : decode cL_isHidden 22 = .ok (.iconst 0, 1) := by decide +kernel
theorem dL_isHidden_23 : decode cL_isHidden 23 = .ok (.ireturn, 1) := by decide +kernel
theorem dL_addJoin_0 : decode cL_addJoin 0 = .ok (.aload 4, 2) := by decide +kernel
theorem dL_addJoin_2 : decode cL_addJoin 2 = .ok (.iconst 0, 1) := by decide +kernel
theorem dL_addJoin_3 : decode cL_addJoin 3 = .ok (.aload_n 0, 1) := by decide +kernel
theorem dL_addJoin_4 : decode cL_addJoin 4 = .ok (.iload_n 1, 1) := by decide +kernel
theorem dL_addJoin_5 : decode cL_addJoin 5 = .ok (.iload_n 2, 1) := by decide +kernel
theorem dL_addJoin_6 : decode cL_addJoin 6 = .ok (.iload_n 3, 1) := by decide +kernel
theorem dL_addJoin_7 : decode cL_addJoin 7 = .ok (.invokevirtual 51, 3) := by decide +kernel
theorem dL_addJoin_10 : decode cL_addJoin 10 = .ok (.i2l, 1) := by decide +kernel
theorem dL_addJoin_11 : decode cL_addJoin 11 = .ok (.lastore, 1) := by decide +kernel
theorem dL_addJoin_12 : decode cL_addJoin 12 = .ok (.goto 15, 3) := by decide +kernel
theorem dL_addJoin_15 : decode cL_addJoin 15 = .ok (.astore 5, 2) := by decide +kernel
theorem dL_addJoin_17 : decode cL_addJoin 17 = .ok (.iconst 1, 1) := by decide +kernel
theorem dL_addJoin_18 : decode cL_addJoin 18 = .ok (.ireturn, 1) := by decide +kernel
theorem dL_addJoin_19 : decode cL_addJoin 19 = .ok (.astore 5, 2) := by decide +kernel
theorem dL_addJoin_21 : decode cL_addJoin 21 = .ok (.iconst 2, 1) := by decide +kernel
theorem dL_addJoin_22 : decode cL_addJoin 22 = .ok (.ireturn, 1) := by decide +kernel
theorem dL_addJoin_23 : decode cL_addJoin 23 = .ok (.astore 5, 2) := by decide +kernel
theorem dL_addJoin_25 : decode cL_addJoin 25 = .ok (.iconst 3, 1) := by decide +kernel
theorem dL_addJoin_26 : decode cL_addJoin 26 = .ok (.ireturn, 1) := by decide +kernel
theorem dL_addJoin_27 : decode cL_addJoin 27 = .ok (.iconst 0, 1) := by decide +kernel
theorem dL_addJoin_28 : decode cL_addJoin 28 = .ok (.ireturn, 1) := by decide +kernel
theorem dL_holds_0 : decode cL_holds 0 = .ok (.aload_n 3, 1) := by decide +kernel
theorem dL_holds_1 : decode cL_holds 1 = .ok (.iconst 0, 1) := by decide +kernel
theorem dL_holds_2 : decode cL_holds 2 = .ok (.aload_n 0, 1) := by decide +kernel
theorem dL_holds_3 : decode cL_holds 3 = .ok (.iload_n 1, 1) := by decide +kernel
theorem dL_holds_4 : decode cL_holds 4 = .ok (.iload_n 2, 1) := by decide +kernel
theorem dL_holds_5 : decode cL_holds 5 = .ok (.invokevirtual 54, 3) := by decide +kernel
theorem dL_holds_8 : decode cL_holds 8 = .ok (.ifCond .eq 7, 3) := by decide +kernel
theorem dL_holds_11 : decode cL_holds 11 = .ok (.lconst 1, 1) := by decide +kernel
theorem dL_holds_12 : decode cL_holds 12 = .ok (.goto 4, 3) := by decide +kernel
theorem dL_holds_15 : decode cL_holds 15 = .ok (.lconst 0, 1) := by decide +kernel
theorem dL_holds_16 : decode cL_holds 16 = .ok (.lastore, 1) := by decide +kernel
theorem dL_holds_17 : decode cL_holds 17 = .ok (.goto 11, 3) := by decide +kernel
theorem dL_holds_20 : decode cL_holds 20 = .ok (.astore 4, 2) := by decide +kernel
theorem dL_holds_22 : decode cL_holds 22 = .ok (.iconst 1, 1) := by decide +kernel
theorem dL_holds_23 : decode cL_holds 23 = .ok (.ireturn, 1) := by decide +kernel
theorem dL_holds_24 : decode cL_holds 24 = .ok (.astore 4, 2) := by decide +kernel
theorem dL_holds_26 : decode cL_holds 26 = .ok (.iconst 2, 1) := by decide +kernel
theorem dL_holds_27 : decode cL_holds 27 = .ok (.ireturn, 1) := by decide +kernel
theorem dL_holds_28 : decode cL_holds 28 = .ok (.iconst 0, 1) := by decide +kernel
theorem dL_holds_29 : decode cL_holds 29 = .ok (.ireturn, 1) := by decide +kernel
theorem dL_holdsByLog_0 : decode cL_holdsByLog 0 = .ok (.aload_n 3, 1) := by decide +kernel
theorem dL_holdsByLog_1 : decode cL_holdsByLog 1 = .ok (.iconst 0, 1) := by decide +kernel
theorem dL_holdsByLog_2 : decode cL_holdsByLog 2 = .ok (.aload_n 0, 1) := by decide +kernel
theorem dL_holdsByLog_3 : decode cL_holdsByLog 3 = .ok (.iload_n 1, 1) := by decide +kernel
theorem dL_holdsByLog_4 : decode cL_holdsByLog 4 = .ok (.iload_n 2, 1) := by decide +kernel
theorem dL_holdsByLog_5 : decode cL_holdsByLog 5 = .ok (.invokevirtual 58, 3) := by decide +kernel
theorem dL_holdsByLog_8 : decode cL_holdsByLog 8 = .ok (.ifCond .eq 7, 3) := by decide +kernel
theorem dL_holdsByLog_11 : decode cL_holdsByLog 11 = .ok (.lconst 1, 1) := by decide +kernel
theorem dL_holdsByLog_12 : decode cL_holdsByLog 12 = .ok (.goto 4, 3) := by decide +kernel
theorem dL_holdsByLog_15 : decode cL_holdsByLog 15 = .ok (.lconst 0, 1) := by decide +kernel
theorem dL_holdsByLog_16 : decode cL_holdsByLog 16 = .ok (.lastore, 1) := by decide +kernel
theorem dL_holdsByLog_17 : decode cL_holdsByLog 17 = .ok (.goto 11, 3) := by decide +kernel
theorem dL_holdsByLog_20 : decode cL_holdsByLog 20 = .ok (.astore 4, 2) := by decide +kernel
theorem dL_holdsByLog_22 : decode cL_holdsByLog 22 = .ok (.iconst 1, 1) := by decide +kernel
theorem dL_holdsByLog_23 : decode cL_holdsByLog 23 = .ok (.ireturn, 1) := by decide +kernel
theorem dL_holdsByLog_24 : decode cL_holdsByLog 24 = .ok (.astore 4, 2) := by decide +kernel
theorem dL_holdsByLog_26 : decode cL_holdsByLog 26 = .ok (.iconst 2, 1) := by decide +kernel
theorem dL_holdsByLog_27 : decode cL_holdsByLog 27 = .ok (.ireturn, 1) := by decide +kernel
theorem dL_holdsByLog_28 : decode cL_holdsByLog 28 = .ok (.iconst 0, 1) := by decide +kernel
theorem dL_holdsByLog_29 : decode cL_holdsByLog 29 = .ok (.ireturn, 1) := by decide +kernel
theorem dL_held_0 : decode cL_held 0 = .ok (.aload_n 2, 1) := by decide +kernel
theorem dL_held_1 : decode cL_held 1 = .ok (.iconst 0, 1) := by decide +kernel
theorem dL_held_2 : decode cL_held 2 = .ok (.aload_n 0, 1) := by decide +kernel
theorem dL_held_3 : decode cL_held 3 = .ok (.iload_n 1, 1) := by decide +kernel
theorem dL_held_4 : decode cL_held 4 = .ok (.invokevirtual 61, 3) := by decide +kernel
theorem dL_held_7 : decode cL_held 7 = .ok (.i2l, 1) := by decide +kernel
theorem dL_held_8 : decode cL_held 8 = .ok (.lastore, 1) := by decide +kernel
theorem dL_held_9 : decode cL_held 9 = .ok (.goto 6, 3) := by decide +kernel
theorem dL_held_12 : decode cL_held 12 = .ok (.astore_n 3, 1) := by decide +kernel
theorem dL_held_13 : decode cL_held 13 = .ok (.iconst 1, 1) := by decide +kernel
theorem dL_held_14 : decode cL_held 14 = .ok (.ireturn, 1) := by decide +kernel
theorem dL_held_15 : decode cL_held 15 = .ok (.iconst 0, 1) := by decide +kernel
theorem dL_held_16 : decode cL_held 16 = .ok (.ireturn, 1) := by decide +kernel
theorem dL_given_0 : decode cL_given 0 = .ok (.aload_n 2, 1) := by decide +kernel
theorem dL_given_1 : decode cL_given 1 = .ok (.iconst 0, 1) := by decide +kernel
theorem dL_given_2 : decode cL_given 2 = .ok (.aload_n 0, 1) := by decide +kernel
theorem dL_given_3 : decode cL_given 3 = .ok (.iload_n 1, 1) := by decide +kernel
theorem dL_given_4 : decode cL_given 4 = .ok (.invokevirtual 64, 3) := by decide +kernel
theorem dL_given_7 : decode cL_given 7 = .ok (.i2l, 1) := by decide +kernel
theorem dL_given_8 : decode cL_given 8 = .ok (.lastore, 1) := by decide +kernel
theorem dL_given_9 : decode cL_given 9 = .ok (.goto 6, 3) := by decide +kernel
theorem dL_given_12 : decode cL_given 12 = .ok (.astore_n 3, 1) := by decide +kernel
theorem dL_given_13 : decode cL_given 13 = .ok (.iconst 1, 1) := by decide +kernel
theorem dL_given_14 : decode cL_given 14 = .ok (.ireturn, 1) := by decide +kernel
theorem dL_given_15 : decode cL_given 15 = .ok (.iconst 0, 1) := by decide +kernel
theorem dL_given_16 : decode cL_given 16 = .ok (.ireturn, 1) := by decide +kernel
theorem dL_holders_0 : decode cL_holders 0 = .ok (.aload_n 2, 1) := by decide +kernel
theorem dL_holders_1 : decode cL_holders 1 = .ok (.iconst 0, 1) := by decide +kernel
theorem dL_holders_2 : decode cL_holders 2 = .ok (.aload_n 0, 1) := by decide +kernel
theorem dL_holders_3 : decode cL_holders 3 = .ok (.iload_n 1, 1) := by decide +kernel
theorem dL_holders_4 : decode cL_holders 4 = .ok (.invokevirtual 67, 3) := by decide +kernel
theorem dL_holders_7 : decode cL_holders 7 = .ok (.i2l, 1) := by decide +kernel
theorem dL_holders_8 : decode cL_holders 8 = .ok (.lastore, 1) := by decide +kernel
theorem dL_holders_9 : decode cL_holders 9 = .ok (.goto 6, 3) := by decide +kernel
theorem dL_holders_12 : decode cL_holders 12 = .ok (.astore_n 3, 1) := by decide +kernel
theorem dL_holders_13 : decode cL_holders 13 = .ok (.iconst 1, 1) := by decide +kernel
theorem dL_holders_14 : decode cL_holders 14 = .ok (.ireturn, 1) := by decide +kernel
theorem dL_holders_15 : decode cL_holders 15 = .ok (.iconst 0, 1) := by decide +kernel
theorem dL_holders_16 : decode cL_holders 16 = .ok (.ireturn, 1) := by decide +kernel
theorem dL_why_0 : decode cL_why 0 = .ok (.aload_n 3, 1) := by decide +kernel
theorem dL_why_1 : decode cL_why 1 = .ok (.iconst 0, 1) := by decide +kernel
theorem dL_why_2 : decode cL_why 2 = .ok (.aload_n 0, 1) := by decide +kernel
theorem dL_why_3 : decode cL_why 3 = .ok (.iload_n 1, 1) := by decide +kernel
theorem dL_why_4 : decode cL_why 4 = .ok (.iload_n 2, 1) := by decide +kernel
theorem dL_why_5 : decode cL_why 5 = .ok (.invokevirtual 70, 3) := by decide +kernel
theorem dL_why_8 : decode cL_why 8 = .ok (.i2l, 1) := by decide +kernel
theorem dL_why_9 : decode cL_why 9 = .ok (.lastore, 1) := by decide +kernel
theorem dL_why_10 : decode cL_why 10 = .ok (.goto 15, 3) := by decide +kernel
theorem dL_why_13 : decode cL_why 13 = .ok (.astore 4, 2) := by decide +kernel
theorem dL_why_15 : decode cL_why 15 = .ok (.iconst 1, 1) := by decide +kernel
theorem dL_why_16 : decode cL_why 16 = .ok (.ireturn, 1) := by decide +kernel
theorem dL_why_17 : decode cL_why 17 = .ok (.astore 4, 2) := by decide +kernel
theorem dL_why_19 : decode cL_why 19 = .ok (.iconst 2, 1) := by decide +kernel
theorem dL_why_20 : decode cL_why 20 = .ok (.ireturn, 1) := by decide +kernel
theorem dL_why_21 : decode cL_why 21 = .ok (.astore 4, 2) := by decide +kernel
theorem dL_why_23 : decode cL_why 23 = .ok (.iconst 3, 1) := by decide +kernel
theorem dL_why_24 : decode cL_why 24 = .ok (.ireturn, 1) := by decide +kernel
theorem dL_why_25 : decode cL_why 25 = .ok (.iconst 0, 1) := by decide +kernel
theorem dL_why_26 : decode cL_why 26 = .ok (.ireturn, 1) := by decide +kernel
theorem dL_root_0 : decode cL_root 0 = .ok (.aload_n 3, 1) := by decide +kernel
theorem dL_root_1 : decode cL_root 1 = .ok (.iconst 0, 1) := by decide +kernel
theorem dL_root_2 : decode cL_root 2 = .ok (.aload_n 0, 1) := by decide +kernel
theorem dL_root_3 : decode cL_root 3 = .ok (.iload_n 1, 1) := by decide +kernel
theorem dL_root_4 : decode cL_root 4 = .ok (.iload_n 2, 1) := by decide +kernel
theorem dL_root_5 : decode cL_root 5 = .ok (.invokevirtual 74, 3) := by decide +kernel
theorem dL_root_8 : decode cL_root 8 = .ok (.i2l, 1) := by decide +kernel
theorem dL_root_9 : decode cL_root 9 = .ok (.lastore, 1) := by decide +kernel
theorem dL_root_10 : decode cL_root 10 = .ok (.goto 19, 3) := by decide +kernel
theorem dL_root_13 : decode cL_root 13 = .ok (.astore 4, 2) := by decide +kernel
theorem dL_root_15 : decode cL_root 15 = .ok (.iconst 1, 1) := by decide +kernel
theorem dL_root_16 : decode cL_root 16 = .ok (.ireturn, 1) := by decide +kernel
theorem dL_root_17 : decode cL_root 17 = .ok (.astore 4, 2) := by decide +kernel
theorem dL_root_19 : decode cL_root 19 = .ok (.iconst 2, 1) := by decide +kernel
theorem dL_root_20 : decode cL_root 20 = .ok (.ireturn, 1) := by decide +kernel
theorem dL_root_21 : decode cL_root 21 = .ok (.astore 4, 2) := by decide +kernel
theorem dL_root_23 : decode cL_root 23 = .ok (.iconst 3, 1) := by decide +kernel
theorem dL_root_24 : decode cL_root 24 = .ok (.ireturn, 1) := by decide +kernel
theorem dL_root_25 : decode cL_root 25 = .ok (.astore 4, 2) := by decide +kernel
theorem dL_root_27 : decode cL_root 27 = .ok (.iconst 4, 1) := by decide +kernel
theorem dL_root_28 : decode cL_root 28 = .ok (.ireturn, 1) := by decide +kernel
theorem dL_root_29 : decode cL_root 29 = .ok (.iconst 0, 1) := by decide +kernel
theorem dL_root_30 : decode cL_root 30 = .ok (.ireturn, 1) := by decide +kernel
theorem dL_causes_0 : decode cL_causes 0 = .ok (.aload_n 3, 1) := by decide +kernel
theorem dL_causes_1 : decode cL_causes 1 = .ok (.iconst 0, 1) := by decide +kernel
theorem dL_causes_2 : decode cL_causes 2 = .ok (.aload_n 0, 1) := by decide +kernel
theorem dL_causes_3 : decode cL_causes 3 = .ok (.iload_n 1, 1) := by decide +kernel
theorem dL_causes_4 : decode cL_causes 4 = .ok (.iload_n 2, 1) := by decide +kernel
theorem dL_causes_5 : decode cL_causes 5 = .ok (.invokevirtual 79, 3) := by decide +kernel
theorem dL_causes_8 : decode cL_causes 8 = .ok (.i2l, 1) := by decide +kernel
theorem dL_causes_9 : decode cL_causes 9 = .ok (.lastore, 1) := by decide +kernel
theorem dL_causes_10 : decode cL_causes 10 = .ok (.goto 15, 3) := by decide +kernel
theorem dL_causes_13 : decode cL_causes 13 = .ok (.astore 4, 2) := by decide +kernel
theorem dL_causes_15 : decode cL_causes 15 = .ok (.iconst 1, 1) := by decide +kernel
theorem dL_causes_16 : decode cL_causes 16 = .ok (.ireturn, 1) := by decide +kernel
theorem dL_causes_17 : decode cL_causes 17 = .ok (.astore 4, 2) := by decide +kernel
theorem dL_causes_19 : decode cL_causes 19 = .ok (.iconst 2, 1) := by decide +kernel
theorem dL_causes_20 : decode cL_causes 20 = .ok (.ireturn, 1) := by decide +kernel
theorem dL_causes_21 : decode cL_causes 21 = .ok (.astore 4, 2) := by decide +kernel
theorem dL_causes_23 : decode cL_causes 23 = .ok (.iconst 3, 1) := by decide +kernel
theorem dL_causes_24 : decode cL_causes 24 = .ok (.ireturn, 1) := by decide +kernel
theorem dL_causes_25 : decode cL_causes 25 = .ok (.iconst 0, 1) := by decide +kernel
theorem dL_causes_26 : decode cL_causes 26 = .ok (.ireturn, 1) := by decide +kernel
theorem dL_request_0 : decode cL_request 0 = .ok (.aload_n 3, 1) := by decide +kernel
theorem dL_request_1 : decode cL_request 1 = .ok (.iconst 0, 1) := by decide +kernel
theorem dL_request_2 : decode cL_request 2 = .ok (.aload_n 0, 1) := by decide +kernel
theorem dL_request_3 : decode cL_request 3 = .ok (.iload_n 1, 1) := by decide +kernel
theorem dL_request_4 : decode cL_request 4 = .ok (.iload_n 2, 1) := by decide +kernel
theorem dL_request_5 : decode cL_request 5 = .ok (.invokevirtual 82, 3) := by decide +kernel
theorem dL_request_8 : decode cL_request 8 = .ok (.i2l, 1) := by decide +kernel
theorem dL_request_9 : decode cL_request 9 = .ok (.lastore, 1) := by decide +kernel
theorem dL_request_10 : decode cL_request 10 = .ok (.goto 19, 3) := by decide +kernel
theorem dL_request_13 : decode cL_request 13 = .ok (.astore 4, 2) := by decide +kernel
theorem dL_request_15 : decode cL_request 15 = .ok (.iconst 1, 1) := by decide +kernel
theorem dL_request_16 : decode cL_request 16 = .ok (.ireturn, 1) := by decide +kernel
theorem dL_request_17 : decode cL_request 17 = .ok (.astore 4, 2) := by decide +kernel
theorem dL_request_19 : decode cL_request 19 = .ok (.iconst 2, 1) := by decide +kernel
theorem dL_request_20 : decode cL_request 20 = .ok (.ireturn, 1) := by decide +kernel
theorem dL_request_21 : decode cL_request 21 = .ok (.astore 4, 2) := by decide +kernel
theorem dL_request_23 : decode cL_request 23 = .ok (.iconst 3, 1) := by decide +kernel
theorem dL_request_24 : decode cL_request 24 = .ok (.ireturn, 1) := by decide +kernel
theorem dL_request_25 : decode cL_request 25 = .ok (.astore 4, 2) := by decide +kernel
theorem dL_request_27 : decode cL_request 27 = .ok (.iconst 4, 1) := by decide +kernel
theorem dL_request_28 : decode cL_request 28 = .ok (.ireturn, 1) := by decide +kernel
theorem dL_request_29 : decode cL_request 29 = .ok (.iconst 0, 1) := by decide +kernel
theorem dL_request_30 : decode cL_request 30 = .ok (.ireturn, 1) := by decide +kernel
theorem dL_state_0 : decode cL_state 0 = .ok (.aload_n 2, 1) := by decide +kernel
theorem dL_state_1 : decode cL_state 1 = .ok (.iconst 0, 1) := by decide +kernel
theorem dL_state_2 : decode cL_state 2 = .ok (.aload_n 0, 1) := by decide +kernel
theorem dL_state_3 : decode cL_state 3 = .ok (.iload_n 1, 1) := by decide +kernel
theorem dL_state_4 : decode cL_state 4 = .ok (.invokevirtual 87, 3) := by decide +kernel
theorem dL_state_7 : decode cL_state 7 = .ok (.i2l, 1) := by decide +kernel
theorem dL_state_8 : decode cL_state 8 = .ok (.lastore, 1) := by decide +kernel
theorem dL_state_9 : decode cL_state 9 = .ok (.goto 6, 3) := by decide +kernel
theorem dL_state_12 : decode cL_state 12 = .ok (.astore_n 3, 1) := by decide +kernel
theorem dL_state_13 : decode cL_state 13 = .ok (.iconst 1, 1) := by decide +kernel
theorem dL_state_14 : decode cL_state 14 = .ok (.ireturn, 1) := by decide +kernel
theorem dL_state_15 : decode cL_state 15 = .ok (.iconst 0, 1) := by decide +kernel
theorem dL_state_16 : decode cL_state 16 = .ok (.ireturn, 1) := by decide +kernel
theorem dL_answer_0 : decode cL_answer 0 = .ok (.aload_n 2, 1) := by decide +kernel
theorem dL_answer_1 : decode cL_answer 1 = .ok (.iconst 0, 1) := by decide +kernel
theorem dL_answer_2 : decode cL_answer 2 = .ok (.aload_n 0, 1) := by decide +kernel
theorem dL_answer_3 : decode cL_answer 3 = .ok (.iload_n 1, 1) := by decide +kernel
theorem dL_answer_4 : decode cL_answer 4 = .ok (.invokevirtual 91, 3) := by decide +kernel
theorem dL_answer_7 : decode cL_answer 7 = .ok (.i2l, 1) := by decide +kernel
theorem dL_answer_8 : decode cL_answer 8 = .ok (.lastore, 1) := by decide +kernel
theorem dL_answer_9 : decode cL_answer 9 = .ok (.goto 9, 3) := by decide +kernel
theorem dL_answer_12 : decode cL_answer 12 = .ok (.astore_n 3, 1) := by decide +kernel
theorem dL_answer_13 : decode cL_answer 13 = .ok (.iconst 1, 1) := by decide +kernel
theorem dL_answer_14 : decode cL_answer 14 = .ok (.ireturn, 1) := by decide +kernel
theorem dL_answer_15 : decode cL_answer 15 = .ok (.astore_n 3, 1) := by decide +kernel
theorem dL_answer_16 : decode cL_answer 16 = .ok (.iconst 2, 1) := by decide +kernel
theorem dL_answer_17 : decode cL_answer 17 = .ok (.ireturn, 1) := by decide +kernel
theorem dL_answer_18 : decode cL_answer 18 = .ok (.iconst 0, 1) := by decide +kernel
theorem dL_answer_19 : decode cL_answer 19 = .ok (.ireturn, 1) := by decide +kernel
theorem dL_withdraw_0 : decode cL_withdraw 0 = .ok (.aload_n 2, 1) := by decide +kernel
theorem dL_withdraw_1 : decode cL_withdraw 1 = .ok (.iconst 0, 1) := by decide +kernel
theorem dL_withdraw_2 : decode cL_withdraw 2 = .ok (.aload_n 0, 1) := by decide +kernel
theorem dL_withdraw_3 : decode cL_withdraw 3 = .ok (.iload_n 1, 1) := by decide +kernel
theorem dL_withdraw_4 : decode cL_withdraw 4 = .ok (.invokevirtual 94, 3) := by decide +kernel
theorem dL_withdraw_7 : decode cL_withdraw 7 = .ok (.i2l, 1) := by decide +kernel
theorem dL_withdraw_8 : decode cL_withdraw 8 = .ok (.lastore, 1) := by decide +kernel
theorem dL_withdraw_9 : decode cL_withdraw 9 = .ok (.goto 9, 3) := by decide +kernel
theorem dL_withdraw_12 : decode cL_withdraw 12 = .ok (.astore_n 3, 1) := by decide +kernel
theorem dL_withdraw_13 : decode cL_withdraw 13 = .ok (.iconst 1, 1) := by decide +kernel
theorem dL_withdraw_14 : decode cL_withdraw 14 = .ok (.ireturn, 1) := by decide +kernel
theorem dL_withdraw_15 : decode cL_withdraw 15 = .ok (.astore_n 3, 1) := by decide +kernel
theorem dL_withdraw_16 : decode cL_withdraw 16 = .ok (.iconst 2, 1) := by decide +kernel
theorem dL_withdraw_17 : decode cL_withdraw 17 = .ok (.ireturn, 1) := by decide +kernel
theorem dL_withdraw_18 : decode cL_withdraw 18 = .ok (.iconst 0, 1) := by decide +kernel
theorem dL_withdraw_19 : decode cL_withdraw 19 = .ok (.ireturn, 1) := by decide +kernel
theorem dL_setPrice_0 : decode cL_setPrice 0 = .ok (.aload_n 2, 1) := by decide +kernel
theorem dL_setPrice_1 : decode cL_setPrice 1 = .ok (.iconst 0, 1) := by decide +kernel
theorem dL_setPrice_2 : decode cL_setPrice 2 = .ok (.aload_n 0, 1) := by decide +kernel
theorem dL_setPrice_3 : decode cL_setPrice 3 = .ok (.iload_n 1, 1) := by decide +kernel
theorem dL_setPrice_4 : decode cL_setPrice 4 = .ok (.invokevirtual 97, 3) := by decide +kernel
theorem dL_setPrice_7 : decode cL_setPrice 7 = .ok (.i2l, 1) := by decide +kernel
theorem dL_setPrice_8 : decode cL_setPrice 8 = .ok (.lastore, 1) := by decide +kernel
theorem dL_setPrice_9 : decode cL_setPrice 9 = .ok (.goto 6, 3) := by decide +kernel
theorem dL_setPrice_12 : decode cL_setPrice 12 = .ok (.astore_n 3, 1) := by decide +kernel
theorem dL_setPrice_13 : decode cL_setPrice 13 = .ok (.iconst 1, 1) := by decide +kernel
theorem dL_setPrice_14 : decode cL_setPrice 14 = .ok (.ireturn, 1) := by decide +kernel
theorem dL_setPrice_15 : decode cL_setPrice 15 = .ok (.iconst 0, 1) := by decide +kernel
theorem dL_setPrice_16 : decode cL_setPrice 16 = .ok (.ireturn, 1) := by decide +kernel
theorem dL_owed_0 : decode cL_owed 0 = .ok (.aload_n 2, 1) := by decide +kernel
theorem dL_owed_1 : decode cL_owed 1 = .ok (.iconst 0, 1) := by decide +kernel
theorem dL_owed_2 : decode cL_owed 2 = .ok (.aload_n 0, 1) := by decide +kernel
theorem dL_owed_3 : decode cL_owed 3 = .ok (.iload_n 1, 1) := by decide +kernel
theorem dL_owed_4 : decode cL_owed 4 = .ok (.invokevirtual 100, 3) := by decide +kernel
theorem dL_owed_7 : decode cL_owed 7 = .ok (.i2l, 1) := by decide +kernel
theorem dL_owed_8 : decode cL_owed 8 = .ok (.lastore, 1) := by decide +kernel
theorem dL_owed_9 : decode cL_owed 9 = .ok (.goto 6, 3) := by decide +kernel
theorem dL_owed_12 : decode cL_owed 12 = .ok (.astore_n 3, 1) := by decide +kernel
theorem dL_owed_13 : decode cL_owed 13 = .ok (.iconst 1, 1) := by decide +kernel
theorem dL_owed_14 : decode cL_owed 14 = .ok (.ireturn, 1) := by decide +kernel
theorem dL_owed_15 : decode cL_owed 15 = .ok (.iconst 0, 1) := by decide +kernel
theorem dL_owed_16 : decode cL_owed 16 = .ok (.ireturn, 1) := by decide +kernel
theorem dL_pay_0 : decode cL_pay 0 = .ok (.aload_n 3, 1) := by decide +kernel
theorem dL_pay_1 : decode cL_pay 1 = .ok (.iconst 0, 1) := by decide +kernel
theorem dL_pay_2 : decode cL_pay 2 = .ok (.aload_n 0, 1) := by decide +kernel
theorem dL_pay_3 : decode cL_pay 3 = .ok (.iload_n 1, 1) := by decide +kernel
theorem dL_pay_4 : decode cL_pay 4 = .ok (.iload_n 2, 1) := by decide +kernel
theorem dL_pay_5 : decode cL_pay 5 = .ok (.invokevirtual 103, 3) := by decide +kernel
theorem dL_pay_8 : decode cL_pay 8 = .ok (.i2l, 1) := by decide +kernel
theorem dL_pay_9 : decode cL_pay 9 = .ok (.lastore, 1) := by decide +kernel
theorem dL_pay_10 : decode cL_pay 10 = .ok (.goto 7, 3) := by decide +kernel
theorem dL_pay_13 : decode cL_pay 13 = .ok (.astore 4, 2) := by decide +kernel
theorem dL_pay_15 : decode cL_pay 15 = .ok (.iconst 1, 1) := by decide +kernel
theorem dL_pay_16 : decode cL_pay 16 = .ok (.ireturn, 1) := by decide +kernel
theorem dL_pay_17 : decode cL_pay 17 = .ok (.iconst 0, 1) := by decide +kernel
theorem dL_pay_18 : decode cL_pay 18 = .ok (.ireturn, 1) := by decide +kernel
theorem dL_pass_0 : decode cL_pass 0 = .ok (.aload_n 2, 1) := by decide +kernel
theorem dL_pass_1 : decode cL_pass 1 = .ok (.iconst 0, 1) := by decide +kernel
theorem dL_pass_2 : decode cL_pass 2 = .ok (.aload_n 0, 1) := by decide +kernel
theorem dL_pass_3 : decode cL_pass 3 = .ok (.iload_n 1, 1) := by decide +kernel
theorem dL_pass_4 : decode cL_pass 4 = .ok (.invokevirtual 106, 3) := by decide +kernel
theorem dL_pass_7 : decode cL_pass 7 = .ok (.i2l, 1) := by decide +kernel
theorem dL_pass_8 : decode cL_pass 8 = .ok (.lastore, 1) := by decide +kernel
theorem dL_pass_9 : decode cL_pass 9 = .ok (.goto 6, 3) := by decide +kernel
theorem dL_pass_12 : decode cL_pass 12 = .ok (.astore_n 3, 1) := by decide +kernel
theorem dL_pass_13 : decode cL_pass 13 = .ok (.iconst 1, 1) := by decide +kernel
theorem dL_pass_14 : decode cL_pass 14 = .ok (.ireturn, 1) := by decide +kernel
theorem dL_pass_15 : decode cL_pass 15 = .ok (.iconst 0, 1) := by decide +kernel
theorem dL_pass_16 : decode cL_pass 16 = .ok (.ireturn, 1) := by decide +kernel
theorem dL_answeredShare_0 : decode cL_answeredShare 0 = .ok (.aload_n 1, 1) := by decide +kernel
theorem dL_answeredShare_1 : decode cL_answeredShare 1 = .ok (.iconst 0, 1) := by decide +kernel
theorem dL_answeredShare_2 : decode cL_answeredShare 2 = .ok (.aload_n 0, 1) := by decide +kernel
theorem dL_answeredShare_3 : decode cL_answeredShare 3 = .ok (.invokevirtual 109, 3) := by decide +kernel
theorem dL_answeredShare_6 : decode cL_answeredShare 6 = .ok (.f2d, 1) := by decide +kernel
theorem dL_answeredShare_7 : decode cL_answeredShare 7 = .ok (.dastore, 1) := by decide +kernel
theorem dL_answeredShare_8 : decode cL_answeredShare 8 = .ok (.goto 6, 3) := by decide +kernel
theorem dL_answeredShare_11 : decode cL_answeredShare 11 = .ok (.astore_n 2, 1) := by decide +kernel
theorem dL_answeredShare_12 : decode cL_answeredShare 12 = .ok (.iconst 1, 1) := by decide +kernel
theorem dL_answeredShare_13 : decode cL_answeredShare 13 = .ok (.ireturn, 1) := by decide +kernel
theorem dL_answeredShare_14 : decode cL_answeredShare 14 = .ok (.iconst 0, 1) := by decide +kernel
theorem dL_answeredShare_15 : decode cL_answeredShare 15 = .ok (.ireturn, 1) := by decide +kernel
theorem dL_law_0 : decode cL_law 0 = .ok (.new 8, 3) := by decide +kernel
theorem dL_law_3 : decode cL_law 3 = .ok (.dup, 1) := by decide +kernel
theorem dL_law_4 : decode cL_law 4 = .ok (.invokespecial 113, 3) := by decide +kernel
theorem dL_law_7 : decode cL_law 7 = .ok (.astore_n 1, 1) := by decide +kernel
theorem dL_law_8 : decode cL_law 8 = .ok (.new 114, 3) := by decide +kernel
theorem dL_law_11 : decode cL_law 11 = .ok (.dup, 1) := by decide +kernel
theorem dL_law_12 : decode cL_law 12 = .ok (.invokespecial 116, 3) := by decide +kernel
theorem dL_law_15 : decode cL_law 15 = .ok (.astore_n 2, 1) := by decide +kernel
theorem dL_law_16 : decode cL_law 16 = .ok (.iconst 1, 1) := by decide +kernel
theorem dL_law_17 : decode cL_law 17 = .ok (.newarray .long, 2) := by decide +kernel
theorem dL_law_19 : decode cL_law 19 = .ok (.astore_n 3, 1) := by decide +kernel
theorem dL_law_20 : decode cL_law 20 = .ok (.iconst 1, 1) := by decide +kernel
theorem dL_law_21 : decode cL_law 21 = .ok (.newarray .double, 2) := by decide +kernel
theorem dL_law_23 : decode cL_law 23 = .ok (.astore 4, 2) := by decide +kernel
theorem dL_law_25 : decode cL_law 25 = .ok (.iconst 0, 1) := by decide +kernel
theorem dL_law_26 : decode cL_law 26 = .ok (.istore 5, 2) := by decide +kernel
theorem dL_law_28 : decode cL_law 28 = .ok (.iload 5, 2) := by decide +kernel
theorem dL_law_30 : decode cL_law 30 = .ok (.aload_n 0, 1) := by decide +kernel
theorem dL_law_31 : decode cL_law 31 = .ok (.arraylength, 1) := by decide +kernel
theorem dL_law_32 : decode cL_law 32 = .ok (.iconst 5, 1) := by decide +kernel
theorem dL_law_33 : decode cL_law 33 = .ok (.isub, 1) := by decide +kernel
theorem dL_law_34 : decode cL_law 34 = .ok (.if_icmp .gt 1992, 3) := by decide +kernel
theorem dL_law_37 : decode cL_law 37 = .ok (.aload_n 0, 1) := by decide +kernel
theorem dL_law_38 : decode cL_law 38 = .ok (.iload 5, 2) := by decide +kernel
theorem dL_law_40 : decode cL_law 40 = .ok (.iaload, 1) := by decide +kernel
theorem dL_law_41 : decode cL_law 41 = .ok (.bipush 31, 2) := by decide +kernel
theorem dL_law_43 : decode cL_law 43 = .ok (.iand, 1) := by decide +kernel
theorem dL_law_44 : decode cL_law 44 = .ok (.tableswitch 1976 0 31 #[144, 188, 256, 324, 380, 436, 492, 572, 664, 720, 783, 796, 876, 951, 1026, 1082, 1138, 1194, 1262, 1330, 1398, 1466, 1522, 1578, 1634, 1690, 1746, 1814, 1870, 1883, 1896, 1910], 144) := by decide +kernel
theorem dL_law_188 : decode cL_law 188 = .ok (.aload_n 1, 1) := by decide +kernel
theorem dL_law_189 : decode cL_law 189 = .ok (.aload_n 3, 1) := by decide +kernel
theorem dL_law_190 : decode cL_law 190 = .ok (.invokestatic 117, 3) := by decide +kernel
theorem dL_law_193 : decode cL_law 193 = .ok (.istore 6, 2) := by decide +kernel
theorem dL_law_195 : decode cL_law 195 = .ok (.aload_n 2, 1) := by decide +kernel
theorem dL_law_196 : decode cL_law 196 = .ok (.invokevirtual 122, 3) := by decide +kernel
theorem dL_law_199 : decode cL_law 199 = .ok (.istore 7, 2) := by decide +kernel
theorem dL_law_201 : decode cL_law 201 = .ok (.aload_n 2, 1) := by decide +kernel
theorem dL_law_202 : decode cL_law 202 = .ok (.invokevirtual 123, 3) := by decide +kernel
theorem dL_law_205 : decode cL_law 205 = .ok (.iload 6, 2) := by decide +kernel
theorem dL_law_207 : decode cL_law 207 = .ok (.if_icmp .eq 5, 3) := by decide +kernel
theorem dL_law_210 : decode cL_law 210 = .ok (.iconst 0, 1) := by decide +kernel
theorem dL_law_211 : decode cL_law 211 = .ok (.ireturn, 1) := by decide +kernel
theorem dL_law_212 : decode cL_law 212 = .ok (.iload 6, 2) := by decide +kernel
theorem dL_law_214 : decode cL_law 214 = .ok (.ifCond .ne 15, 3) := by decide +kernel
theorem dL_law_217 : decode cL_law 217 = .ok (.aload_n 3, 1) := by decide +kernel
theorem dL_law_218 : decode cL_law 218 = .ok (.iconst 0, 1) := by decide +kernel
theorem dL_law_219 : decode cL_law 219 = .ok (.laload, 1) := by decide +kernel
theorem dL_law_220 : decode cL_law 220 = .ok (.iload 7, 2) := by decide +kernel
theorem dL_law_222 : decode cL_law 222 = .ok (.i2l, 1) := by decide +kernel
theorem dL_law_223 : decode cL_law 223 = .ok (.lcmp, 1) := by decide +kernel
theorem dL_law_224 : decode cL_law 224 = .ok (.ifCond .eq 5, 3) := by decide +kernel
theorem dL_law_227 : decode cL_law 227 = .ok (.iconst 0, 1) := by decide +kernel
theorem dL_law_228 : decode cL_law 228 = .ok (.ireturn, 1) := by decide +kernel
theorem dL_law_229 : decode cL_law 229 = .ok (.goto 1791, 3) := by decide +kernel
theorem dL_law_232 : decode cL_law 232 = .ok (.aload_n 1, 1) := by decide +kernel
theorem dL_law_233 : decode cL_law 233 = .ok (.aload_n 0, 1) := by decide +kernel
theorem dL_law_234 : decode cL_law 234 = .ok (.iload 5, 2) := by decide +kernel
theorem dL_law_236 : decode cL_law 236 = .ok (.iconst 1, 1) := by decide +kernel
theorem dL_law_237 : decode cL_law 237 = .ok (.iadd, 1) := by decide +kernel
theorem dL_law_238 : decode cL_law 238 = .ok (.iaload, 1) := by decide +kernel
theorem dL_law_239 : decode cL_law 239 = .ok (.aload_n 0, 1) := by decide +kernel
theorem dL_law_240 : decode cL_law 240 = .ok (.iload 5, 2) := by decide +kernel
theorem dL_law_242 : decode cL_law 242 = .ok (.iconst 2, 1) := by decide +kernel
theorem dL_law_243 : decode cL_law 243 = .ok (.iadd, 1) := by decide +kernel
theorem dL_law_244 : decode cL_law 244 = .ok (.iaload, 1) := by decide +kernel
theorem dL_law_245 : decode cL_law 245 = .ok (.aload_n 3, 1) := by decide +kernel
theorem dL_law_246 : decode cL_law 246 = .ok (.invokestatic 126, 3) := by decide +kernel
theorem dL_law_249 : decode cL_law 249 = .ok (.istore 6, 2) := by decide +kernel
theorem dL_law_251 : decode cL_law 251 = .ok (.aload_n 2, 1) := by decide +kernel
theorem dL_law_252 : decode cL_law 252 = .ok (.aload_n 0, 1) := by decide +kernel
theorem dL_law_253 : decode cL_law 253 = .ok (.iload 5, 2) := by decide +kernel
theorem dL_law_255 : decode cL_law 255 = .ok (.iconst 1, 1) := by decide +kernel
theorem dL_law_256 : decode cL_law 256 = .ok (.iadd, 1) := by decide +kernel
theorem dL_law_257 : decode cL_law 257 = .ok (.iaload, 1) := by decide +kernel
theorem dL_law_258 : decode cL_law 258 = .ok (.aload_n 0, 1) := by decide +kernel
theorem dL_law_259 : decode cL_law 259 = .ok (.iload 5, 2) := by decide +kernel
theorem dL_law_261 : decode cL_law 261 = .ok (.iconst 2, 1) := by decide +kernel
theorem dL_law_262 : decode cL_law 262 = .ok (.iadd, 1) := by decide +kernel
theorem dL_law_263 : decode cL_law 263 = .ok (.iaload, 1) := by decide +kernel
theorem dL_law_264 : decode cL_law 264 = .ok (.invokevirtual 129, 3) := by decide +kernel
theorem dL_law_267 : decode cL_law 267 = .ok (.istore 7, 2) := by decide +kernel
theorem dL_law_269 : decode cL_law 269 = .ok (.aload_n 2, 1) := by decide +kernel
theorem dL_law_270 : decode cL_law 270 = .ok (.invokevirtual 123, 3) := by decide +kernel
theorem dL_law_273 : decode cL_law 273 = .ok (.iload 6, 2) := by decide +kernel
theorem dL_law_275 : decode cL_law 275 = .ok (.if_icmp .eq 5, 3) := by decide +kernel
theorem dL_law_278 : decode cL_law 278 = .ok (.iconst 0, 1) := by decide +kernel
theorem dL_law_279 : decode cL_law 279 = .ok (.ireturn, 1) := by decide +kernel
theorem dL_law_280 : decode cL_law 280 = .ok (.iload 6, 2) := by decide +kernel
theorem dL_law_282 : decode cL_law 282 = .ok (.ifCond .ne 15, 3) := by decide +kernel
theorem dL_law_285 : decode cL_law 285 = .ok (.aload_n 3, 1) := by decide +kernel
theorem dL_law_286 : decode cL_law 286 = .ok (.iconst 0, 1) := by decide +kernel
theorem dL_law_287 : decode cL_law 287 = .ok (.laload, 1) := by decide +kernel
theorem dL_law_288 : decode cL_law 288 = .ok (.iload 7, 2) := by decide +kernel
theorem dL_law_290 : decode cL_law 290 = .ok (.i2l, 1) := by decide +kernel
theorem dL_law_291 : decode cL_law 291 = .ok (.lcmp, 1) := by decide +kernel
theorem dL_law_292 : decode cL_law 292 = .ok (.ifCond .eq 5, 3) := by decide +kernel
theorem dL_law_295 : decode cL_law 295 = .ok (.iconst 0, 1) := by decide +kernel
theorem dL_law_296 : decode cL_law 296 = .ok (.ireturn, 1) := by decide +kernel
theorem dL_law_297 : decode cL_law 297 = .ok (.goto 1723, 3) := by decide +kernel
theorem dL_law_300 : decode cL_law 300 = .ok (.aload_n 1, 1) := by decide +kernel
theorem dL_law_301 : decode cL_law 301 = .ok (.aload_n 0, 1) := by decide +kernel
theorem dL_law_302 : decode cL_law 302 = .ok (.iload 5, 2) := by decide +kernel
theorem dL_law_304 : decode cL_law 304 = .ok (.iconst 1, 1) := by decide +kernel
theorem dL_law_305 : decode cL_law 305 = .ok (.iadd, 1) := by decide +kernel
theorem dL_law_306 : decode cL_law 306 = .ok (.iaload, 1) := by decide +kernel
theorem dL_law_307 : decode cL_law 307 = .ok (.aload_n 0, 1) := by decide +kernel
theorem dL_law_308 : decode cL_law 308 = .ok (.iload 5, 2) := by decide +kernel
theorem dL_law_310 : decode cL_law 310 = .ok (.iconst 2, 1) := by decide +kernel
theorem dL_law_311 : decode cL_law 311 = .ok (.iadd, 1) := by decide +kernel
theorem dL_law_312 : decode cL_law 312 = .ok (.iaload, 1) := by decide +kernel
theorem dL_law_313 : decode cL_law 313 = .ok (.aload_n 3, 1) := by decide +kernel
theorem dL_law_314 : decode cL_law 314 = .ok (.invokestatic 130, 3) := by decide +kernel
theorem dL_law_317 : decode cL_law 317 = .ok (.istore 6, 2) := by decide +kernel
theorem dL_law_319 : decode cL_law 319 = .ok (.aload_n 2, 1) := by decide +kernel
theorem dL_law_320 : decode cL_law 320 = .ok (.aload_n 0, 1) := by decide +kernel
theorem dL_law_321 : decode cL_law 321 = .ok (.iload 5, 2) := by decide +kernel
theorem dL_law_323 : decode cL_law 323 = .ok (.iconst 1, 1) := by decide +kernel
theorem dL_law_324 : decode cL_law 324 = .ok (.iadd, 1) := by decide +kernel
theorem dL_law_325 : decode cL_law 325 = .ok (.iaload, 1) := by decide +kernel
theorem dL_law_326 : decode cL_law 326 = .ok (.aload_n 0, 1) := by decide +kernel
theorem dL_law_327 : decode cL_law 327 = .ok (.iload 5, 2) := by decide +kernel
theorem dL_law_329 : decode cL_law 329 = .ok (.iconst 2, 1) := by decide +kernel
theorem dL_law_330 : decode cL_law 330 = .ok (.iadd, 1) := by decide +kernel
theorem dL_law_331 : decode cL_law 331 = .ok (.iaload, 1) := by decide +kernel
theorem dL_law_332 : decode cL_law 332 = .ok (.invokevirtual 132, 3) := by decide +kernel
theorem dL_law_335 : decode cL_law 335 = .ok (.istore 7, 2) := by decide +kernel
theorem dL_law_337 : decode cL_law 337 = .ok (.aload_n 2, 1) := by decide +kernel
theorem dL_law_338 : decode cL_law 338 = .ok (.invokevirtual 123, 3) := by decide +kernel
theorem dL_law_341 : decode cL_law 341 = .ok (.iload 6, 2) := by decide +kernel
theorem dL_law_343 : decode cL_law 343 = .ok (.if_icmp .eq 5, 3) := by decide +kernel
theorem dL_law_346 : decode cL_law 346 = .ok (.iconst 0, 1) := by decide +kernel
theorem dL_law_347 : decode cL_law 347 = .ok (.ireturn, 1) := by decide +kernel
theorem dL_law_348 : decode cL_law 348 = .ok (.iload 6, 2) := by decide +kernel
theorem dL_law_350 : decode cL_law 350 = .ok (.ifCond .ne 15, 3) := by decide +kernel
theorem dL_law_353 : decode cL_law 353 = .ok (.aload_n 3, 1) := by decide +kernel
theorem dL_law_354 : decode cL_law 354 = .ok (.iconst 0, 1) := by decide +kernel
theorem dL_law_355 : decode cL_law 355 = .ok (.laload, 1) := by decide +kernel
theorem dL_law_356 : decode cL_law 356 = .ok (.iload 7, 2) := by decide +kernel
theorem dL_law_358 : decode cL_law 358 = .ok (.i2l, 1) := by decide +kernel
theorem dL_law_359 : decode cL_law 359 = .ok (.lcmp, 1) := by decide +kernel
theorem dL_law_360 : decode cL_law 360 = .ok (.ifCond .eq 5, 3) := by decide +kernel
theorem dL_law_363 : decode cL_law 363 = .ok (.iconst 0, 1) := by decide +kernel
theorem dL_law_364 : decode cL_law 364 = .ok (.ireturn, 1) := by decide +kernel
theorem dL_law_365 : decode cL_law 365 = .ok (.goto 1655, 3) := by decide +kernel
theorem dL_law_368 : decode cL_law 368 = .ok (.aload_n 1, 1) := by decide +kernel
theorem dL_law_369 : decode cL_law 369 = .ok (.aload_n 0, 1) := by decide +kernel
theorem dL_law_370 : decode cL_law 370 = .ok (.iload 5, 2) := by decide +kernel
theorem dL_law_372 : decode cL_law 372 = .ok (.iconst 1, 1) := by decide +kernel
theorem dL_law_373 : decode cL_law 373 = .ok (.iadd, 1) := by decide +kernel
theorem dL_law_374 : decode cL_law 374 = .ok (.iaload, 1) := by decide +kernel
theorem dL_law_375 : decode cL_law 375 = .ok (.aload_n 3, 1) := by decide +kernel
theorem dL_law_376 : decode cL_law 376 = .ok (.invokestatic 133, 3) := by decide +kernel
theorem dL_law_379 : decode cL_law 379 = .ok (.istore 6, 2) := by decide +kernel
theorem dL_law_381 : decode cL_law 381 = .ok (.aload_n 2, 1) := by decide +kernel
theorem dL_law_382 : decode cL_law 382 = .ok (.aload_n 0, 1) := by decide +kernel
theorem dL_law_383 : decode cL_law 383 = .ok (.iload 5, 2) := by decide +kernel
theorem dL_law_385 : decode cL_law 385 = .ok (.iconst 1, 1) := by decide +kernel
theorem dL_law_386 : decode cL_law 386 = .ok (.iadd, 1) := by decide +kernel
theorem dL_law_387 : decode cL_law 387 = .ok (.iaload, 1) := by decide +kernel
theorem dL_law_388 : decode cL_law 388 = .ok (.invokevirtual 136, 3) := by decide +kernel
theorem dL_law_391 : decode cL_law 391 = .ok (.istore 7, 2) := by decide +kernel
theorem dL_law_393 : decode cL_law 393 = .ok (.aload_n 2, 1) := by decide +kernel
theorem dL_law_394 : decode cL_law 394 = .ok (.invokevirtual 123, 3) := by decide +kernel
theorem dL_law_397 : decode cL_law 397 = .ok (.iload 6, 2) := by decide +kernel
theorem dL_law_399 : decode cL_law 399 = .ok (.if_icmp .eq 5, 3) := by decide +kernel
theorem dL_law_402 : decode cL_law 402 = .ok (.iconst 0, 1) := by decide +kernel
theorem dL_law_403 : decode cL_law 403 = .ok (.ireturn, 1) := by decide +kernel
theorem dL_law_404 : decode cL_law 404 = .ok (.iload 6, 2) := by decide +kernel
theorem dL_law_406 : decode cL_law 406 = .ok (.ifCond .ne 15, 3) := by decide +kernel
theorem dL_law_409 : decode cL_law 409 = .ok (.aload_n 3, 1) := by decide +kernel
theorem dL_law_410 : decode cL_law 410 = .ok (.iconst 0, 1) := by decide +kernel
theorem dL_law_411 : decode cL_law 411 = .ok (.laload, 1) := by decide +kernel
theorem dL_law_412 : decode cL_law 412 = .ok (.iload 7, 2) := by decide +kernel
theorem dL_law_414 : decode cL_law 414 = .ok (.i2l, 1) := by decide +kernel
theorem dL_law_415 : decode cL_law 415 = .ok (.lcmp, 1) := by decide +kernel
theorem dL_law_416 : decode cL_law 416 = .ok (.ifCond .eq 5, 3) := by decide +kernel
theorem dL_law_419 : decode cL_law 419 = .ok (.iconst 0, 1) := by decide +kernel
theorem dL_law_420 : decode cL_law 420 = .ok (.ireturn, 1) := by decide +kernel
theorem dL_law_421 : decode cL_law 421 = .ok (.goto 1599, 3) := by decide +kernel
theorem dL_law_424 : decode cL_law 424 = .ok (.aload_n 1, 1) := by decide +kernel
theorem dL_law_425 : decode cL_law 425 = .ok (.aload_n 0, 1) := by decide +kernel
theorem dL_law_426 : decode cL_law 426 = .ok (.iload 5, 2) := by decide +kernel
theorem dL_law_428 : decode cL_law 428 = .ok (.iconst 1, 1) := by decide +kernel
theorem dL_law_429 : decode cL_law 429 = .ok (.iadd, 1) := by decide +kernel
theorem dL_law_430 : decode cL_law 430 = .ok (.iaload, 1) := by decide +kernel
theorem dL_law_431 : decode cL_law 431 = .ok (.aload_n 3, 1) := by decide +kernel
theorem dL_law_432 : decode cL_law 432 = .ok (.invokestatic 137, 3) := by decide +kernel
theorem dL_law_435 : decode cL_law 435 = .ok (.istore 6, 2) := by decide +kernel
theorem dL_law_437 : decode cL_law 437 = .ok (.aload_n 2, 1) := by decide +kernel
theorem dL_law_438 : decode cL_law 438 = .ok (.aload_n 0, 1) := by decide +kernel
theorem dL_law_439 : decode cL_law 439 = .ok (.iload 5, 2) := by decide +kernel
theorem dL_law_441 : decode cL_law 441 = .ok (.iconst 1, 1) := by decide +kernel
theorem dL_law_442 : decode cL_law 442 = .ok (.iadd, 1) := by decide +kernel
theorem dL_law_443 : decode cL_law 443 = .ok (.iaload, 1) := by decide +kernel
theorem dL_law_444 : decode cL_law 444 = .ok (.invokevirtual 139, 3) := by decide +kernel
theorem dL_law_447 : decode cL_law 447 = .ok (.istore 7, 2) := by decide +kernel
theorem dL_law_449 : decode cL_law 449 = .ok (.aload_n 2, 1) := by decide +kernel
theorem dL_law_450 : decode cL_law 450 = .ok (.invokevirtual 123, 3) := by decide +kernel
theorem dL_law_453 : decode cL_law 453 = .ok (.iload 6, 2) := by decide +kernel
theorem dL_law_455 : decode cL_law 455 = .ok (.if_icmp .eq 5, 3) := by decide +kernel
theorem dL_law_458 : decode cL_law 458 = .ok (.iconst 0, 1) := by decide +kernel
theorem dL_law_459 : decode cL_law 459 = .ok (.ireturn, 1) := by decide +kernel
theorem dL_law_460 : decode cL_law 460 = .ok (.iload 6, 2) := by decide +kernel
theorem dL_law_462 : decode cL_law 462 = .ok (.ifCond .ne 15, 3) := by decide +kernel
theorem dL_law_465 : decode cL_law 465 = .ok (.aload_n 3, 1) := by decide +kernel
theorem dL_law_466 : decode cL_law 466 = .ok (.iconst 0, 1) := by decide +kernel
theorem dL_law_467 : decode cL_law 467 = .ok (.laload, 1) := by decide +kernel
theorem dL_law_468 : decode cL_law 468 = .ok (.iload 7, 2) := by decide +kernel
theorem dL_law_470 : decode cL_law 470 = .ok (.i2l, 1) := by decide +kernel
theorem dL_law_471 : decode cL_law 471 = .ok (.lcmp, 1) := by decide +kernel
theorem dL_law_472 : decode cL_law 472 = .ok (.ifCond .eq 5, 3) := by decide +kernel
theorem dL_law_475 : decode cL_law 475 = .ok (.iconst 0, 1) := by decide +kernel
theorem dL_law_476 : decode cL_law 476 = .ok (.ireturn, 1) := by decide +kernel
theorem dL_law_477 : decode cL_law 477 = .ok (.goto 1543, 3) := by decide +kernel
theorem dL_law_480 : decode cL_law 480 = .ok (.aload_n 1, 1) := by decide +kernel
theorem dL_law_481 : decode cL_law 481 = .ok (.aload_n 0, 1) := by decide +kernel
theorem dL_law_482 : decode cL_law 482 = .ok (.iload 5, 2) := by decide +kernel
theorem dL_law_484 : decode cL_law 484 = .ok (.iconst 1, 1) := by decide +kernel
theorem dL_law_485 : decode cL_law 485 = .ok (.iadd, 1) := by decide +kernel
theorem dL_law_486 : decode cL_law 486 = .ok (.iaload, 1) := by decide +kernel
theorem dL_law_487 : decode cL_law 487 = .ok (.aload_n 3, 1) := by decide +kernel
theorem dL_law_488 : decode cL_law 488 = .ok (.invokestatic 140, 3) := by decide +kernel
theorem dL_law_491 : decode cL_law 491 = .ok (.istore 6, 2) := by decide +kernel
theorem dL_law_493 : decode cL_law 493 = .ok (.aload_n 2, 1) := by decide +kernel
theorem dL_law_494 : decode cL_law 494 = .ok (.aload_n 0, 1) := by decide +kernel
theorem dL_law_495 : decode cL_law 495 = .ok (.iload 5, 2) := by decide +kernel
theorem dL_law_497 : decode cL_law 497 = .ok (.iconst 1, 1) := by decide +kernel
theorem dL_law_498 : decode cL_law 498 = .ok (.iadd, 1) := by decide +kernel
theorem dL_law_499 : decode cL_law 499 = .ok (.iaload, 1) := by decide +kernel
theorem dL_law_500 : decode cL_law 500 = .ok (.invokevirtual 142, 3) := by decide +kernel
theorem dL_law_503 : decode cL_law 503 = .ok (.istore 7, 2) := by decide +kernel
theorem dL_law_505 : decode cL_law 505 = .ok (.aload_n 2, 1) := by decide +kernel
theorem dL_law_506 : decode cL_law 506 = .ok (.invokevirtual 123, 3) := by decide +kernel
theorem dL_law_509 : decode cL_law 509 = .ok (.iload 6, 2) := by decide +kernel
theorem dL_law_511 : decode cL_law 511 = .ok (.if_icmp .eq 5, 3) := by decide +kernel
theorem dL_law_514 : decode cL_law 514 = .ok (.iconst 0, 1) := by decide +kernel
theorem dL_law_515 : decode cL_law 515 = .ok (.ireturn, 1) := by decide +kernel
theorem dL_law_516 : decode cL_law 516 = .ok (.iload 6, 2) := by decide +kernel
theorem dL_law_518 : decode cL_law 518 = .ok (.ifCond .ne 15, 3) := by decide +kernel
theorem dL_law_521 : decode cL_law 521 = .ok (.aload_n 3, 1) := by decide +kernel
theorem dL_law_522 : decode cL_law 522 = .ok (.iconst 0, 1) := by decide +kernel
theorem dL_law_523 : decode cL_law 523 = .ok (.laload, 1) := by decide +kernel
theorem dL_law_524 : decode cL_law 524 = .ok (.iload 7, 2) := by decide +kernel
theorem dL_law_526 : decode cL_law 526 = .ok (.i2l, 1) := by decide +kernel
theorem dL_law_527 : decode cL_law 527 = .ok (.lcmp, 1) := by decide +kernel
theorem dL_law_528 : decode cL_law 528 = .ok (.ifCond .eq 5, 3) := by decide +kernel
theorem dL_law_531 : decode cL_law 531 = .ok (.iconst 0, 1) := by decide +kernel
theorem dL_law_532 : decode cL_law 532 = .ok (.ireturn, 1) := by decide +kernel
theorem dL_law_533 : decode cL_law 533 = .ok (.goto 1487, 3) := by decide +kernel
theorem dL_law_536 : decode cL_law 536 = .ok (.aload_n 1, 1) := by decide +kernel
theorem dL_law_537 : decode cL_law 537 = .ok (.aload_n 0, 1) := by decide +kernel
theorem dL_law_538 : decode cL_law 538 = .ok (.iload 5, 2) := by decide +kernel
theorem dL_law_540 : decode cL_law 540 = .ok (.iconst 1, 1) := by decide +kernel
theorem dL_law_541 : decode cL_law 541 = .ok (.iadd, 1) := by decide +kernel
theorem dL_law_542 : decode cL_law 542 = .ok (.iaload, 1) := by decide +kernel
theorem dL_law_543 : decode cL_law 543 = .ok (.aload_n 0, 1) := by decide +kernel
theorem dL_law_544 : decode cL_law 544 = .ok (.iload 5, 2) := by decide +kernel
theorem dL_law_546 : decode cL_law 546 = .ok (.iconst 2, 1) := by decide +kernel
theorem dL_law_547 : decode cL_law 547 = .ok (.iadd, 1) := by decide +kernel
theorem dL_law_548 : decode cL_law 548 = .ok (.iaload, 1) := by decide +kernel
theorem dL_law_549 : decode cL_law 549 = .ok (.aload_n 0, 1) := by decide +kernel
theorem dL_law_550 : decode cL_law 550 = .ok (.iload 5, 2) := by decide +kernel
theorem dL_law_552 : decode cL_law 552 = .ok (.iconst 3, 1) := by decide +kernel
theorem dL_law_553 : decode cL_law 553 = .ok (.iadd, 1) := by decide +kernel
theorem dL_law_554 : decode cL_law 554 = .ok (.iaload, 1) := by decide +kernel
theorem dL_law_555 : decode cL_law 555 = .ok (.aload_n 3, 1) := by decide +kernel
theorem dL_law_556 : decode cL_law 556 = .ok (.invokestatic 143, 3) := by decide +kernel
theorem dL_law_559 : decode cL_law 559 = .ok (.istore 6, 2) := by decide +kernel
theorem dL_law_561 : decode cL_law 561 = .ok (.aload_n 2, 1) := by decide +kernel
theorem dL_law_562 : decode cL_law 562 = .ok (.aload_n 0, 1) := by decide +kernel
theorem dL_law_563 : decode cL_law 563 = .ok (.iload 5, 2) := by decide +kernel
theorem dL_law_565 : decode cL_law 565 = .ok (.iconst 1, 1) := by decide +kernel
theorem dL_law_566 : decode cL_law 566 = .ok (.iadd, 1) := by decide +kernel
theorem dL_law_567 : decode cL_law 567 = .ok (.iaload, 1) := by decide +kernel
theorem dL_law_568 : decode cL_law 568 = .ok (.aload_n 0, 1) := by decide +kernel
theorem dL_law_569 : decode cL_law 569 = .ok (.iload 5, 2) := by decide +kernel
theorem dL_law_571 : decode cL_law 571 = .ok (.iconst 2, 1) := by decide +kernel
theorem dL_law_572 : decode cL_law 572 = .ok (.iadd, 1) := by decide +kernel
theorem dL_law_573 : decode cL_law 573 = .ok (.iaload, 1) := by decide +kernel
theorem dL_law_574 : decode cL_law 574 = .ok (.aload_n 0, 1) := by decide +kernel
theorem dL_law_575 : decode cL_law 575 = .ok (.iload 5, 2) := by decide +kernel
theorem dL_law_577 : decode cL_law 577 = .ok (.iconst 3, 1) := by decide +kernel
theorem dL_law_578 : decode cL_law 578 = .ok (.iadd, 1) := by decide +kernel
theorem dL_law_579 : decode cL_law 579 = .ok (.iaload, 1) := by decide +kernel
theorem dL_law_580 : decode cL_law 580 = .ok (.invokevirtual 146, 3) := by decide +kernel
theorem dL_law_583 : decode cL_law 583 = .ok (.istore 7, 2) := by decide +kernel
theorem dL_law_585 : decode cL_law 585 = .ok (.aload_n 2, 1) := by decide +kernel
theorem dL_law_586 : decode cL_law 586 = .ok (.invokevirtual 123, 3) := by decide +kernel
theorem dL_law_589 : decode cL_law 589 = .ok (.iload 6, 2) := by decide +kernel
theorem dL_law_591 : decode cL_law 591 = .ok (.if_icmp .eq 5, 3) := by decide +kernel
theorem dL_law_594 : decode cL_law 594 = .ok (.iconst 0, 1) := by decide +kernel
theorem dL_law_595 : decode cL_law 595 = .ok (.ireturn, 1) := by decide +kernel
theorem dL_law_596 : decode cL_law 596 = .ok (.iload 6, 2) := by decide +kernel
theorem dL_law_598 : decode cL_law 598 = .ok (.ifCond .ne 15, 3) := by decide +kernel
theorem dL_law_601 : decode cL_law 601 = .ok (.aload_n 3, 1) := by decide +kernel
theorem dL_law_602 : decode cL_law 602 = .ok (.iconst 0, 1) := by decide +kernel
theorem dL_law_603 : decode cL_law 603 = .ok (.laload, 1) := by decide +kernel
theorem dL_law_604 : decode cL_law 604 = .ok (.iload 7, 2) := by decide +kernel
theorem dL_law_606 : decode cL_law 606 = .ok (.i2l, 1) := by decide +kernel
theorem dL_law_607 : decode cL_law 607 = .ok (.lcmp, 1) := by decide +kernel
theorem dL_law_608 : decode cL_law 608 = .ok (.ifCond .eq 5, 3) := by decide +kernel
theorem dL_law_611 : decode cL_law 611 = .ok (.iconst 0, 1) := by decide +kernel
theorem dL_law_612 : decode cL_law 612 = .ok (.ireturn, 1) := by decide +kernel
theorem dL_law_613 : decode cL_law 613 = .ok (.goto 1407, 3) := by decide +kernel
theorem dL_law_616 : decode cL_law 616 = .ok (.aload_n 1, 1) := by decide +kernel
theorem dL_law_617 : decode cL_law 617 = .ok (.aload_n 0, 1) := by decide +kernel
theorem dL_law_618 : decode cL_law 618 = .ok (.iload 5, 2) := by decide +kernel
theorem dL_law_620 : decode cL_law 620 = .ok (.iconst 1, 1) := by decide +kernel
theorem dL_law_621 : decode cL_law 621 = .ok (.iadd, 1) := by decide +kernel
theorem dL_law_622 : decode cL_law 622 = .ok (.iaload, 1) := by decide +kernel
theorem dL_law_623 : decode cL_law 623 = .ok (.aload_n 0, 1) := by decide +kernel
theorem dL_law_624 : decode cL_law 624 = .ok (.iload 5, 2) := by decide +kernel
theorem dL_law_626 : decode cL_law 626 = .ok (.iconst 2, 1) := by decide +kernel
theorem dL_law_627 : decode cL_law 627 = .ok (.iadd, 1) := by decide +kernel
theorem dL_law_628 : decode cL_law 628 = .ok (.iaload, 1) := by decide +kernel
theorem dL_law_629 : decode cL_law 629 = .ok (.aload_n 0, 1) := by decide +kernel
theorem dL_law_630 : decode cL_law 630 = .ok (.iload 5, 2) := by decide +kernel
theorem dL_law_632 : decode cL_law 632 = .ok (.iconst 3, 1) := by decide +kernel
theorem dL_law_633 : decode cL_law 633 = .ok (.iadd, 1) := by decide +kernel
theorem dL_law_634 : decode cL_law 634 = .ok (.iaload, 1) := by decide +kernel
theorem dL_law_635 : decode cL_law 635 = .ok (.aload_n 0, 1) := by decide +kernel
theorem dL_law_636 : decode cL_law 636 = .ok (.iload 5, 2) := by decide +kernel
theorem dL_law_638 : decode cL_law 638 = .ok (.iconst 4, 1) := by decide +kernel
theorem dL_law_639 : decode cL_law 639 = .ok (.iadd, 1) := by decide +kernel
theorem dL_law_640 : decode cL_law 640 = .ok (.iaload, 1) := by decide +kernel
theorem dL_law_641 : decode cL_law 641 = .ok (.aload_n 3, 1) := by decide +kernel
theorem dL_law_642 : decode cL_law 642 = .ok (.invokestatic 147, 3) := by decide +kernel
theorem dL_law_645 : decode cL_law 645 = .ok (.istore 6, 2) := by decide +kernel
theorem dL_law_647 : decode cL_law 647 = .ok (.aload_n 2, 1) := by decide +kernel
theorem dL_law_648 : decode cL_law 648 = .ok (.aload_n 0, 1) := by decide +kernel
theorem dL_law_649 : decode cL_law 649 = .ok (.iload 5, 2) := by decide +kernel
theorem dL_law_651 : decode cL_law 651 = .ok (.iconst 1, 1) := by decide +kernel
theorem dL_law_652 : decode cL_law 652 = .ok (.iadd, 1) := by decide +kernel
theorem dL_law_653 : decode cL_law 653 = .ok (.iaload, 1) := by decide +kernel
theorem dL_law_654 : decode cL_law 654 = .ok (.aload_n 0, 1) := by decide +kernel
theorem dL_law_655 : decode cL_law 655 = .ok (.iload 5, 2) := by decide +kernel
theorem dL_law_657 : decode cL_law 657 = .ok (.iconst 2, 1) := by decide +kernel
theorem dL_law_658 : decode cL_law 658 = .ok (.iadd, 1) := by decide +kernel
theorem dL_law_659 : decode cL_law 659 = .ok (.iaload, 1) := by decide +kernel
theorem dL_law_660 : decode cL_law 660 = .ok (.aload_n 0, 1) := by decide +kernel
theorem dL_law_661 : decode cL_law 661 = .ok (.iload 5, 2) := by decide +kernel
theorem dL_law_663 : decode cL_law 663 = .ok (.iconst 3, 1) := by decide +kernel
theorem dL_law_664 : decode cL_law 664 = .ok (.iadd, 1) := by decide +kernel
theorem dL_law_665 : decode cL_law 665 = .ok (.iaload, 1) := by decide +kernel
theorem dL_law_666 : decode cL_law 666 = .ok (.aload_n 0, 1) := by decide +kernel
theorem dL_law_667 : decode cL_law 667 = .ok (.iload 5, 2) := by decide +kernel
theorem dL_law_669 : decode cL_law 669 = .ok (.iconst 4, 1) := by decide +kernel
theorem dL_law_670 : decode cL_law 670 = .ok (.iadd, 1) := by decide +kernel
theorem dL_law_671 : decode cL_law 671 = .ok (.iaload, 1) := by decide +kernel
theorem dL_law_672 : decode cL_law 672 = .ok (.invokevirtual 150, 3) := by decide +kernel
theorem dL_law_675 : decode cL_law 675 = .ok (.istore 7, 2) := by decide +kernel
theorem dL_law_677 : decode cL_law 677 = .ok (.aload_n 2, 1) := by decide +kernel
theorem dL_law_678 : decode cL_law 678 = .ok (.invokevirtual 123, 3) := by decide +kernel
theorem dL_law_681 : decode cL_law 681 = .ok (.iload 6, 2) := by decide +kernel
theorem dL_law_683 : decode cL_law 683 = .ok (.if_icmp .eq 5, 3) := by decide +kernel
theorem dL_law_686 : decode cL_law 686 = .ok (.iconst 0, 1) := by decide +kernel
theorem dL_law_687 : decode cL_law 687 = .ok (.ireturn, 1) := by decide +kernel
theorem dL_law_688 : decode cL_law 688 = .ok (.iload 6, 2) := by decide +kernel
theorem dL_law_690 : decode cL_law 690 = .ok (.ifCond .ne 15, 3) := by decide +kernel
theorem dL_law_693 : decode cL_law 693 = .ok (.aload_n 3, 1) := by decide +kernel
theorem dL_law_694 : decode cL_law 694 = .ok (.iconst 0, 1) := by decide +kernel
theorem dL_law_695 : decode cL_law 695 = .ok (.laload, 1) := by decide +kernel
theorem dL_law_696 : decode cL_law 696 = .ok (.iload 7, 2) := by decide +kernel
theorem dL_law_698 : decode cL_law 698 = .ok (.i2l, 1) := by decide +kernel
theorem dL_law_699 : decode cL_law 699 = .ok (.lcmp, 1) := by decide +kernel
theorem dL_law_700 : decode cL_law 700 = .ok (.ifCond .eq 5, 3) := by decide +kernel
theorem dL_law_703 : decode cL_law 703 = .ok (.iconst 0, 1) := by decide +kernel
theorem dL_law_704 : decode cL_law 704 = .ok (.ireturn, 1) := by decide +kernel
theorem dL_law_705 : decode cL_law 705 = .ok (.goto 1315, 3) := by decide +kernel
theorem dL_law_708 : decode cL_law 708 = .ok (.aload_n 1, 1) := by decide +kernel
theorem dL_law_709 : decode cL_law 709 = .ok (.aload_n 0, 1) := by decide +kernel
theorem dL_law_710 : decode cL_law 710 = .ok (.iload 5, 2) := by decide +kernel
theorem dL_law_712 : decode cL_law 712 = .ok (.iconst 1, 1) := by decide +kernel
theorem dL_law_713 : decode cL_law 713 = .ok (.iadd, 1) := by decide +kernel
theorem dL_law_714 : decode cL_law 714 = .ok (.iaload, 1) := by decide +kernel
theorem dL_law_715 : decode cL_law 715 = .ok (.aload_n 3, 1) := by decide +kernel
theorem dL_law_716 : decode cL_law 716 = .ok (.invokestatic 151, 3) := by decide +kernel
theorem dL_law_719 : decode cL_law 719 = .ok (.istore 6, 2) := by decide +kernel
theorem dL_law_721 : decode cL_law 721 = .ok (.aload_n 2, 1) := by decide +kernel
theorem dL_law_722 : decode cL_law 722 = .ok (.aload_n 0, 1) := by decide +kernel
theorem dL_law_723 : decode cL_law 723 = .ok (.iload 5, 2) := by decide +kernel
theorem dL_law_725 : decode cL_law 725 = .ok (.iconst 1, 1) := by decide +kernel
theorem dL_law_726 : decode cL_law 726 = .ok (.iadd, 1) := by decide +kernel
theorem dL_law_727 : decode cL_law 727 = .ok (.iaload, 1) := by decide +kernel
theorem dL_law_728 : decode cL_law 728 = .ok (.invokevirtual 153, 3) := by decide +kernel
theorem dL_law_731 : decode cL_law 731 = .ok (.istore 7, 2) := by decide +kernel
theorem dL_law_733 : decode cL_law 733 = .ok (.aload_n 2, 1) := by decide +kernel
theorem dL_law_734 : decode cL_law 734 = .ok (.invokevirtual 123, 3) := by decide +kernel
theorem dL_law_737 : decode cL_law 737 = .ok (.iload 6, 2) := by decide +kernel
theorem dL_law_739 : decode cL_law 739 = .ok (.if_icmp .eq 5, 3) := by decide +kernel
theorem dL_law_742 : decode cL_law 742 = .ok (.iconst 0, 1) := by decide +kernel
theorem dL_law_743 : decode cL_law 743 = .ok (.ireturn, 1) := by decide +kernel
theorem dL_law_744 : decode cL_law 744 = .ok (.iload 6, 2) := by decide +kernel
theorem dL_law_746 : decode cL_law 746 = .ok (.ifCond .ne 15, 3) := by decide +kernel
theorem dL_law_749 : decode cL_law 749 = .ok (.aload_n 3, 1) := by decide +kernel
theorem dL_law_750 : decode cL_law 750 = .ok (.iconst 0, 1) := by decide +kernel
theorem dL_law_751 : decode cL_law 751 = .ok (.laload, 1) := by decide +kernel
theorem dL_law_752 : decode cL_law 752 = .ok (.iload 7, 2) := by decide +kernel
theorem dL_law_754 : decode cL_law 754 = .ok (.i2l, 1) := by decide +kernel
theorem dL_law_755 : decode cL_law 755 = .ok (.lcmp, 1) := by decide +kernel
theorem dL_law_756 : decode cL_law 756 = .ok (.ifCond .eq 5, 3) := by decide +kernel
theorem dL_law_759 : decode cL_law 759 = .ok (.iconst 0, 1) := by decide +kernel
theorem dL_law_760 : decode cL_law 760 = .ok (.ireturn, 1) := by decide +kernel
theorem dL_law_761 : decode cL_law 761 = .ok (.goto 1259, 3) := by decide +kernel
theorem dL_law_764 : decode cL_law 764 = .ok (.aload_n 1, 1) := by decide +kernel
theorem dL_law_765 : decode cL_law 765 = .ok (.aload_n 0, 1) := by decide +kernel
theorem dL_law_766 : decode cL_law 766 = .ok (.iload 5, 2) := by decide +kernel
theorem dL_law_768 : decode cL_law 768 = .ok (.iconst 1, 1) := by decide +kernel
theorem dL_law_769 : decode cL_law 769 = .ok (.iadd, 1) := by decide +kernel
theorem dL_law_770 : decode cL_law 770 = .ok (.iaload, 1) := by decide +kernel
theorem dL_law_771 : decode cL_law 771 = .ok (.aload_n 3, 1) := by decide +kernel
theorem dL_law_772 : decode cL_law 772 = .ok (.invokestatic 154, 3) := by decide +kernel
theorem dL_law_775 : decode cL_law 775 = .ok (.istore 6, 2) := by decide +kernel
theorem dL_law_777 : decode cL_law 777 = .ok (.aload_n 2, 1) := by decide +kernel
theorem dL_law_778 : decode cL_law 778 = .ok (.aload_n 0, 1) := by decide +kernel
theorem dL_law_779 : decode cL_law 779 = .ok (.iload 5, 2) := by decide +kernel
theorem dL_law_781 : decode cL_law 781 = .ok (.iconst 1, 1) := by decide +kernel
theorem dL_law_782 : decode cL_law 782 = .ok (.iadd, 1) := by decide +kernel
theorem dL_law_783 : decode cL_law 783 = .ok (.iaload, 1) := by decide +kernel
theorem dL_law_784 : decode cL_law 784 = .ok (.invokevirtual 156, 3) := by decide +kernel
theorem dL_law_787 : decode cL_law 787 = .ok (.istore 7, 2) := by decide +kernel
theorem dL_law_789 : decode cL_law 789 = .ok (.aload_n 2, 1) := by decide +kernel
theorem dL_law_790 : decode cL_law 790 = .ok (.invokevirtual 123, 3) := by decide +kernel
theorem dL_law_793 : decode cL_law 793 = .ok (.iload 6, 2) := by decide +kernel
theorem dL_law_795 : decode cL_law 795 = .ok (.if_icmp .eq 5, 3) := by decide +kernel
theorem dL_law_798 : decode cL_law 798 = .ok (.iconst 0, 1) := by decide +kernel
theorem dL_law_799 : decode cL_law 799 = .ok (.ireturn, 1) := by decide +kernel
theorem dL_law_800 : decode cL_law 800 = .ok (.iload 6, 2) := by decide +kernel
theorem dL_law_802 : decode cL_law 802 = .ok (.ifCond .ne 22, 3) := by decide +kernel
theorem dL_law_805 : decode cL_law 805 = .ok (.aload_n 3, 1) := by decide +kernel
theorem dL_law_806 : decode cL_law 806 = .ok (.iconst 0, 1) := by decide +kernel
theorem dL_law_807 : decode cL_law 807 = .ok (.laload, 1) := by decide +kernel
theorem dL_law_808 : decode cL_law 808 = .ok (.iload 7, 2) := by decide +kernel
theorem dL_law_810 : decode cL_law 810 = .ok (.ifCond .eq 7, 3) := by decide +kernel
theorem dL_law_813 : decode cL_law 813 = .ok (.lconst 1, 1) := by decide +kernel
theorem dL_law_814 : decode cL_law 814 = .ok (.goto 4, 3) := by decide +kernel
theorem dL_law_817 : decode cL_law 817 = .ok (.lconst 0, 1) := by decide +kernel
theorem dL_law_818 : decode cL_law 818 = .ok (.lcmp, 1) := by decide +kernel
theorem dL_law_819 : decode cL_law 819 = .ok (.ifCond .eq 5, 3) := by decide +kernel
theorem dL_law_822 : decode cL_law 822 = .ok (.iconst 0, 1) := by decide +kernel
theorem dL_law_823 : decode cL_law 823 = .ok (.ireturn, 1) := by decide +kernel
theorem dL_law_824 : decode cL_law 824 = .ok (.goto 1196, 3) := by decide +kernel
theorem dL_law_827 : decode cL_law 827 = .ok (.aload_n 1, 1) := by decide +kernel
theorem dL_law_828 : decode cL_law 828 = .ok (.invokevirtual 157, 3) := by decide +kernel
theorem dL_law_831 : decode cL_law 831 = .ok (.aload_n 2, 1) := by decide +kernel
theorem dL_law_832 : decode cL_law 832 = .ok (.invokevirtual 160, 3) := by decide +kernel
theorem dL_law_835 : decode cL_law 835 = .ok (.if_icmp .eq 1185, 3) := by decide +kernel
theorem dL_law_838 : decode cL_law 838 = .ok (.iconst 0, 1) := by decide +kernel
theorem dL_law_839 : decode cL_law 839 = .ok (.ireturn, 1) := by decide +kernel
theorem dL_law_840 : decode cL_law 840 = .ok (.aload_n 1, 1) := by decide +kernel
theorem dL_law_841 : decode cL_law 841 = .ok (.aload_n 0, 1) := by decide +kernel
theorem dL_law_842 : decode cL_law 842 = .ok (.iload 5, 2) := by decide +kernel
theorem dL_law_844 : decode cL_law 844 = .ok (.iconst 1, 1) := by decide +kernel
theorem dL_law_845 : decode cL_law 845 = .ok (.iadd, 1) := by decide +kernel
theorem dL_law_846 : decode cL_law 846 = .ok (.iaload, 1) := by decide +kernel
theorem dL_law_847 : decode cL_law 847 = .ok (.aload_n 0, 1) := by decide +kernel
theorem dL_law_848 : decode cL_law 848 = .ok (.iload 5, 2) := by decide +kernel
theorem dL_law_850 : decode cL_law 850 = .ok (.iconst 2, 1) := by decide +kernel
theorem dL_law_851 : decode cL_law 851 = .ok (.iadd, 1) := by decide +kernel
theorem dL_law_852 : decode cL_law 852 = .ok (.iaload, 1) := by decide +kernel
theorem dL_law_853 : decode cL_law 853 = .ok (.aload_n 0, 1) := by decide +kernel
theorem dL_law_854 : decode cL_law 854 = .ok (.iload 5, 2) := by decide +kernel
theorem dL_law_856 : decode cL_law 856 = .ok (.iconst 3, 1) := by decide +kernel
theorem dL_law_857 : decode cL_law 857 = .ok (.iadd, 1) := by decide +kernel
theorem dL_law_858 : decode cL_law 858 = .ok (.iaload, 1) := by decide +kernel
theorem dL_law_859 : decode cL_law 859 = .ok (.aload_n 3, 1) := by decide +kernel
theorem dL_law_860 : decode cL_law 860 = .ok (.invokestatic 161, 3) := by decide +kernel
theorem dL_law_863 : decode cL_law 863 = .ok (.istore 6, 2) := by decide +kernel
theorem dL_law_865 : decode cL_law 865 = .ok (.aload_n 2, 1) := by decide +kernel
theorem dL_law_866 : decode cL_law 866 = .ok (.aload_n 0, 1) := by decide +kernel
theorem dL_law_867 : decode cL_law 867 = .ok (.iload 5, 2) := by decide +kernel
theorem dL_law_869 : decode cL_law 869 = .ok (.iconst 1, 1) := by decide +kernel
theorem dL_law_870 : decode cL_law 870 = .ok (.iadd, 1) := by decide +kernel
theorem dL_law_871 : decode cL_law 871 = .ok (.iaload, 1) := by decide +kernel
theorem dL_law_872 : decode cL_law 872 = .ok (.aload_n 0, 1) := by decide +kernel
theorem dL_law_873 : decode cL_law 873 = .ok (.iload 5, 2) := by decide +kernel
theorem dL_law_875 : decode cL_law 875 = .ok (.iconst 2, 1) := by decide +kernel
theorem dL_law_876 : decode cL_law 876 = .ok (.iadd, 1) := by decide +kernel
theorem dL_law_877 : decode cL_law 877 = .ok (.iaload, 1) := by decide +kernel
theorem dL_law_878 : decode cL_law 878 = .ok (.aload_n 0, 1) := by decide +kernel
theorem dL_law_879 : decode cL_law 879 = .ok (.iload 5, 2) := by decide +kernel
theorem dL_law_881 : decode cL_law 881 = .ok (.iconst 3, 1) := by decide +kernel
theorem dL_law_882 : decode cL_law 882 = .ok (.iadd, 1) := by decide +kernel
theorem dL_law_883 : decode cL_law 883 = .ok (.iaload, 1) := by decide +kernel
theorem dL_law_884 : decode cL_law 884 = .ok (.invokevirtual 163, 3) := by decide +kernel
theorem dL_law_887 : decode cL_law 887 = .ok (.istore 7, 2) := by decide +kernel
theorem dL_law_889 : decode cL_law 889 = .ok (.aload_n 2, 1) := by decide +kernel
theorem dL_law_890 : decode cL_law 890 = .ok (.invokevirtual 123, 3) := by decide +kernel
theorem dL_law_893 : decode cL_law 893 = .ok (.iload 6, 2) := by decide +kernel
theorem dL_law_895 : decode cL_law 895 = .ok (.if_icmp .eq 5, 3) := by decide +kernel
theorem dL_law_898 : decode cL_law 898 = .ok (.iconst 0, 1) := by decide +kernel
theorem dL_law_899 : decode cL_law 899 = .ok (.ireturn, 1) := by decide +kernel
theorem dL_law_900 : decode cL_law 900 = .ok (.iload 6, 2) := by decide +kernel
theorem dL_law_902 : decode cL_law 902 = .ok (.ifCond .ne 15, 3) := by decide +kernel
theorem dL_law_905 : decode cL_law 905 = .ok (.aload_n 3, 1) := by decide +kernel
theorem dL_law_906 : decode cL_law 906 = .ok (.iconst 0, 1) := by decide +kernel
theorem dL_law_907 : decode cL_law 907 = .ok (.laload, 1) := by decide +kernel
theorem dL_law_908 : decode cL_law 908 = .ok (.iload 7, 2) := by decide +kernel
theorem dL_law_910 : decode cL_law 910 = .ok (.i2l, 1) := by decide +kernel
theorem dL_law_911 : decode cL_law 911 = .ok (.lcmp, 1) := by decide +kernel
theorem dL_law_912 : decode cL_law 912 = .ok (.ifCond .eq 5, 3) := by decide +kernel
theorem dL_law_915 : decode cL_law 915 = .ok (.iconst 0, 1) := by decide +kernel
theorem dL_law_916 : decode cL_law 916 = .ok (.ireturn, 1) := by decide +kernel
theorem dL_law_917 : decode cL_law 917 = .ok (.goto 1103, 3) := by decide +kernel
theorem dL_law_920 : decode cL_law 920 = .ok (.aload_n 1, 1) := by decide +kernel
theorem dL_law_921 : decode cL_law 921 = .ok (.aload_n 0, 1) := by decide +kernel
theorem dL_law_922 : decode cL_law 922 = .ok (.iload 5, 2) := by decide +kernel
theorem dL_law_924 : decode cL_law 924 = .ok (.iconst 1, 1) := by decide +kernel
theorem dL_law_925 : decode cL_law 925 = .ok (.iadd, 1) := by decide +kernel
theorem dL_law_926 : decode cL_law 926 = .ok (.iaload, 1) := by decide +kernel
theorem dL_law_927 : decode cL_law 927 = .ok (.aload_n 0, 1) := by decide +kernel
theorem dL_law_928 : decode cL_law 928 = .ok (.iload 5, 2) := by decide +kernel
theorem dL_law_930 : decode cL_law 930 = .ok (.iconst 2, 1) := by decide +kernel
theorem dL_law_931 : decode cL_law 931 = .ok (.iadd, 1) := by decide +kernel
theorem dL_law_932 : decode cL_law 932 = .ok (.iaload, 1) := by decide +kernel
theorem dL_law_933 : decode cL_law 933 = .ok (.aload_n 3, 1) := by decide +kernel
theorem dL_law_934 : decode cL_law 934 = .ok (.invokestatic 164, 3) := by decide +kernel
theorem dL_law_937 : decode cL_law 937 = .ok (.istore 6, 2) := by decide +kernel
theorem dL_law_939 : decode cL_law 939 = .ok (.aload_n 2, 1) := by decide +kernel
theorem dL_law_940 : decode cL_law 940 = .ok (.aload_n 0, 1) := by decide +kernel
theorem dL_law_941 : decode cL_law 941 = .ok (.iload 5, 2) := by decide +kernel
theorem dL_law_943 : decode cL_law 943 = .ok (.iconst 1, 1) := by decide +kernel
theorem dL_law_944 : decode cL_law 944 = .ok (.iadd, 1) := by decide +kernel
theorem dL_law_945 : decode cL_law 945 = .ok (.iaload, 1) := by decide +kernel
theorem dL_law_946 : decode cL_law 946 = .ok (.aload_n 0, 1) := by decide +kernel
theorem dL_law_947 : decode cL_law 947 = .ok (.iload 5, 2) := by decide +kernel
theorem dL_law_949 : decode cL_law 949 = .ok (.iconst 2, 1) := by decide +kernel
theorem dL_law_950 : decode cL_law 950 = .ok (.iadd, 1) := by decide +kernel
theorem dL_law_951 : decode cL_law 951 = .ok (.iaload, 1) := by decide +kernel
theorem dL_law_952 : decode cL_law 952 = .ok (.invokevirtual 166, 3) := by decide +kernel
theorem dL_law_955 : decode cL_law 955 = .ok (.istore 7, 2) := by decide +kernel
theorem dL_law_957 : decode cL_law 957 = .ok (.aload_n 2, 1) := by decide +kernel
theorem dL_law_958 : decode cL_law 958 = .ok (.invokevirtual 123, 3) := by decide +kernel
theorem dL_law_961 : decode cL_law 961 = .ok (.iload 6, 2) := by decide +kernel
theorem dL_law_963 : decode cL_law 963 = .ok (.if_icmp .eq 5, 3) := by decide +kernel
theorem dL_law_966 : decode cL_law 966 = .ok (.iconst 0, 1) := by decide +kernel
theorem dL_law_967 : decode cL_law 967 = .ok (.ireturn, 1) := by decide +kernel
theorem dL_law_968 : decode cL_law 968 = .ok (.iload 6, 2) := by decide +kernel
theorem dL_law_970 : decode cL_law 970 = .ok (.ifCond .ne 22, 3) := by decide +kernel
theorem dL_law_973 : decode cL_law 973 = .ok (.aload_n 3, 1) := by decide +kernel
theorem dL_law_974 : decode cL_law 974 = .ok (.iconst 0, 1) := by decide +kernel
theorem dL_law_975 : decode cL_law 975 = .ok (.laload, 1) := by decide +kernel
theorem dL_law_976 : decode cL_law 976 = .ok (.iload 7, 2) := by decide +kernel
theorem dL_law_978 : decode cL_law 978 = .ok (.ifCond .eq 7, 3) := by decide +kernel
theorem dL_law_981 : decode cL_law 981 = .ok (.lconst 1, 1) := by decide +kernel
theorem dL_law_982 : decode cL_law 982 = .ok (.goto 4, 3) := by decide +kernel
theorem dL_law_985 : decode cL_law 985 = .ok (.lconst 0, 1) := by decide +kernel
theorem dL_law_986 : decode cL_law 986 = .ok (.lcmp, 1) := by decide +kernel
theorem dL_law_987 : decode cL_law 987 = .ok (.ifCond .eq 5, 3) := by decide +kernel
theorem dL_law_990 : decode cL_law 990 = .ok (.iconst 0, 1) := by decide +kernel
theorem dL_law_991 : decode cL_law 991 = .ok (.ireturn, 1) := by decide +kernel
theorem dL_law_992 : decode cL_law 992 = .ok (.goto 1028, 3) := by decide +kernel
theorem dL_law_995 : decode cL_law 995 = .ok (.aload_n 1, 1) := by decide +kernel
theorem dL_law_996 : decode cL_law 996 = .ok (.aload_n 0, 1) := by decide +kernel
theorem dL_law_997 : decode cL_law 997 = .ok (.iload 5, 2) := by decide +kernel
theorem dL_law_999 : decode cL_law 999 = .ok (.iconst 1, 1) := by decide +kernel
theorem dL_law_1000 : decode cL_law 1000 = .ok (.iadd, 1) := by decide +kernel
theorem dL_law_1001 : decode cL_law 1001 = .ok (.iaload, 1) := by decide +kernel
theorem dL_law_1002 : decode cL_law 1002 = .ok (.aload_n 0, 1) := by decide +kernel
theorem dL_law_1003 : decode cL_law 1003 = .ok (.iload 5, 2) := by decide +kernel
theorem dL_law_1005 : decode cL_law 1005 = .ok (.iconst 2, 1) := by decide +kernel
theorem dL_law_1006 : decode cL_law 1006 = .ok (.iadd, 1) := by decide +kernel
theorem dL_law_1007 : decode cL_law 1007 = .ok (.iaload, 1) := by decide +kernel
theorem dL_law_1008 : decode cL_law 1008 = .ok (.aload_n 3, 1) := by decide +kernel
theorem dL_law_1009 : decode cL_law 1009 = .ok (.invokestatic 167, 3) := by decide +kernel
theorem dL_law_1012 : decode cL_law 1012 = .ok (.istore 6, 2) := by decide +kernel
theorem dL_law_1014 : decode cL_law 1014 = .ok (.aload_n 2, 1) := by decide +kernel
theorem dL_law_1015 : decode cL_law 1015 = .ok (.aload_n 0, 1) := by decide +kernel
theorem dL_law_1016 : decode cL_law 1016 = .ok (.iload 5, 2) := by decide +kernel
theorem dL_law_1018 : decode cL_law 1018 = .ok (.iconst 1, 1) := by decide +kernel
theorem dL_law_1019 : decode cL_law 1019 = .ok (.iadd, 1) := by decide +kernel
theorem dL_law_1020 : decode cL_law 1020 = .ok (.iaload, 1) := by decide +kernel
theorem dL_law_1021 : decode cL_law 1021 = .ok (.aload_n 0, 1) := by decide +kernel
theorem dL_law_1022 : decode cL_law 1022 = .ok (.iload 5, 2) := by decide +kernel
theorem dL_law_1024 : decode cL_law 1024 = .ok (.iconst 2, 1) := by decide +kernel
theorem dL_law_1025 : decode cL_law 1025 = .ok (.iadd, 1) := by decide +kernel
theorem dL_law_1026 : decode cL_law 1026 = .ok (.iaload, 1) := by decide +kernel
theorem dL_law_1027 : decode cL_law 1027 = .ok (.invokevirtual 169, 3) := by decide +kernel
theorem dL_law_1030 : decode cL_law 1030 = .ok (.istore 7, 2) := by decide +kernel
theorem dL_law_1032 : decode cL_law 1032 = .ok (.aload_n 2, 1) := by decide +kernel
theorem dL_law_1033 : decode cL_law 1033 = .ok (.invokevirtual 123, 3) := by decide +kernel
theorem dL_law_1036 : decode cL_law 1036 = .ok (.iload 6, 2) := by decide +kernel
theorem dL_law_1038 : decode cL_law 1038 = .ok (.if_icmp .eq 5, 3) := by decide +kernel
theorem dL_law_1041 : decode cL_law 1041 = .ok (.iconst 0, 1) := by decide +kernel
theorem dL_law_1042 : decode cL_law 1042 = .ok (.ireturn, 1) := by decide +kernel
theorem dL_law_1043 : decode cL_law 1043 = .ok (.iload 6, 2) := by decide +kernel
theorem dL_law_1045 : decode cL_law 1045 = .ok (.ifCond .ne 22, 3) := by decide +kernel
theorem dL_law_1048 : decode cL_law 1048 = .ok (.aload_n 3, 1) := by decide +kernel
theorem dL_law_1049 : decode cL_law 1049 = .ok (.iconst 0, 1) := by decide +kernel
theorem dL_law_1050 : decode cL_law 1050 = .ok (.laload, 1) := by decide +kernel
theorem dL_law_1051 : decode cL_law 1051 = .ok (.iload 7, 2) := by decide +kernel
theorem dL_law_1053 : decode cL_law 1053 = .ok (.ifCond .eq 7, 3) := by decide +kernel
theorem dL_law_1056 : decode cL_law 1056 = .ok (.lconst 1, 1) := by decide +kernel
theorem dL_law_1057 : decode cL_law 1057 = .ok (.goto 4, 3) := by decide +kernel
theorem dL_law_1060 : decode cL_law 1060 = .ok (.lconst 0, 1) := by decide +kernel
theorem dL_law_1061 : decode cL_law 1061 = .ok (.lcmp, 1) := by decide +kernel
theorem dL_law_1062 : decode cL_law 1062 = .ok (.ifCond .eq 5, 3) := by decide +kernel
theorem dL_law_1065 : decode cL_law 1065 = .ok (.iconst 0, 1) := by decide +kernel
theorem dL_law_1066 : decode cL_law 1066 = .ok (.ireturn, 1) := by decide +kernel
theorem dL_law_1067 : decode cL_law 1067 = .ok (.goto 953, 3) := by decide +kernel
theorem dL_law_1070 : decode cL_law 1070 = .ok (.aload_n 1, 1) := by decide +kernel
theorem dL_law_1071 : decode cL_law 1071 = .ok (.aload_n 0, 1) := by decide +kernel
theorem dL_law_1072 : decode cL_law 1072 = .ok (.iload 5, 2) := by decide +kernel
theorem dL_law_1074 : decode cL_law 1074 = .ok (.iconst 1, 1) := by decide +kernel
theorem dL_law_1075 : decode cL_law 1075 = .ok (.iadd, 1) := by decide +kernel
theorem dL_law_1076 : decode cL_law 1076 = .ok (.iaload, 1) := by decide +kernel
theorem dL_law_1077 : decode cL_law 1077 = .ok (.aload_n 3, 1) := by decide +kernel
theorem dL_law_1078 : decode cL_law 1078 = .ok (.invokestatic 170, 3) := by decide +kernel
theorem dL_law_1081 : decode cL_law 1081 = .ok (.istore 6, 2) := by decide +kernel
theorem dL_law_1083 : decode cL_law 1083 = .ok (.aload_n 2, 1) := by decide +kernel
theorem dL_law_1084 : decode cL_law 1084 = .ok (.aload_n 0, 1) := by decide +kernel
theorem dL_law_1085 : decode cL_law 1085 = .ok (.iload 5, 2) := by decide +kernel
theorem dL_law_1087 : decode cL_law 1087 = .ok (.iconst 1, 1) := by decide +kernel
theorem dL_law_1088 : decode cL_law 1088 = .ok (.iadd, 1) := by decide +kernel
theorem dL_law_1089 : decode cL_law 1089 = .ok (.iaload, 1) := by decide +kernel
theorem dL_law_1090 : decode cL_law 1090 = .ok (.invokevirtual 172, 3) := by decide +kernel
theorem dL_law_1093 : decode cL_law 1093 = .ok (.istore 7, 2) := by decide +kernel
theorem dL_law_1095 : decode cL_law 1095 = .ok (.aload_n 2, 1) := by decide +kernel
theorem dL_law_1096 : decode cL_law 1096 = .ok (.invokevirtual 123, 3) := by decide +kernel
theorem dL_law_1099 : decode cL_law 1099 = .ok (.iload 6, 2) := by decide +kernel
theorem dL_law_1101 : decode cL_law 1101 = .ok (.if_icmp .eq 5, 3) := by decide +kernel
theorem dL_law_1104 : decode cL_law 1104 = .ok (.iconst 0, 1) := by decide +kernel
theorem dL_law_1105 : decode cL_law 1105 = .ok (.ireturn, 1) := by decide +kernel
theorem dL_law_1106 : decode cL_law 1106 = .ok (.iload 6, 2) := by decide +kernel
theorem dL_law_1108 : decode cL_law 1108 = .ok (.ifCond .ne 15, 3) := by decide +kernel
theorem dL_law_1111 : decode cL_law 1111 = .ok (.aload_n 3, 1) := by decide +kernel
theorem dL_law_1112 : decode cL_law 1112 = .ok (.iconst 0, 1) := by decide +kernel
theorem dL_law_1113 : decode cL_law 1113 = .ok (.laload, 1) := by decide +kernel
theorem dL_law_1114 : decode cL_law 1114 = .ok (.iload 7, 2) := by decide +kernel
theorem dL_law_1116 : decode cL_law 1116 = .ok (.i2l, 1) := by decide +kernel
theorem dL_law_1117 : decode cL_law 1117 = .ok (.lcmp, 1) := by decide +kernel
theorem dL_law_1118 : decode cL_law 1118 = .ok (.ifCond .eq 5, 3) := by decide +kernel
theorem dL_law_1121 : decode cL_law 1121 = .ok (.iconst 0, 1) := by decide +kernel
theorem dL_law_1122 : decode cL_law 1122 = .ok (.ireturn, 1) := by decide +kernel
theorem dL_law_1123 : decode cL_law 1123 = .ok (.goto 897, 3) := by decide +kernel
theorem dL_law_1126 : decode cL_law 1126 = .ok (.aload_n 1, 1) := by decide +kernel
theorem dL_law_1127 : decode cL_law 1127 = .ok (.aload_n 0, 1) := by decide +kernel
theorem dL_law_1128 : decode cL_law 1128 = .ok (.iload 5, 2) := by decide +kernel
theorem dL_law_1130 : decode cL_law 1130 = .ok (.iconst 1, 1) := by decide +kernel
theorem dL_law_1131 : decode cL_law 1131 = .ok (.iadd, 1) := by decide +kernel
theorem dL_law_1132 : decode cL_law 1132 = .ok (.iaload, 1) := by decide +kernel
theorem dL_law_1133 : decode cL_law 1133 = .ok (.aload_n 3, 1) := by decide +kernel
theorem dL_law_1134 : decode cL_law 1134 = .ok (.invokestatic 173, 3) := by decide +kernel
theorem dL_law_1137 : decode cL_law 1137 = .ok (.istore 6, 2) := by decide +kernel
theorem dL_law_1139 : decode cL_law 1139 = .ok (.aload_n 2, 1) := by decide +kernel
theorem dL_law_1140 : decode cL_law 1140 = .ok (.aload_n 0, 1) := by decide +kernel
theorem dL_law_1141 : decode cL_law 1141 = .ok (.iload 5, 2) := by decide +kernel
theorem dL_law_1143 : decode cL_law 1143 = .ok (.iconst 1, 1) := by decide +kernel
theorem dL_law_1144 : decode cL_law 1144 = .ok (.iadd, 1) := by decide +kernel
theorem dL_law_1145 : decode cL_law 1145 = .ok (.iaload, 1) := by decide +kernel
theorem dL_law_1146 : decode cL_law 1146 = .ok (.invokevirtual 175, 3) := by decide +kernel
theorem dL_law_1149 : decode cL_law 1149 = .ok (.istore 7, 2) := by decide +kernel
theorem dL_law_1151 : decode cL_law 1151 = .ok (.aload_n 2, 1) := by decide +kernel
theorem dL_law_1152 : decode cL_law 1152 = .ok (.invokevirtual 123, 3) := by decide +kernel
theorem dL_law_1155 : decode cL_law 1155 = .ok (.iload 6, 2) := by decide +kernel
theorem dL_law_1157 : decode cL_law 1157 = .ok (.if_icmp .eq 5, 3) := by decide +kernel
theorem dL_law_1160 : decode cL_law 1160 = .ok (.iconst 0, 1) := by decide +kernel
theorem dL_law_1161 : decode cL_law 1161 = .ok (.ireturn, 1) := by decide +kernel
theorem dL_law_1162 : decode cL_law 1162 = .ok (.iload 6, 2) := by decide +kernel
theorem dL_law_1164 : decode cL_law 1164 = .ok (.ifCond .ne 15, 3) := by decide +kernel
theorem dL_law_1167 : decode cL_law 1167 = .ok (.aload_n 3, 1) := by decide +kernel
theorem dL_law_1168 : decode cL_law 1168 = .ok (.iconst 0, 1) := by decide +kernel
theorem dL_law_1169 : decode cL_law 1169 = .ok (.laload, 1) := by decide +kernel
theorem dL_law_1170 : decode cL_law 1170 = .ok (.iload 7, 2) := by decide +kernel
theorem dL_law_1172 : decode cL_law 1172 = .ok (.i2l, 1) := by decide +kernel
theorem dL_law_1173 : decode cL_law 1173 = .ok (.lcmp, 1) := by decide +kernel
theorem dL_law_1174 : decode cL_law 1174 = .ok (.ifCond .eq 5, 3) := by decide +kernel
theorem dL_law_1177 : decode cL_law 1177 = .ok (.iconst 0, 1) := by decide +kernel
theorem dL_law_1178 : decode cL_law 1178 = .ok (.ireturn, 1) := by decide +kernel
theorem dL_law_1179 : decode cL_law 1179 = .ok (.goto 841, 3) := by decide +kernel
theorem dL_law_1182 : decode cL_law 1182 = .ok (.aload_n 1, 1) := by decide +kernel
theorem dL_law_1183 : decode cL_law 1183 = .ok (.aload_n 0, 1) := by decide +kernel
theorem dL_law_1184 : decode cL_law 1184 = .ok (.iload 5, 2) := by decide +kernel
theorem dL_law_1186 : decode cL_law 1186 = .ok (.iconst 1, 1) := by decide +kernel
theorem dL_law_1187 : decode cL_law 1187 = .ok (.iadd, 1) := by decide +kernel
theorem dL_law_1188 : decode cL_law 1188 = .ok (.iaload, 1) := by decide +kernel
theorem dL_law_1189 : decode cL_law 1189 = .ok (.aload_n 3, 1) := by decide +kernel
theorem dL_law_1190 : decode cL_law 1190 = .ok (.invokestatic 176, 3) := by decide +kernel
theorem dL_law_1193 : decode cL_law 1193 = .ok (.istore 6, 2) := by decide +kernel
theorem dL_law_1195 : decode cL_law 1195 = .ok (.aload_n 2, 1) := by decide +kernel
theorem dL_law_1196 : decode cL_law 1196 = .ok (.aload_n 0, 1) := by decide +kernel
theorem dL_law_1197 : decode cL_law 1197 = .ok (.iload 5, 2) := by decide +kernel
theorem dL_law_1199 : decode cL_law 1199 = .ok (.iconst 1, 1) := by decide +kernel
theorem dL_law_1200 : decode cL_law 1200 = .ok (.iadd, 1) := by decide +kernel
theorem dL_law_1201 : decode cL_law 1201 = .ok (.iaload, 1) := by decide +kernel
theorem dL_law_1202 : decode cL_law 1202 = .ok (.invokevirtual 178, 3) := by decide +kernel
theorem dL_law_1205 : decode cL_law 1205 = .ok (.istore 7, 2) := by decide +kernel
theorem dL_law_1207 : decode cL_law 1207 = .ok (.aload_n 2, 1) := by decide +kernel
theorem dL_law_1208 : decode cL_law 1208 = .ok (.invokevirtual 123, 3) := by decide +kernel
theorem dL_law_1211 : decode cL_law 1211 = .ok (.iload 6, 2) := by decide +kernel
theorem dL_law_1213 : decode cL_law 1213 = .ok (.if_icmp .eq 5, 3) := by decide +kernel
theorem dL_law_1216 : decode cL_law 1216 = .ok (.iconst 0, 1) := by decide +kernel
theorem dL_law_1217 : decode cL_law 1217 = .ok (.ireturn, 1) := by decide +kernel
theorem dL_law_1218 : decode cL_law 1218 = .ok (.iload 6, 2) := by decide +kernel
theorem dL_law_1220 : decode cL_law 1220 = .ok (.ifCond .ne 15, 3) := by decide +kernel
theorem dL_law_1223 : decode cL_law 1223 = .ok (.aload_n 3, 1) := by decide +kernel
theorem dL_law_1224 : decode cL_law 1224 = .ok (.iconst 0, 1) := by decide +kernel
theorem dL_law_1225 : decode cL_law 1225 = .ok (.laload, 1) := by decide +kernel
theorem dL_law_1226 : decode cL_law 1226 = .ok (.iload 7, 2) := by decide +kernel
theorem dL_law_1228 : decode cL_law 1228 = .ok (.i2l, 1) := by decide +kernel
theorem dL_law_1229 : decode cL_law 1229 = .ok (.lcmp, 1) := by decide +kernel
theorem dL_law_1230 : decode cL_law 1230 = .ok (.ifCond .eq 5, 3) := by decide +kernel
theorem dL_law_1233 : decode cL_law 1233 = .ok (.iconst 0, 1) := by decide +kernel
theorem dL_law_1234 : decode cL_law 1234 = .ok (.ireturn, 1) := by decide +kernel
theorem dL_law_1235 : decode cL_law 1235 = .ok (.goto 785, 3) := by decide +kernel
theorem dL_law_1238 : decode cL_law 1238 = .ok (.aload_n 1, 1) := by decide +kernel
theorem dL_law_1239 : decode cL_law 1239 = .ok (.aload_n 0, 1) := by decide +kernel
theorem dL_law_1240 : decode cL_law 1240 = .ok (.iload 5, 2) := by decide +kernel
theorem dL_law_1242 : decode cL_law 1242 = .ok (.iconst 1, 1) := by decide +kernel
theorem dL_law_1243 : decode cL_law 1243 = .ok (.iadd, 1) := by decide +kernel
theorem dL_law_1244 : decode cL_law 1244 = .ok (.iaload, 1) := by decide +kernel
theorem dL_law_1245 : decode cL_law 1245 = .ok (.aload_n 0, 1) := by decide +kernel
theorem dL_law_1246 : decode cL_law 1246 = .ok (.iload 5, 2) := by decide +kernel
theorem dL_law_1248 : decode cL_law 1248 = .ok (.iconst 2, 1) := by decide +kernel
theorem dL_law_1249 : decode cL_law 1249 = .ok (.iadd, 1) := by decide +kernel
theorem dL_law_1250 : decode cL_law 1250 = .ok (.iaload, 1) := by decide +kernel
theorem dL_law_1251 : decode cL_law 1251 = .ok (.aload_n 3, 1) := by decide +kernel
theorem dL_law_1252 : decode cL_law 1252 = .ok (.invokestatic 179, 3) := by decide +kernel
theorem dL_law_1255 : decode cL_law 1255 = .ok (.istore 6, 2) := by decide +kernel
theorem dL_law_1257 : decode cL_law 1257 = .ok (.aload_n 2, 1) := by decide +kernel
theorem dL_law_1258 : decode cL_law 1258 = .ok (.aload_n 0, 1) := by decide +kernel
theorem dL_law_1259 : decode cL_law 1259 = .ok (.iload 5, 2) := by decide +kernel
theorem dL_law_1261 : decode cL_law 1261 = .ok (.iconst 1, 1) := by decide +kernel
theorem dL_law_1262 : decode cL_law 1262 = .ok (.iadd, 1) := by decide +kernel
theorem dL_law_1263 : decode cL_law 1263 = .ok (.iaload, 1) := by decide +kernel
theorem dL_law_1264 : decode cL_law 1264 = .ok (.aload_n 0, 1) := by decide +kernel
theorem dL_law_1265 : decode cL_law 1265 = .ok (.iload 5, 2) := by decide +kernel
theorem dL_law_1267 : decode cL_law 1267 = .ok (.iconst 2, 1) := by decide +kernel
theorem dL_law_1268 : decode cL_law 1268 = .ok (.iadd, 1) := by decide +kernel
theorem dL_law_1269 : decode cL_law 1269 = .ok (.iaload, 1) := by decide +kernel
theorem dL_law_1270 : decode cL_law 1270 = .ok (.invokevirtual 181, 3) := by decide +kernel
theorem dL_law_1273 : decode cL_law 1273 = .ok (.istore 7, 2) := by decide +kernel
theorem dL_law_1275 : decode cL_law 1275 = .ok (.aload_n 2, 1) := by decide +kernel
theorem dL_law_1276 : decode cL_law 1276 = .ok (.invokevirtual 123, 3) := by decide +kernel
theorem dL_law_1279 : decode cL_law 1279 = .ok (.iload 6, 2) := by decide +kernel
theorem dL_law_1281 : decode cL_law 1281 = .ok (.if_icmp .eq 5, 3) := by decide +kernel
theorem dL_law_1284 : decode cL_law 1284 = .ok (.iconst 0, 1) := by decide +kernel
theorem dL_law_1285 : decode cL_law 1285 = .ok (.ireturn, 1) := by decide +kernel
theorem dL_law_1286 : decode cL_law 1286 = .ok (.iload 6, 2) := by decide +kernel
theorem dL_law_1288 : decode cL_law 1288 = .ok (.ifCond .ne 15, 3) := by decide +kernel
theorem dL_law_1291 : decode cL_law 1291 = .ok (.aload_n 3, 1) := by decide +kernel
theorem dL_law_1292 : decode cL_law 1292 = .ok (.iconst 0, 1) := by decide +kernel
theorem dL_law_1293 : decode cL_law 1293 = .ok (.laload, 1) := by decide +kernel
theorem dL_law_1294 : decode cL_law 1294 = .ok (.iload 7, 2) := by decide +kernel
theorem dL_law_1296 : decode cL_law 1296 = .ok (.i2l, 1) := by decide +kernel
theorem dL_law_1297 : decode cL_law 1297 = .ok (.lcmp, 1) := by decide +kernel
theorem dL_law_1298 : decode cL_law 1298 = .ok (.ifCond .eq 5, 3) := by decide +kernel
theorem dL_law_1301 : decode cL_law 1301 = .ok (.iconst 0, 1) := by decide +kernel
theorem dL_law_1302 : decode cL_law 1302 = .ok (.ireturn, 1) := by decide +kernel
theorem dL_law_1303 : decode cL_law 1303 = .ok (.goto 717, 3) := by decide +kernel
theorem dL_law_1306 : decode cL_law 1306 = .ok (.aload_n 1, 1) := by decide +kernel
theorem dL_law_1307 : decode cL_law 1307 = .ok (.aload_n 0, 1) := by decide +kernel
theorem dL_law_1308 : decode cL_law 1308 = .ok (.iload 5, 2) := by decide +kernel
theorem dL_law_1310 : decode cL_law 1310 = .ok (.iconst 1, 1) := by decide +kernel
theorem dL_law_1311 : decode cL_law 1311 = .ok (.iadd, 1) := by decide +kernel
theorem dL_law_1312 : decode cL_law 1312 = .ok (.iaload, 1) := by decide +kernel
theorem dL_law_1313 : decode cL_law 1313 = .ok (.aload_n 0, 1) := by decide +kernel
theorem dL_law_1314 : decode cL_law 1314 = .ok (.iload 5, 2) := by decide +kernel
theorem dL_law_1316 : decode cL_law 1316 = .ok (.iconst 2, 1) := by decide +kernel
theorem dL_law_1317 : decode cL_law 1317 = .ok (.iadd, 1) := by decide +kernel
theorem dL_law_1318 : decode cL_law 1318 = .ok (.iaload, 1) := by decide +kernel
theorem dL_law_1319 : decode cL_law 1319 = .ok (.aload_n 3, 1) := by decide +kernel
theorem dL_law_1320 : decode cL_law 1320 = .ok (.invokestatic 182, 3) := by decide +kernel
theorem dL_law_1323 : decode cL_law 1323 = .ok (.istore 6, 2) := by decide +kernel
theorem dL_law_1325 : decode cL_law 1325 = .ok (.aload_n 2, 1) := by decide +kernel
theorem dL_law_1326 : decode cL_law 1326 = .ok (.aload_n 0, 1) := by decide +kernel
theorem dL_law_1327 : decode cL_law 1327 = .ok (.iload 5, 2) := by decide +kernel
theorem dL_law_1329 : decode cL_law 1329 = .ok (.iconst 1, 1) := by decide +kernel
theorem dL_law_1330 : decode cL_law 1330 = .ok (.iadd, 1) := by decide +kernel
theorem dL_law_1331 : decode cL_law 1331 = .ok (.iaload, 1) := by decide +kernel
theorem dL_law_1332 : decode cL_law 1332 = .ok (.aload_n 0, 1) := by decide +kernel
theorem dL_law_1333 : decode cL_law 1333 = .ok (.iload 5, 2) := by decide +kernel
theorem dL_law_1335 : decode cL_law 1335 = .ok (.iconst 2, 1) := by decide +kernel
theorem dL_law_1336 : decode cL_law 1336 = .ok (.iadd, 1) := by decide +kernel
theorem dL_law_1337 : decode cL_law 1337 = .ok (.iaload, 1) := by decide +kernel
theorem dL_law_1338 : decode cL_law 1338 = .ok (.invokevirtual 184, 3) := by decide +kernel
theorem dL_law_1341 : decode cL_law 1341 = .ok (.istore 7, 2) := by decide +kernel
theorem dL_law_1343 : decode cL_law 1343 = .ok (.aload_n 2, 1) := by decide +kernel
theorem dL_law_1344 : decode cL_law 1344 = .ok (.invokevirtual 123, 3) := by decide +kernel
theorem dL_law_1347 : decode cL_law 1347 = .ok (.iload 6, 2) := by decide +kernel
theorem dL_law_1349 : decode cL_law 1349 = .ok (.if_icmp .eq 5, 3) := by decide +kernel
theorem dL_law_1352 : decode cL_law 1352 = .ok (.iconst 0, 1) := by decide +kernel
theorem dL_law_1353 : decode cL_law 1353 = .ok (.ireturn, 1) := by decide +kernel
theorem dL_law_1354 : decode cL_law 1354 = .ok (.iload 6, 2) := by decide +kernel
theorem dL_law_1356 : decode cL_law 1356 = .ok (.ifCond .ne 15, 3) := by decide +kernel
theorem dL_law_1359 : decode cL_law 1359 = .ok (.aload_n 3, 1) := by decide +kernel
theorem dL_law_1360 : decode cL_law 1360 = .ok (.iconst 0, 1) := by decide +kernel
theorem dL_law_1361 : decode cL_law 1361 = .ok (.laload, 1) := by decide +kernel
theorem dL_law_1362 : decode cL_law 1362 = .ok (.iload 7, 2) := by decide +kernel
theorem dL_law_1364 : decode cL_law 1364 = .ok (.i2l, 1) := by decide +kernel
theorem dL_law_1365 : decode cL_law 1365 = .ok (.lcmp, 1) := by decide +kernel
theorem dL_law_1366 : decode cL_law 1366 = .ok (.ifCond .eq 5, 3) := by decide +kernel
theorem dL_law_1369 : decode cL_law 1369 = .ok (.iconst 0, 1) := by decide +kernel
theorem dL_law_1370 : decode cL_law 1370 = .ok (.ireturn, 1) := by decide +kernel
theorem dL_law_1371 : decode cL_law 1371 = .ok (.goto 649, 3) := by decide +kernel
theorem dL_law_1374 : decode cL_law 1374 = .ok (.aload_n 1, 1) := by decide +kernel
theorem dL_law_1375 : decode cL_law 1375 = .ok (.aload_n 0, 1) := by decide +kernel
theorem dL_law_1376 : decode cL_law 1376 = .ok (.iload 5, 2) := by decide +kernel
theorem dL_law_1378 : decode cL_law 1378 = .ok (.iconst 1, 1) := by decide +kernel
theorem dL_law_1379 : decode cL_law 1379 = .ok (.iadd, 1) := by decide +kernel
theorem dL_law_1380 : decode cL_law 1380 = .ok (.iaload, 1) := by decide +kernel
theorem dL_law_1381 : decode cL_law 1381 = .ok (.aload_n 0, 1) := by decide +kernel
theorem dL_law_1382 : decode cL_law 1382 = .ok (.iload 5, 2) := by decide +kernel
theorem dL_law_1384 : decode cL_law 1384 = .ok (.iconst 2, 1) := by decide +kernel
theorem dL_law_1385 : decode cL_law 1385 = .ok (.iadd, 1) := by decide +kernel
theorem dL_law_1386 : decode cL_law 1386 = .ok (.iaload, 1) := by decide +kernel
theorem dL_law_1387 : decode cL_law 1387 = .ok (.aload_n 3, 1) := by decide +kernel
theorem dL_law_1388 : decode cL_law 1388 = .ok (.invokestatic 185, 3) := by decide +kernel
theorem dL_law_1391 : decode cL_law 1391 = .ok (.istore 6, 2) := by decide +kernel
theorem dL_law_1393 : decode cL_law 1393 = .ok (.aload_n 2, 1) := by decide +kernel
theorem dL_law_1394 : decode cL_law 1394 = .ok (.aload_n 0, 1) := by decide +kernel
theorem dL_law_1395 : decode cL_law 1395 = .ok (.iload 5, 2) := by decide +kernel
theorem dL_law_1397 : decode cL_law 1397 = .ok (.iconst 1, 1) := by decide +kernel
theorem dL_law_1398 : decode cL_law 1398 = .ok (.iadd, 1) := by decide +kernel
theorem dL_law_1399 : decode cL_law 1399 = .ok (.iaload, 1) := by decide +kernel
theorem dL_law_1400 : decode cL_law 1400 = .ok (.aload_n 0, 1) := by decide +kernel
theorem dL_law_1401 : decode cL_law 1401 = .ok (.iload 5, 2) := by decide +kernel
theorem dL_law_1403 : decode cL_law 1403 = .ok (.iconst 2, 1) := by decide +kernel
theorem dL_law_1404 : decode cL_law 1404 = .ok (.iadd, 1) := by decide +kernel
theorem dL_law_1405 : decode cL_law 1405 = .ok (.iaload, 1) := by decide +kernel
theorem dL_law_1406 : decode cL_law 1406 = .ok (.invokevirtual 187, 3) := by decide +kernel
theorem dL_law_1409 : decode cL_law 1409 = .ok (.istore 7, 2) := by decide +kernel
theorem dL_law_1411 : decode cL_law 1411 = .ok (.aload_n 2, 1) := by decide +kernel
theorem dL_law_1412 : decode cL_law 1412 = .ok (.invokevirtual 123, 3) := by decide +kernel
theorem dL_law_1415 : decode cL_law 1415 = .ok (.iload 6, 2) := by decide +kernel
theorem dL_law_1417 : decode cL_law 1417 = .ok (.if_icmp .eq 5, 3) := by decide +kernel
theorem dL_law_1420 : decode cL_law 1420 = .ok (.iconst 0, 1) := by decide +kernel
theorem dL_law_1421 : decode cL_law 1421 = .ok (.ireturn, 1) := by decide +kernel
theorem dL_law_1422 : decode cL_law 1422 = .ok (.iload 6, 2) := by decide +kernel
theorem dL_law_1424 : decode cL_law 1424 = .ok (.ifCond .ne 15, 3) := by decide +kernel
theorem dL_law_1427 : decode cL_law 1427 = .ok (.aload_n 3, 1) := by decide +kernel
theorem dL_law_1428 : decode cL_law 1428 = .ok (.iconst 0, 1) := by decide +kernel
theorem dL_law_1429 : decode cL_law 1429 = .ok (.laload, 1) := by decide +kernel
theorem dL_law_1430 : decode cL_law 1430 = .ok (.iload 7, 2) := by decide +kernel
theorem dL_law_1432 : decode cL_law 1432 = .ok (.i2l, 1) := by decide +kernel
theorem dL_law_1433 : decode cL_law 1433 = .ok (.lcmp, 1) := by decide +kernel
theorem dL_law_1434 : decode cL_law 1434 = .ok (.ifCond .eq 5, 3) := by decide +kernel
theorem dL_law_1437 : decode cL_law 1437 = .ok (.iconst 0, 1) := by decide +kernel
theorem dL_law_1438 : decode cL_law 1438 = .ok (.ireturn, 1) := by decide +kernel
theorem dL_law_1439 : decode cL_law 1439 = .ok (.goto 581, 3) := by decide +kernel
theorem dL_law_1442 : decode cL_law 1442 = .ok (.aload_n 1, 1) := by decide +kernel
theorem dL_law_1443 : decode cL_law 1443 = .ok (.aload_n 0, 1) := by decide +kernel
theorem dL_law_1444 : decode cL_law 1444 = .ok (.iload 5, 2) := by decide +kernel
theorem dL_law_1446 : decode cL_law 1446 = .ok (.iconst 1, 1) := by decide +kernel
theorem dL_law_1447 : decode cL_law 1447 = .ok (.iadd, 1) := by decide +kernel
theorem dL_law_1448 : decode cL_law 1448 = .ok (.iaload, 1) := by decide +kernel
theorem dL_law_1449 : decode cL_law 1449 = .ok (.aload_n 0, 1) := by decide +kernel
theorem dL_law_1450 : decode cL_law 1450 = .ok (.iload 5, 2) := by decide +kernel
theorem dL_law_1452 : decode cL_law 1452 = .ok (.iconst 2, 1) := by decide +kernel
theorem dL_law_1453 : decode cL_law 1453 = .ok (.iadd, 1) := by decide +kernel
theorem dL_law_1454 : decode cL_law 1454 = .ok (.iaload, 1) := by decide +kernel
theorem dL_law_1455 : decode cL_law 1455 = .ok (.aload_n 3, 1) := by decide +kernel
theorem dL_law_1456 : decode cL_law 1456 = .ok (.invokestatic 188, 3) := by decide +kernel
theorem dL_law_1459 : decode cL_law 1459 = .ok (.istore 6, 2) := by decide +kernel
theorem dL_law_1461 : decode cL_law 1461 = .ok (.aload_n 2, 1) := by decide +kernel
theorem dL_law_1462 : decode cL_law 1462 = .ok (.aload_n 0, 1) := by decide +kernel
theorem dL_law_1463 : decode cL_law 1463 = .ok (.iload 5, 2) := by decide +kernel
theorem dL_law_1465 : decode cL_law 1465 = .ok (.iconst 1, 1) := by decide +kernel
theorem dL_law_1466 : decode cL_law 1466 = .ok (.iadd, 1) := by decide +kernel
theorem dL_law_1467 : decode cL_law 1467 = .ok (.iaload, 1) := by decide +kernel
theorem dL_law_1468 : decode cL_law 1468 = .ok (.aload_n 0, 1) := by decide +kernel
theorem dL_law_1469 : decode cL_law 1469 = .ok (.iload 5, 2) := by decide +kernel
theorem dL_law_1471 : decode cL_law 1471 = .ok (.iconst 2, 1) := by decide +kernel
theorem dL_law_1472 : decode cL_law 1472 = .ok (.iadd, 1) := by decide +kernel
theorem dL_law_1473 : decode cL_law 1473 = .ok (.iaload, 1) := by decide +kernel
theorem dL_law_1474 : decode cL_law 1474 = .ok (.invokevirtual 190, 3) := by decide +kernel
theorem dL_law_1477 : decode cL_law 1477 = .ok (.istore 7, 2) := by decide +kernel
theorem dL_law_1479 : decode cL_law 1479 = .ok (.aload_n 2, 1) := by decide +kernel
theorem dL_law_1480 : decode cL_law 1480 = .ok (.invokevirtual 123, 3) := by decide +kernel
theorem dL_law_1483 : decode cL_law 1483 = .ok (.iload 6, 2) := by decide +kernel
theorem dL_law_1485 : decode cL_law 1485 = .ok (.if_icmp .eq 5, 3) := by decide +kernel
theorem dL_law_1488 : decode cL_law 1488 = .ok (.iconst 0, 1) := by decide +kernel
theorem dL_law_1489 : decode cL_law 1489 = .ok (.ireturn, 1) := by decide +kernel
theorem dL_law_1490 : decode cL_law 1490 = .ok (.iload 6, 2) := by decide +kernel
theorem dL_law_1492 : decode cL_law 1492 = .ok (.ifCond .ne 15, 3) := by decide +kernel
theorem dL_law_1495 : decode cL_law 1495 = .ok (.aload_n 3, 1) := by decide +kernel
theorem dL_law_1496 : decode cL_law 1496 = .ok (.iconst 0, 1) := by decide +kernel
theorem dL_law_1497 : decode cL_law 1497 = .ok (.laload, 1) := by decide +kernel
theorem dL_law_1498 : decode cL_law 1498 = .ok (.iload 7, 2) := by decide +kernel
theorem dL_law_1500 : decode cL_law 1500 = .ok (.i2l, 1) := by decide +kernel
theorem dL_law_1501 : decode cL_law 1501 = .ok (.lcmp, 1) := by decide +kernel
theorem dL_law_1502 : decode cL_law 1502 = .ok (.ifCond .eq 5, 3) := by decide +kernel
theorem dL_law_1505 : decode cL_law 1505 = .ok (.iconst 0, 1) := by decide +kernel
theorem dL_law_1506 : decode cL_law 1506 = .ok (.ireturn, 1) := by decide +kernel
theorem dL_law_1507 : decode cL_law 1507 = .ok (.goto 513, 3) := by decide +kernel
theorem dL_law_1510 : decode cL_law 1510 = .ok (.aload_n 1, 1) := by decide +kernel
theorem dL_law_1511 : decode cL_law 1511 = .ok (.aload_n 0, 1) := by decide +kernel
theorem dL_law_1512 : decode cL_law 1512 = .ok (.iload 5, 2) := by decide +kernel
theorem dL_law_1514 : decode cL_law 1514 = .ok (.iconst 1, 1) := by decide +kernel
theorem dL_law_1515 : decode cL_law 1515 = .ok (.iadd, 1) := by decide +kernel
theorem dL_law_1516 : decode cL_law 1516 = .ok (.iaload, 1) := by decide +kernel
theorem dL_law_1517 : decode cL_law 1517 = .ok (.aload_n 3, 1) := by decide +kernel
theorem dL_law_1518 : decode cL_law 1518 = .ok (.invokestatic 191, 3) := by decide +kernel
theorem dL_law_1521 : decode cL_law 1521 = .ok (.istore 6, 2) := by decide +kernel
theorem dL_law_1523 : decode cL_law 1523 = .ok (.aload_n 2, 1) := by decide +kernel
theorem dL_law_1524 : decode cL_law 1524 = .ok (.aload_n 0, 1) := by decide +kernel
theorem dL_law_1525 : decode cL_law 1525 = .ok (.iload 5, 2) := by decide +kernel
theorem dL_law_1527 : decode cL_law 1527 = .ok (.iconst 1, 1) := by decide +kernel
theorem dL_law_1528 : decode cL_law 1528 = .ok (.iadd, 1) := by decide +kernel
theorem dL_law_1529 : decode cL_law 1529 = .ok (.iaload, 1) := by decide +kernel
theorem dL_law_1530 : decode cL_law 1530 = .ok (.invokevirtual 193, 3) := by decide +kernel
theorem dL_law_1533 : decode cL_law 1533 = .ok (.istore 7, 2) := by decide +kernel
theorem dL_law_1535 : decode cL_law 1535 = .ok (.aload_n 2, 1) := by decide +kernel
theorem dL_law_1536 : decode cL_law 1536 = .ok (.invokevirtual 123, 3) := by decide +kernel
theorem dL_law_1539 : decode cL_law 1539 = .ok (.iload 6, 2) := by decide +kernel
theorem dL_law_1541 : decode cL_law 1541 = .ok (.if_icmp .eq 5, 3) := by decide +kernel
theorem dL_law_1544 : decode cL_law 1544 = .ok (.iconst 0, 1) := by decide +kernel
theorem dL_law_1545 : decode cL_law 1545 = .ok (.ireturn, 1) := by decide +kernel
theorem dL_law_1546 : decode cL_law 1546 = .ok (.iload 6, 2) := by decide +kernel
theorem dL_law_1548 : decode cL_law 1548 = .ok (.ifCond .ne 15, 3) := by decide +kernel
theorem dL_law_1551 : decode cL_law 1551 = .ok (.aload_n 3, 1) := by decide +kernel
theorem dL_law_1552 : decode cL_law 1552 = .ok (.iconst 0, 1) := by decide +kernel
theorem dL_law_1553 : decode cL_law 1553 = .ok (.laload, 1) := by decide +kernel
theorem dL_law_1554 : decode cL_law 1554 = .ok (.iload 7, 2) := by decide +kernel
theorem dL_law_1556 : decode cL_law 1556 = .ok (.i2l, 1) := by decide +kernel
theorem dL_law_1557 : decode cL_law 1557 = .ok (.lcmp, 1) := by decide +kernel
theorem dL_law_1558 : decode cL_law 1558 = .ok (.ifCond .eq 5, 3) := by decide +kernel
theorem dL_law_1561 : decode cL_law 1561 = .ok (.iconst 0, 1) := by decide +kernel
theorem dL_law_1562 : decode cL_law 1562 = .ok (.ireturn, 1) := by decide +kernel
theorem dL_law_1563 : decode cL_law 1563 = .ok (.goto 457, 3) := by decide +kernel
theorem dL_law_1566 : decode cL_law 1566 = .ok (.aload_n 1, 1) := by decide +kernel
theorem dL_law_1567 : decode cL_law 1567 = .ok (.aload_n 0, 1) := by decide +kernel
theorem dL_law_1568 : decode cL_law 1568 = .ok (.iload 5, 2) := by decide +kernel
theorem dL_law_1570 : decode cL_law 1570 = .ok (.iconst 1, 1) := by decide +kernel
theorem dL_law_1571 : decode cL_law 1571 = .ok (.iadd, 1) := by decide +kernel
theorem dL_law_1572 : decode cL_law 1572 = .ok (.iaload, 1) := by decide +kernel
theorem dL_law_1573 : decode cL_law 1573 = .ok (.aload_n 3, 1) := by decide +kernel
theorem dL_law_1574 : decode cL_law 1574 = .ok (.invokestatic 194, 3) := by decide +kernel
theorem dL_law_1577 : decode cL_law 1577 = .ok (.istore 6, 2) := by decide +kernel
theorem dL_law_1579 : decode cL_law 1579 = .ok (.aload_n 2, 1) := by decide +kernel
theorem dL_law_1580 : decode cL_law 1580 = .ok (.aload_n 0, 1) := by decide +kernel
theorem dL_law_1581 : decode cL_law 1581 = .ok (.iload 5, 2) := by decide +kernel
theorem dL_law_1583 : decode cL_law 1583 = .ok (.iconst 1, 1) := by decide +kernel
theorem dL_law_1584 : decode cL_law 1584 = .ok (.iadd, 1) := by decide +kernel
theorem dL_law_1585 : decode cL_law 1585 = .ok (.iaload, 1) := by decide +kernel
theorem dL_law_1586 : decode cL_law 1586 = .ok (.invokevirtual 196, 3) := by decide +kernel
theorem dL_law_1589 : decode cL_law 1589 = .ok (.istore 7, 2) := by decide +kernel
theorem dL_law_1591 : decode cL_law 1591 = .ok (.aload_n 2, 1) := by decide +kernel
theorem dL_law_1592 : decode cL_law 1592 = .ok (.invokevirtual 123, 3) := by decide +kernel
theorem dL_law_1595 : decode cL_law 1595 = .ok (.iload 6, 2) := by decide +kernel
theorem dL_law_1597 : decode cL_law 1597 = .ok (.if_icmp .eq 5, 3) := by decide +kernel
theorem dL_law_1600 : decode cL_law 1600 = .ok (.iconst 0, 1) := by decide +kernel
theorem dL_law_1601 : decode cL_law 1601 = .ok (.ireturn, 1) := by decide +kernel
theorem dL_law_1602 : decode cL_law 1602 = .ok (.iload 6, 2) := by decide +kernel
theorem dL_law_1604 : decode cL_law 1604 = .ok (.ifCond .ne 15, 3) := by decide +kernel
theorem dL_law_1607 : decode cL_law 1607 = .ok (.aload_n 3, 1) := by decide +kernel
theorem dL_law_1608 : decode cL_law 1608 = .ok (.iconst 0, 1) := by decide +kernel
theorem dL_law_1609 : decode cL_law 1609 = .ok (.laload, 1) := by decide +kernel
theorem dL_law_1610 : decode cL_law 1610 = .ok (.iload 7, 2) := by decide +kernel
theorem dL_law_1612 : decode cL_law 1612 = .ok (.i2l, 1) := by decide +kernel
theorem dL_law_1613 : decode cL_law 1613 = .ok (.lcmp, 1) := by decide +kernel
theorem dL_law_1614 : decode cL_law 1614 = .ok (.ifCond .eq 5, 3) := by decide +kernel
theorem dL_law_1617 : decode cL_law 1617 = .ok (.iconst 0, 1) := by decide +kernel
theorem dL_law_1618 : decode cL_law 1618 = .ok (.ireturn, 1) := by decide +kernel
theorem dL_law_1619 : decode cL_law 1619 = .ok (.goto 401, 3) := by decide +kernel
theorem dL_law_1622 : decode cL_law 1622 = .ok (.aload_n 1, 1) := by decide +kernel
theorem dL_law_1623 : decode cL_law 1623 = .ok (.aload_n 0, 1) := by decide +kernel
theorem dL_law_1624 : decode cL_law 1624 = .ok (.iload 5, 2) := by decide +kernel
theorem dL_law_1626 : decode cL_law 1626 = .ok (.iconst 1, 1) := by decide +kernel
theorem dL_law_1627 : decode cL_law 1627 = .ok (.iadd, 1) := by decide +kernel
theorem dL_law_1628 : decode cL_law 1628 = .ok (.iaload, 1) := by decide +kernel
theorem dL_law_1629 : decode cL_law 1629 = .ok (.aload_n 3, 1) := by decide +kernel
theorem dL_law_1630 : decode cL_law 1630 = .ok (.invokestatic 197, 3) := by decide +kernel
theorem dL_law_1633 : decode cL_law 1633 = .ok (.istore 6, 2) := by decide +kernel
theorem dL_law_1635 : decode cL_law 1635 = .ok (.aload_n 2, 1) := by decide +kernel
theorem dL_law_1636 : decode cL_law 1636 = .ok (.aload_n 0, 1) := by decide +kernel
theorem dL_law_1637 : decode cL_law 1637 = .ok (.iload 5, 2) := by decide +kernel
theorem dL_law_1639 : decode cL_law 1639 = .ok (.iconst 1, 1) := by decide +kernel
theorem dL_law_1640 : decode cL_law 1640 = .ok (.iadd, 1) := by decide +kernel
theorem dL_law_1641 : decode cL_law 1641 = .ok (.iaload, 1) := by decide +kernel
theorem dL_law_1642 : decode cL_law 1642 = .ok (.invokevirtual 199, 3) := by decide +kernel
theorem dL_law_1645 : decode cL_law 1645 = .ok (.istore 7, 2) := by decide +kernel
theorem dL_law_1647 : decode cL_law 1647 = .ok (.aload_n 2, 1) := by decide +kernel
theorem dL_law_1648 : decode cL_law 1648 = .ok (.invokevirtual 123, 3) := by decide +kernel
theorem dL_law_1651 : decode cL_law 1651 = .ok (.iload 6, 2) := by decide +kernel
theorem dL_law_1653 : decode cL_law 1653 = .ok (.if_icmp .eq 5, 3) := by decide +kernel
theorem dL_law_1656 : decode cL_law 1656 = .ok (.iconst 0, 1) := by decide +kernel
theorem dL_law_1657 : decode cL_law 1657 = .ok (.ireturn, 1) := by decide +kernel
theorem dL_law_1658 : decode cL_law 1658 = .ok (.iload 6, 2) := by decide +kernel
theorem dL_law_1660 : decode cL_law 1660 = .ok (.ifCond .ne 15, 3) := by decide +kernel
theorem dL_law_1663 : decode cL_law 1663 = .ok (.aload_n 3, 1) := by decide +kernel
theorem dL_law_1664 : decode cL_law 1664 = .ok (.iconst 0, 1) := by decide +kernel
theorem dL_law_1665 : decode cL_law 1665 = .ok (.laload, 1) := by decide +kernel
theorem dL_law_1666 : decode cL_law 1666 = .ok (.iload 7, 2) := by decide +kernel
theorem dL_law_1668 : decode cL_law 1668 = .ok (.i2l, 1) := by decide +kernel
theorem dL_law_1669 : decode cL_law 1669 = .ok (.lcmp, 1) := by decide +kernel
theorem dL_law_1670 : decode cL_law 1670 = .ok (.ifCond .eq 5, 3) := by decide +kernel
theorem dL_law_1673 : decode cL_law 1673 = .ok (.iconst 0, 1) := by decide +kernel
theorem dL_law_1674 : decode cL_law 1674 = .ok (.ireturn, 1) := by decide +kernel
theorem dL_law_1675 : decode cL_law 1675 = .ok (.goto 345, 3) := by decide +kernel
theorem dL_law_1678 : decode cL_law 1678 = .ok (.aload_n 1, 1) := by decide +kernel
theorem dL_law_1679 : decode cL_law 1679 = .ok (.aload_n 0, 1) := by decide +kernel
theorem dL_law_1680 : decode cL_law 1680 = .ok (.iload 5, 2) := by decide +kernel
theorem dL_law_1682 : decode cL_law 1682 = .ok (.iconst 1, 1) := by decide +kernel
theorem dL_law_1683 : decode cL_law 1683 = .ok (.iadd, 1) := by decide +kernel
theorem dL_law_1684 : decode cL_law 1684 = .ok (.iaload, 1) := by decide +kernel
theorem dL_law_1685 : decode cL_law 1685 = .ok (.aload_n 3, 1) := by decide +kernel
theorem dL_law_1686 : decode cL_law 1686 = .ok (.invokestatic 200, 3) := by decide +kernel
theorem dL_law_1689 : decode cL_law 1689 = .ok (.istore 6, 2) := by decide +kernel
theorem dL_law_1691 : decode cL_law 1691 = .ok (.aload_n 2, 1) := by decide +kernel
theorem dL_law_1692 : decode cL_law 1692 = .ok (.aload_n 0, 1) := by decide +kernel
theorem dL_law_1693 : decode cL_law 1693 = .ok (.iload 5, 2) := by decide +kernel
theorem dL_law_1695 : decode cL_law 1695 = .ok (.iconst 1, 1) := by decide +kernel
theorem dL_law_1696 : decode cL_law 1696 = .ok (.iadd, 1) := by decide +kernel
theorem dL_law_1697 : decode cL_law 1697 = .ok (.iaload, 1) := by decide +kernel
theorem dL_law_1698 : decode cL_law 1698 = .ok (.invokevirtual 202, 3) := by decide +kernel
theorem dL_law_1701 : decode cL_law 1701 = .ok (.istore 7, 2) := by decide +kernel
theorem dL_law_1703 : decode cL_law 1703 = .ok (.aload_n 2, 1) := by decide +kernel
theorem dL_law_1704 : decode cL_law 1704 = .ok (.invokevirtual 123, 3) := by decide +kernel
theorem dL_law_1707 : decode cL_law 1707 = .ok (.iload 6, 2) := by decide +kernel
theorem dL_law_1709 : decode cL_law 1709 = .ok (.if_icmp .eq 5, 3) := by decide +kernel
theorem dL_law_1712 : decode cL_law 1712 = .ok (.iconst 0, 1) := by decide +kernel
theorem dL_law_1713 : decode cL_law 1713 = .ok (.ireturn, 1) := by decide +kernel
theorem dL_law_1714 : decode cL_law 1714 = .ok (.iload 6, 2) := by decide +kernel
theorem dL_law_1716 : decode cL_law 1716 = .ok (.ifCond .ne 15, 3) := by decide +kernel
theorem dL_law_1719 : decode cL_law 1719 = .ok (.aload_n 3, 1) := by decide +kernel
theorem dL_law_1720 : decode cL_law 1720 = .ok (.iconst 0, 1) := by decide +kernel
theorem dL_law_1721 : decode cL_law 1721 = .ok (.laload, 1) := by decide +kernel
theorem dL_law_1722 : decode cL_law 1722 = .ok (.iload 7, 2) := by decide +kernel
theorem dL_law_1724 : decode cL_law 1724 = .ok (.i2l, 1) := by decide +kernel
theorem dL_law_1725 : decode cL_law 1725 = .ok (.lcmp, 1) := by decide +kernel
theorem dL_law_1726 : decode cL_law 1726 = .ok (.ifCond .eq 5, 3) := by decide +kernel
theorem dL_law_1729 : decode cL_law 1729 = .ok (.iconst 0, 1) := by decide +kernel
theorem dL_law_1730 : decode cL_law 1730 = .ok (.ireturn, 1) := by decide +kernel
theorem dL_law_1731 : decode cL_law 1731 = .ok (.goto 289, 3) := by decide +kernel
theorem dL_law_1734 : decode cL_law 1734 = .ok (.aload_n 1, 1) := by decide +kernel
theorem dL_law_1735 : decode cL_law 1735 = .ok (.aload_n 0, 1) := by decide +kernel
theorem dL_law_1736 : decode cL_law 1736 = .ok (.iload 5, 2) := by decide +kernel
theorem dL_law_1738 : decode cL_law 1738 = .ok (.iconst 1, 1) := by decide +kernel
theorem dL_law_1739 : decode cL_law 1739 = .ok (.iadd, 1) := by decide +kernel
theorem dL_law_1740 : decode cL_law 1740 = .ok (.iaload, 1) := by decide +kernel
theorem dL_law_1741 : decode cL_law 1741 = .ok (.aload_n 3, 1) := by decide +kernel
theorem dL_law_1742 : decode cL_law 1742 = .ok (.invokestatic 203, 3) := by decide +kernel
theorem dL_law_1745 : decode cL_law 1745 = .ok (.istore 6, 2) := by decide +kernel
theorem dL_law_1747 : decode cL_law 1747 = .ok (.aload_n 2, 1) := by decide +kernel
theorem dL_law_1748 : decode cL_law 1748 = .ok (.aload_n 0, 1) := by decide +kernel
theorem dL_law_1749 : decode cL_law 1749 = .ok (.iload 5, 2) := by decide +kernel
theorem dL_law_1751 : decode cL_law 1751 = .ok (.iconst 1, 1) := by decide +kernel
theorem dL_law_1752 : decode cL_law 1752 = .ok (.iadd, 1) := by decide +kernel
theorem dL_law_1753 : decode cL_law 1753 = .ok (.iaload, 1) := by decide +kernel
theorem dL_law_1754 : decode cL_law 1754 = .ok (.invokevirtual 205, 3) := by decide +kernel
theorem dL_law_1757 : decode cL_law 1757 = .ok (.istore 7, 2) := by decide +kernel
theorem dL_law_1759 : decode cL_law 1759 = .ok (.aload_n 2, 1) := by decide +kernel
theorem dL_law_1760 : decode cL_law 1760 = .ok (.invokevirtual 123, 3) := by decide +kernel
theorem dL_law_1763 : decode cL_law 1763 = .ok (.iload 6, 2) := by decide +kernel
theorem dL_law_1765 : decode cL_law 1765 = .ok (.if_icmp .eq 5, 3) := by decide +kernel
theorem dL_law_1768 : decode cL_law 1768 = .ok (.iconst 0, 1) := by decide +kernel
theorem dL_law_1769 : decode cL_law 1769 = .ok (.ireturn, 1) := by decide +kernel
theorem dL_law_1770 : decode cL_law 1770 = .ok (.iload 6, 2) := by decide +kernel
theorem dL_law_1772 : decode cL_law 1772 = .ok (.ifCond .ne 15, 3) := by decide +kernel
theorem dL_law_1775 : decode cL_law 1775 = .ok (.aload_n 3, 1) := by decide +kernel
theorem dL_law_1776 : decode cL_law 1776 = .ok (.iconst 0, 1) := by decide +kernel
theorem dL_law_1777 : decode cL_law 1777 = .ok (.laload, 1) := by decide +kernel
theorem dL_law_1778 : decode cL_law 1778 = .ok (.iload 7, 2) := by decide +kernel
theorem dL_law_1780 : decode cL_law 1780 = .ok (.i2l, 1) := by decide +kernel
theorem dL_law_1781 : decode cL_law 1781 = .ok (.lcmp, 1) := by decide +kernel
theorem dL_law_1782 : decode cL_law 1782 = .ok (.ifCond .eq 5, 3) := by decide +kernel
theorem dL_law_1785 : decode cL_law 1785 = .ok (.iconst 0, 1) := by decide +kernel
theorem dL_law_1786 : decode cL_law 1786 = .ok (.ireturn, 1) := by decide +kernel
theorem dL_law_1787 : decode cL_law 1787 = .ok (.goto 233, 3) := by decide +kernel
theorem dL_law_1790 : decode cL_law 1790 = .ok (.aload_n 1, 1) := by decide +kernel
theorem dL_law_1791 : decode cL_law 1791 = .ok (.aload_n 0, 1) := by decide +kernel
theorem dL_law_1792 : decode cL_law 1792 = .ok (.iload 5, 2) := by decide +kernel
theorem dL_law_1794 : decode cL_law 1794 = .ok (.iconst 1, 1) := by decide +kernel
theorem dL_law_1795 : decode cL_law 1795 = .ok (.iadd, 1) := by decide +kernel
theorem dL_law_1796 : decode cL_law 1796 = .ok (.iaload, 1) := by decide +kernel
theorem dL_law_1797 : decode cL_law 1797 = .ok (.aload_n 0, 1) := by decide +kernel
theorem dL_law_1798 : decode cL_law 1798 = .ok (.iload 5, 2) := by decide +kernel
theorem dL_law_1800 : decode cL_law 1800 = .ok (.iconst 2, 1) := by decide +kernel
theorem dL_law_1801 : decode cL_law 1801 = .ok (.iadd, 1) := by decide +kernel
theorem dL_law_1802 : decode cL_law 1802 = .ok (.iaload, 1) := by decide +kernel
theorem dL_law_1803 : decode cL_law 1803 = .ok (.aload_n 3, 1) := by decide +kernel
theorem dL_law_1804 : decode cL_law 1804 = .ok (.invokestatic 206, 3) := by decide +kernel
theorem dL_law_1807 : decode cL_law 1807 = .ok (.istore 6, 2) := by decide +kernel
theorem dL_law_1809 : decode cL_law 1809 = .ok (.aload_n 2, 1) := by decide +kernel
theorem dL_law_1810 : decode cL_law 1810 = .ok (.aload_n 0, 1) := by decide +kernel
theorem dL_law_1811 : decode cL_law 1811 = .ok (.iload 5, 2) := by decide +kernel
theorem dL_law_1813 : decode cL_law 1813 = .ok (.iconst 1, 1) := by decide +kernel
theorem dL_law_1814 : decode cL_law 1814 = .ok (.iadd, 1) := by decide +kernel
theorem dL_law_1815 : decode cL_law 1815 = .ok (.iaload, 1) := by decide +kernel
theorem dL_law_1816 : decode cL_law 1816 = .ok (.aload_n 0, 1) := by decide +kernel
theorem dL_law_1817 : decode cL_law 1817 = .ok (.iload 5, 2) := by decide +kernel
theorem dL_law_1819 : decode cL_law 1819 = .ok (.iconst 2, 1) := by decide +kernel
theorem dL_law_1820 : decode cL_law 1820 = .ok (.iadd, 1) := by decide +kernel
theorem dL_law_1821 : decode cL_law 1821 = .ok (.iaload, 1) := by decide +kernel
theorem dL_law_1822 : decode cL_law 1822 = .ok (.invokevirtual 208, 3) := by decide +kernel
theorem dL_law_1825 : decode cL_law 1825 = .ok (.istore 7, 2) := by decide +kernel
theorem dL_law_1827 : decode cL_law 1827 = .ok (.aload_n 2, 1) := by decide +kernel
theorem dL_law_1828 : decode cL_law 1828 = .ok (.invokevirtual 123, 3) := by decide +kernel
theorem dL_law_1831 : decode cL_law 1831 = .ok (.iload 6, 2) := by decide +kernel
theorem dL_law_1833 : decode cL_law 1833 = .ok (.if_icmp .eq 5, 3) := by decide +kernel
theorem dL_law_1836 : decode cL_law 1836 = .ok (.iconst 0, 1) := by decide +kernel
theorem dL_law_1837 : decode cL_law 1837 = .ok (.ireturn, 1) := by decide +kernel
theorem dL_law_1838 : decode cL_law 1838 = .ok (.iload 6, 2) := by decide +kernel
theorem dL_law_1840 : decode cL_law 1840 = .ok (.ifCond .ne 15, 3) := by decide +kernel
theorem dL_law_1843 : decode cL_law 1843 = .ok (.aload_n 3, 1) := by decide +kernel
theorem dL_law_1844 : decode cL_law 1844 = .ok (.iconst 0, 1) := by decide +kernel
theorem dL_law_1845 : decode cL_law 1845 = .ok (.laload, 1) := by decide +kernel
theorem dL_law_1846 : decode cL_law 1846 = .ok (.iload 7, 2) := by decide +kernel
theorem dL_law_1848 : decode cL_law 1848 = .ok (.i2l, 1) := by decide +kernel
theorem dL_law_1849 : decode cL_law 1849 = .ok (.lcmp, 1) := by decide +kernel
theorem dL_law_1850 : decode cL_law 1850 = .ok (.ifCond .eq 5, 3) := by decide +kernel
theorem dL_law_1853 : decode cL_law 1853 = .ok (.iconst 0, 1) := by decide +kernel
theorem dL_law_1854 : decode cL_law 1854 = .ok (.ireturn, 1) := by decide +kernel
theorem dL_law_1855 : decode cL_law 1855 = .ok (.goto 165, 3) := by decide +kernel
theorem dL_law_1858 : decode cL_law 1858 = .ok (.aload_n 1, 1) := by decide +kernel
theorem dL_law_1859 : decode cL_law 1859 = .ok (.aload_n 0, 1) := by decide +kernel
theorem dL_law_1860 : decode cL_law 1860 = .ok (.iload 5, 2) := by decide +kernel
theorem dL_law_1862 : decode cL_law 1862 = .ok (.iconst 1, 1) := by decide +kernel
theorem dL_law_1863 : decode cL_law 1863 = .ok (.iadd, 1) := by decide +kernel
theorem dL_law_1864 : decode cL_law 1864 = .ok (.iaload, 1) := by decide +kernel
theorem dL_law_1865 : decode cL_law 1865 = .ok (.aload_n 3, 1) := by decide +kernel
theorem dL_law_1866 : decode cL_law 1866 = .ok (.invokestatic 209, 3) := by decide +kernel
theorem dL_law_1869 : decode cL_law 1869 = .ok (.istore 6, 2) := by decide +kernel
theorem dL_law_1871 : decode cL_law 1871 = .ok (.aload_n 2, 1) := by decide +kernel
theorem dL_law_1872 : decode cL_law 1872 = .ok (.aload_n 0, 1) := by decide +kernel
theorem dL_law_1873 : decode cL_law 1873 = .ok (.iload 5, 2) := by decide +kernel
theorem dL_law_1875 : decode cL_law 1875 = .ok (.iconst 1, 1) := by decide +kernel
theorem dL_law_1876 : decode cL_law 1876 = .ok (.iadd, 1) := by decide +kernel
theorem dL_law_1877 : decode cL_law 1877 = .ok (.iaload, 1) := by decide +kernel
theorem dL_law_1878 : decode cL_law 1878 = .ok (.invokevirtual 211, 3) := by decide +kernel
theorem dL_law_1881 : decode cL_law 1881 = .ok (.istore 7, 2) := by decide +kernel
theorem dL_law_1883 : decode cL_law 1883 = .ok (.aload_n 2, 1) := by decide +kernel
theorem dL_law_1884 : decode cL_law 1884 = .ok (.invokevirtual 123, 3) := by decide +kernel
theorem dL_law_1887 : decode cL_law 1887 = .ok (.iload 6, 2) := by decide +kernel
theorem dL_law_1889 : decode cL_law 1889 = .ok (.if_icmp .eq 5, 3) := by decide +kernel
theorem dL_law_1892 : decode cL_law 1892 = .ok (.iconst 0, 1) := by decide +kernel
theorem dL_law_1893 : decode cL_law 1893 = .ok (.ireturn, 1) := by decide +kernel
theorem dL_law_1894 : decode cL_law 1894 = .ok (.iload 6, 2) := by decide +kernel
theorem dL_law_1896 : decode cL_law 1896 = .ok (.ifCond .ne 15, 3) := by decide +kernel
theorem dL_law_1899 : decode cL_law 1899 = .ok (.aload_n 3, 1) := by decide +kernel
theorem dL_law_1900 : decode cL_law 1900 = .ok (.iconst 0, 1) := by decide +kernel
theorem dL_law_1901 : decode cL_law 1901 = .ok (.laload, 1) := by decide +kernel
theorem dL_law_1902 : decode cL_law 1902 = .ok (.iload 7, 2) := by decide +kernel
theorem dL_law_1904 : decode cL_law 1904 = .ok (.i2l, 1) := by decide +kernel
theorem dL_law_1905 : decode cL_law 1905 = .ok (.lcmp, 1) := by decide +kernel
theorem dL_law_1906 : decode cL_law 1906 = .ok (.ifCond .eq 5, 3) := by decide +kernel
theorem dL_law_1909 : decode cL_law 1909 = .ok (.iconst 0, 1) := by decide +kernel
theorem dL_law_1910 : decode cL_law 1910 = .ok (.ireturn, 1) := by decide +kernel
theorem dL_law_1911 : decode cL_law 1911 = .ok (.goto 109, 3) := by decide +kernel
theorem dL_law_1914 : decode cL_law 1914 = .ok (.aload_n 1, 1) := by decide +kernel
theorem dL_law_1915 : decode cL_law 1915 = .ok (.invokevirtual 212, 3) := by decide +kernel
theorem dL_law_1918 : decode cL_law 1918 = .ok (.aload_n 2, 1) := by decide +kernel
theorem dL_law_1919 : decode cL_law 1919 = .ok (.invokevirtual 215, 3) := by decide +kernel
theorem dL_law_1922 : decode cL_law 1922 = .ok (.if_icmp .eq 98, 3) := by decide +kernel
theorem dL_law_1925 : decode cL_law 1925 = .ok (.iconst 0, 1) := by decide +kernel
theorem dL_law_1926 : decode cL_law 1926 = .ok (.ireturn, 1) := by decide +kernel
theorem dL_law_1927 : decode cL_law 1927 = .ok (.aload_n 1, 1) := by decide +kernel
theorem dL_law_1928 : decode cL_law 1928 = .ok (.invokevirtual 216, 3) := by decide +kernel
theorem dL_law_1931 : decode cL_law 1931 = .ok (.aload_n 2, 1) := by decide +kernel
theorem dL_law_1932 : decode cL_law 1932 = .ok (.invokevirtual 219, 3) := by decide +kernel
theorem dL_law_1935 : decode cL_law 1935 = .ok (.if_icmp .eq 85, 3) := by decide +kernel
theorem dL_law_1938 : decode cL_law 1938 = .ok (.iconst 0, 1) := by decide +kernel
theorem dL_law_1939 : decode cL_law 1939 = .ok (.ireturn, 1) := by decide +kernel
theorem dL_law_1940 : decode cL_law 1940 = .ok (.aload_n 1, 1) := by decide +kernel
theorem dL_law_1941 : decode cL_law 1941 = .ok (.invokevirtual 220, 3) := by decide +kernel
theorem dL_law_1944 : decode cL_law 1944 = .ok (.aload_n 2, 1) := by decide +kernel
theorem dL_law_1945 : decode cL_law 1945 = .ok (.invokevirtual 224, 3) := by decide +kernel
theorem dL_law_1948 : decode cL_law 1948 = .ok (.lcmp, 1) := by decide +kernel
theorem dL_law_1949 : decode cL_law 1949 = .ok (.ifCond .eq 71, 3) := by decide +kernel
theorem dL_law_1952 : decode cL_law 1952 = .ok (.iconst 0, 1) := by decide +kernel
theorem dL_law_1953 : decode cL_law 1953 = .ok (.ireturn, 1) := by decide +kernel
theorem dL_law_1954 : decode cL_law 1954 = .ok (.aload_n 1, 1) := by decide +kernel
theorem dL_law_1955 : decode cL_law 1955 = .ok (.aload 4, 2) := by decide +kernel
theorem dL_law_1957 : decode cL_law 1957 = .ok (.invokestatic 225, 3) := by decide +kernel
theorem dL_law_1960 : decode cL_law 1960 = .ok (.istore 6, 2) := by decide +kernel
theorem dL_law_1962 : decode cL_law 1962 = .ok (.aload_n 2, 1) := by decide +kernel
theorem dL_law_1963 : decode cL_law 1963 = .ok (.invokevirtual 228, 3) := by decide +kernel
theorem dL_law_1966 : decode cL_law 1966 = .ok (.fstore 7, 2) := by decide +kernel
theorem dL_law_1968 : decode cL_law 1968 = .ok (.aload_n 2, 1) := by decide +kernel
theorem dL_law_1969 : decode cL_law 1969 = .ok (.invokevirtual 123, 3) := by decide +kernel
theorem dL_law_1972 : decode cL_law 1972 = .ok (.iload 6, 2) := by decide +kernel
theorem dL_law_1974 : decode cL_law 1974 = .ok (.if_icmp .eq 5, 3) := by decide +kernel
theorem dL_law_1977 : decode cL_law 1977 = .ok (.iconst 0, 1) := by decide +kernel
theorem dL_law_1978 : decode cL_law 1978 = .ok (.ireturn, 1) := by decide +kernel
theorem dL_law_1979 : decode cL_law 1979 = .ok (.iload 6, 2) := by decide +kernel
theorem dL_law_1981 : decode cL_law 1981 = .ok (.ifCond .ne 36, 3) := by decide +kernel
theorem dL_law_1984 : decode cL_law 1984 = .ok (.aload 4, 2) := by decide +kernel
theorem dL_law_1986 : decode cL_law 1986 = .ok (.iconst 0, 1) := by decide +kernel
theorem dL_law_1987 : decode cL_law 1987 = .ok (.daload, 1) := by decide +kernel
theorem dL_law_1988 : decode cL_law 1988 = .ok (.fload 7, 2) := by decide +kernel
theorem dL_law_1990 : decode cL_law 1990 = .ok (.f2d, 1) := by decide +kernel
theorem dL_law_1991 : decode cL_law 1991 = .ok (.dcmp .l, 1) := by decide +kernel
theorem dL_law_1992 : decode cL_law 1992 = .ok (.ifCond .eq 25, 3) := by decide +kernel
theorem dL_law_1995 : decode cL_law 1995 = .ok (.aload 4, 2) := by decide +kernel
theorem dL_law_1997 : decode cL_law 1997 = .ok (.iconst 0, 1) := by decide +kernel
theorem dL_law_1998 : decode cL_law 1998 = .ok (.daload, 1) := by decide +kernel
theorem dL_law_1999 : decode cL_law 1999 = .ok (.aload 4, 2) := by decide +kernel
theorem dL_law_2001 : decode cL_law 2001 = .ok (.iconst 0, 1) := by decide +kernel
theorem dL_law_2002 : decode cL_law 2002 = .ok (.daload, 1) := by decide +kernel
theorem dL_law_2003 : decode cL_law 2003 = .ok (.dcmp .l, 1) := by decide +kernel
theorem dL_law_2004 : decode cL_law 2004 = .ok (.ifCond .eq 11, 3) := by decide +kernel
theorem dL_law_2007 : decode cL_law 2007 = .ok (.fload 7, 2) := by decide +kernel
theorem dL_law_2009 : decode cL_law 2009 = .ok (.fload 7, 2) := by decide +kernel
theorem dL_law_2011 : decode cL_law 2011 = .ok (.fcmp .l, 1) := by decide +kernel
theorem dL_law_2012 : decode cL_law 2012 = .ok (.ifCond .ne 5, 3) := by decide +kernel
theorem dL_law_2015 : decode cL_law 2015 = .ok (.iconst 0, 1) := by decide +kernel
theorem dL_law_2016 : decode cL_law 2016 = .ok (.ireturn, 1) := by decide +kernel
theorem dL_law_2017 : decode cL_law 2017 = .ok (.goto 3, 3) := by decide +kernel
theorem dL_law_2020 : decode cL_law 2020 = .ok (.iinc 5 5, 3) := by decide +kernel
theorem dL_law_2023 : decode cL_law 2023 = .ok (.goto (-1995), 3) := by decide +kernel
theorem dL_law_2026 : decode cL_law 2026 = .ok (.iconst 1, 1) := by decide +kernel
theorem dL_law_2027 : decode cL_law 2027 = .ok (.ireturn, 1) := by decide +kernel
end
section
theorem dX0_init_0 : decode cX0_init 0 = .ok (.aload_n 0, 1) := by decide +kernel
theorem dX0_init_1 : decode cX0_init 1 = .ok (.invokespecial 3, 3) := by decide +kernel
theorem dX0_init_4 : decode cX0_init 4 = .ok (.aload_n 0, 1) := by decide +kernel
theorem dX0_init_5 : decode cX0_init 5 = .ok (.bipush 10, 2) := by decide +kernel
theorem dX0_init_7 : decode cX0_init 7 = .ok (.newarray .long, 2) := by decide +kernel
theorem dX0_init_9 : decode cX0_init 9 = .ok (.putfield 9, 3) := by decide +kernel
theorem dX0_init_12 : decode cX0_init 12 = .ok (.aload_n 0, 1) := by decide +kernel
theorem dX0_init_13 : decode cX0_init 13 = .ok (.bipush 10, 2) := by decide +kernel
theorem dX0_init_15 : decode cX0_init 15 = .ok (.newarray .long, 2) := by decide +kernel
theorem dX0_init_17 : decode cX0_init 17 = .ok (.putfield 15, 3) := by decide +kernel
theorem dX0_init_20 : decode cX0_init 20 = .ok (.return_, 1) := by decide +kernel
theorem dX0_append_0 : decode cX0_append 0 = .ok (.aload_n 0, 1) := by decide +kernel
theorem dX0_append_1 : decode cX0_append 1 = .ok (.getfield 18, 3) := by decide +kernel
theorem dX0_append_4 : decode cX0_append 4 = .ok (.bipush 10, 2) := by decide +kernel
theorem dX0_append_6 : decode cX0_append 6 = .ok (.if_icmp .lt 13, 3) := by decide +kernel
theorem dX0_append_9 : decode cX0_append 9 = .ok (.new 22, 3) := by decide +kernel
theorem dX0_append_12 : decode cX0_append 12 = .ok (.dup, 1) := by decide +kernel
theorem dX0_append_13 : decode cX0_append 13 = .ok (.ldc 24, 2) := by decide +kernel
theorem dX0_append_15 : decode cX0_append 15 = .ok (.invokespecial 26, 3) := by decide +kernel
theorem dX0_append_18 : decode cX0_append 18 = .ok (.athrow, 1) := by decide +kernel
theorem dX0_append_19 : decode cX0_append 19 = .ok (.aload_n 0, 1) := by decide +kernel
theorem dX0_append_20 : decode cX0_append 20 = .ok (.getfield 9, 3) := by decide +kernel
theorem dX0_append_23 : decode cX0_append 23 = .ok (.aload_n 0, 1) := by decide +kernel
theorem dX0_append_24 : decode cX0_append 24 = .ok (.getfield 18, 3) := by decide +kernel
theorem dX0_append_27 : decode cX0_append 27 = .ok (.iload_n 1, 1) := by decide +kernel
theorem dX0_append_28 : decode cX0_append 28 = .ok (.invokestatic 29, 3) := by decide +kernel
theorem dX0_append_31 : decode cX0_append 31 = .ok (.iload_n 2, 1) := by decide +kernel
theorem dX0_append_32 : decode cX0_append 32 = .ok (.invokestatic 29, 3) := by decide +kernel
theorem dX0_append_35 : decode cX0_append 35 = .ok (.lor, 1) := by decide +kernel
theorem dX0_append_36 : decode cX0_append 36 = .ok (.lastore, 1) := by decide +kernel
theorem dX0_append_37 : decode cX0_append 37 = .ok (.aload_n 0, 1) := by decide +kernel
theorem dX0_append_38 : decode cX0_append 38 = .ok (.getfield 15, 3) := by decide +kernel
theorem dX0_append_41 : decode cX0_append 41 = .ok (.aload_n 0, 1) := by decide +kernel
theorem dX0_append_42 : decode cX0_append 42 = .ok (.getfield 18, 3) := by decide +kernel
theorem dX0_append_45 : decode cX0_append 45 = .ok (.iload_n 3, 1) := by decide +kernel
theorem dX0_append_46 : decode cX0_append 46 = .ok (.invokestatic 29, 3) := by decide +kernel
theorem dX0_append_49 : decode cX0_append 49 = .ok (.lastore, 1) := by decide +kernel
theorem dX0_append_50 : decode cX0_append 50 = .ok (.aload_n 0, 1) := by decide +kernel
theorem dX0_append_51 : decode cX0_append 51 = .ok (.dup, 1) := by decide +kernel
theorem dX0_append_52 : decode cX0_append 52 = .ok (.getfield 18, 3) := by decide +kernel
theorem dX0_append_55 : decode cX0_append 55 = .ok (.iconst 1, 1) := by decide +kernel
theorem dX0_append_56 : decode cX0_append 56 = .ok (.iadd, 1) := by decide +kernel
theorem dX0_append_57 : decode cX0_append 57 = .ok (.putfield 18, 3) := by decide +kernel
theorem dX0_append_60 : decode cX0_append 60 = .ok (.aload_n 0, 1) := by decide +kernel
theorem dX0_append_61 : decode cX0_append 61 = .ok (.getfield 18, 3) := by decide +kernel
theorem dX0_append_64 : decode cX0_append 64 = .ok (.iconst 1, 1) := by decide +kernel
theorem dX0_append_65 : decode cX0_append 65 = .ok (.isub, 1) := by decide +kernel
theorem dX0_append_66 : decode cX0_append 66 = .ok (.ireturn, 1) := by decide +kernel
theorem dX0_closure_0 : decode cX0_closure 0 = .ok (.lload_n 1, 1) := by decide +kernel
theorem dX0_closure_1 : decode cX0_closure 1 = .ok (.lstore_n 3, 1) := by decide +kernel
theorem dX0_closure_2 : decode cX0_closure 2 = .ok (.iconst 0, 1) := by decide +kernel
theorem dX0_closure_3 : decode cX0_closure 3 = .ok (.istore 5, 2) := by decide +kernel
theorem dX0_closure_5 : decode cX0_closure 5 = .ok (.iload 5, 2) := by decide +kernel
theorem dX0_closure_7 : decode cX0_closure 7 = .ok (.aload_n 0, 1) := by decide +kernel
theorem dX0_closure_8 : decode cX0_closure 8 = .ok (.getfield 18, 3) := by decide +kernel
theorem dX0_closure_11 : decode cX0_closure 11 = .ok (.if_icmp .ge 27, 3) := by decide +kernel
theorem dX0_closure_14 : decode cX0_closure 14 = .ok (.lload_n 3, 1) := by decide +kernel
theorem dX0_closure_15 : decode cX0_closure 15 = .ok (.lstore 6, 2) := by decide +kernel
theorem dX0_closure_17 : decode cX0_closure 17 = .ok (.aload_n 0, 1) := by decide +kernel
theorem dX0_closure_18 : decode cX0_closure 18 = .ok (.lload_n 3, 1) := by decide +kernel
theorem dX0_closure_19 : decode cX0_closure 19 = .ok (.invokevirtual 33, 3) := by decide +kernel
theorem dX0_closure_22 : decode cX0_closure 22 = .ok (.lstore_n 3, 1) := by decide +kernel
theorem dX0_closure_23 : decode cX0_closure 23 = .ok (.lload_n 3, 1) := by decide +kernel
theorem dX0_closure_24 : decode cX0_closure 24 = .ok (.lload 6, 2) := by decide +kernel
theorem dX0_closure_26 : decode cX0_closure 26 = .ok (.lcmp, 1) := by decide +kernel
theorem dX0_closure_27 : decode cX0_closure 27 = .ok (.ifCond .ne 5, 3) := by decide +kernel
theorem dX0_closure_30 : decode cX0_closure 30 = .ok (.lload_n 3, 1) := by decide +kernel
theorem dX0_closure_31 : decode cX0_closure 31 = .ok (.lreturn, 1) := by decide +kernel
theorem dX0_closure_32 : decode cX0_closure 32 = .ok (.iinc 5 1, 3) := by decide +kernel
theorem dX0_closure_35 : decode cX0_closure 35 = .ok (.goto (-30), 3) := by decide +kernel
theorem dX0_closure_38 : decode cX0_closure 38 = .ok (.lload_n 3, 1) := by decide +kernel
theorem dX0_closure_39 : decode cX0_closure 39 = .ok (.lreturn, 1) := by decide +kernel
theorem dX0_addTold_0 : decode cX0_addTold 0 = .ok (.lload_n 1, 1) := by decide +kernel
theorem dX0_addTold_1 : decode cX0_addTold 1 = .ok (.lstore_n 3, 1) := by decide +kernel
theorem dX0_addTold_2 : decode cX0_addTold 2 = .ok (.iconst 0, 1) := by decide +kernel
theorem dX0_addTold_3 : decode cX0_addTold 3 = .ok (.istore 5, 2) := by decide +kernel
theorem dX0_addTold_5 : decode cX0_addTold 5 = .ok (.iload 5, 2) := by decide +kernel
theorem dX0_addTold_7 : decode cX0_addTold 7 = .ok (.aload_n 0, 1) := by decide +kernel
theorem dX0_addTold_8 : decode cX0_addTold 8 = .ok (.getfield 18, 3) := by decide +kernel
theorem dX0_addTold_11 : decode cX0_addTold 11 = .ok (.if_icmp .ge 39, 3) := by decide +kernel
theorem dX0_addTold_14 : decode cX0_addTold 14 = .ok (.lload_n 3, 1) := by decide +kernel
theorem dX0_addTold_15 : decode cX0_addTold 15 = .ok (.aload_n 0, 1) := by decide +kernel
theorem dX0_addTold_16 : decode cX0_addTold 16 = .ok (.getfield 9, 3) := by decide +kernel
theorem dX0_addTold_19 : decode cX0_addTold 19 = .ok (.iload 5, 2) := by decide +kernel
theorem dX0_addTold_21 : decode cX0_addTold 21 = .ok (.laload, 1) := by decide +kernel
theorem dX0_addTold_22 : decode cX0_addTold 22 = .ok (.land, 1) := by decide +kernel
theorem dX0_addTold_23 : decode cX0_addTold 23 = .ok (.aload_n 0, 1) := by decide +kernel
theorem dX0_addTold_24 : decode cX0_addTold 24 = .ok (.getfield 9, 3) := by decide +kernel
theorem dX0_addTold_27 : decode cX0_addTold 27 = .ok (.iload 5, 2) := by decide +kernel
theorem dX0_addTold_29 : decode cX0_addTold 29 = .ok (.laload, 1) := by decide +kernel
theorem dX0_addTold_30 : decode cX0_addTold 30 = .ok (.lcmp, 1) := by decide +kernel
theorem dX0_addTold_31 : decode cX0_addTold 31 = .ok (.ifCond .ne 13, 3) := by decide +kernel
theorem dX0_addTold_34 : decode cX0_addTold 34 = .ok (.lload_n 3, 1) := by decide +kernel
theorem dX0_addTold_35 : decode cX0_addTold 35 = .ok (.aload_n 0, 1) := by decide +kernel
theorem dX0_addTold_36 : decode cX0_addTold 36 = .ok (.getfield 15, 3) := by decide +kernel
theorem dX0_addTold_39 : decode cX0_addTold 39 = .ok (.iload 5, 2) := by decide +kernel
theorem dX0_addTold_41 : decode cX0_addTold 41 = .ok (.laload, 1) := by decide +kernel
theorem dX0_addTold_42 : decode cX0_addTold 42 = .ok (.lor, 1) := by decide +kernel
theorem dX0_addTold_43 : decode cX0_addTold 43 = .ok (.lstore_n 3, 1) := by decide +kernel
theorem dX0_addTold_44 : decode cX0_addTold 44 = .ok (.iinc 5 1, 3) := by decide +kernel
theorem dX0_addTold_47 : decode cX0_addTold 47 = .ok (.goto (-42), 3) := by decide +kernel
theorem dX0_addTold_50 : decode cX0_addTold 50 = .ok (.lload_n 3, 1) := by decide +kernel
theorem dX0_addTold_51 : decode cX0_addTold 51 = .ok (.lreturn, 1) := by decide +kernel
end
section
theorem dX1_init_0 : decode cX1_init 0 = .ok (.aload_n 0, 1) := by decide +kernel
theorem dX1_init_1 : decode cX1_init 1 = .ok (.invokespecial 3, 3) := by decide +kernel
theorem dX1_init_4 : decode cX1_init 4 = .ok (.aload_n 0, 1) := by decide +kernel
theorem dX1_init_5 : decode cX1_init 5 = .ok (.bipush 8, 2) := by decide +kernel
theorem dX1_init_7 : decode cX1_init 7 = .ok (.newarray .int, 2) := by decide +kernel
theorem dX1_init_9 : decode cX1_init 9 = .ok (.putfield 9, 3) := by decide +kernel
theorem dX1_init_12 : decode cX1_init 12 = .ok (.aload_n 0, 1) := by decide +kernel
theorem dX1_init_13 : decode cX1_init 13 = .ok (.bipush 40, 2) := by decide +kernel
theorem dX1_init_15 : decode cX1_init 15 = .ok (.newarray .int, 2) := by decide +kernel
theorem dX1_init_17 : decode cX1_init 17 = .ok (.putfield 15, 3) := by decide +kernel
theorem dX1_init_20 : decode cX1_init 20 = .ok (.aload_n 0, 1) := by decide +kernel
theorem dX1_init_21 : decode cX1_init 21 = .ok (.bipush 40, 2) := by decide +kernel
theorem dX1_init_23 : decode cX1_init 23 = .ok (.newarray .int, 2) := by decide +kernel
theorem dX1_init_25 : decode cX1_init 25 = .ok (.putfield 18, 3) := by decide +kernel
theorem dX1_init_28 : decode cX1_init 28 = .ok (.aload_n 0, 1) := by decide +kernel
theorem dX1_init_29 : decode cX1_init 29 = .ok (.bipush 40, 2) := by decide +kernel
theorem dX1_init_31 : decode cX1_init 31 = .ok (.newarray .int, 2) := by decide +kernel
theorem dX1_init_33 : decode cX1_init 33 = .ok (.putfield 21, 3) := by decide +kernel
theorem dX1_init_36 : decode cX1_init 36 = .ok (.return_, 1) := by decide +kernel
theorem dX1_appendDocument_0 : decode cX1_appendDocument 0 = .ok (.aload_n 0, 1) := by decide +kernel
theorem dX1_appendDocument_1 : decode cX1_appendDocument 1 = .ok (.getfield 24, 3) := by decide +kernel
theorem dX1_appendDocument_4 : decode cX1_appendDocument 4 = .ok (.bipush 8, 2) := by decide +kernel
theorem dX1_appendDocument_6 : decode cX1_appendDocument 6 = .ok (.if_icmp .lt 13, 3) := by decide +kernel
theorem dX1_appendDocument_9 : decode cX1_appendDocument 9 = .ok (.new 28, 3) := by decide +kernel
theorem dX1_appendDocument_12 : decode cX1_appendDocument 12 = .ok (.dup, 1) := by decide +kernel
theorem dX1_appendDocument_13 : decode cX1_appendDocument 13 = .ok (.ldc 30, 2) := by decide +kernel
theorem dX1_appendDocument_15 : decode cX1_appendDocument 15 = .ok (.invokespecial 32, 3) := by decide +kernel
theorem dX1_appendDocument_18 : decode cX1_appendDocument 18 = .ok (.athrow, 1) := by decide +kernel
theorem dX1_appendDocument_19 : decode cX1_appendDocument 19 = .ok (.aload_n 0, 1) := by decide +kernel
theorem dX1_appendDocument_20 : decode cX1_appendDocument 20 = .ok (.dup, 1) := by decide +kernel
theorem dX1_appendDocument_21 : decode cX1_appendDocument 21 = .ok (.getfield 24, 3) := by decide +kernel
theorem dX1_appendDocument_24 : decode cX1_appendDocument 24 = .ok (.iconst 1, 1) := by decide +kernel
theorem dX1_appendDocument_25 : decode cX1_appendDocument 25 = .ok (.iadd, 1) := by decide +kernel
theorem dX1_appendDocument_26 : decode cX1_appendDocument 26 = .ok (.putfield 24, 3) := by decide +kernel
theorem dX1_appendDocument_29 : decode cX1_appendDocument 29 = .ok (.aload_n 0, 1) := by decide +kernel
theorem dX1_appendDocument_30 : decode cX1_appendDocument 30 = .ok (.getfield 24, 3) := by decide +kernel
theorem dX1_appendDocument_33 : decode cX1_appendDocument 33 = .ok (.iconst 1, 1) := by decide +kernel
theorem dX1_appendDocument_34 : decode cX1_appendDocument 34 = .ok (.isub, 1) := by decide +kernel
theorem dX1_appendDocument_35 : decode cX1_appendDocument 35 = .ok (.ireturn, 1) := by decide +kernel
theorem dX1_append_0 : decode cX1_append 0 = .ok (.aload_n 0, 1) := by decide +kernel
theorem dX1_append_1 : decode cX1_append 1 = .ok (.getfield 35, 3) := by decide +kernel
theorem dX1_append_4 : decode cX1_append 4 = .ok (.bipush 40, 2) := by decide +kernel
theorem dX1_append_6 : decode cX1_append 6 = .ok (.if_icmp .lt 13, 3) := by decide +kernel
theorem dX1_append_9 : decode cX1_append 9 = .ok (.new 28, 3) := by decide +kernel
theorem dX1_append_12 : decode cX1_append 12 = .ok (.dup, 1) := by decide +kernel
theorem dX1_append_13 : decode cX1_append 13 = .ok (.ldc 38, 2) := by decide +kernel
theorem dX1_append_15 : decode cX1_append 15 = .ok (.invokespecial 32, 3) := by decide +kernel
theorem dX1_append_18 : decode cX1_append 18 = .ok (.athrow, 1) := by decide +kernel
theorem dX1_append_19 : decode cX1_append 19 = .ok (.aload_n 0, 1) := by decide +kernel
theorem dX1_append_20 : decode cX1_append 20 = .ok (.getfield 15, 3) := by decide +kernel
theorem dX1_append_23 : decode cX1_append 23 = .ok (.aload_n 0, 1) := by decide +kernel
theorem dX1_append_24 : decode cX1_append 24 = .ok (.getfield 35, 3) := by decide +kernel
theorem dX1_append_27 : decode cX1_append 27 = .ok (.iload_n 1, 1) := by decide +kernel
theorem dX1_append_28 : decode cX1_append 28 = .ok (.iastore, 1) := by decide +kernel
theorem dX1_append_29 : decode cX1_append 29 = .ok (.aload_n 0, 1) := by decide +kernel
theorem dX1_append_30 : decode cX1_append 30 = .ok (.getfield 18, 3) := by decide +kernel
theorem dX1_append_33 : decode cX1_append 33 = .ok (.aload_n 0, 1) := by decide +kernel
theorem dX1_append_34 : decode cX1_append 34 = .ok (.getfield 35, 3) := by decide +kernel
theorem dX1_append_37 : decode cX1_append 37 = .ok (.aload_n 0, 1) := by decide +kernel
theorem dX1_append_38 : decode cX1_append 38 = .ok (.getfield 9, 3) := by decide +kernel
theorem dX1_append_41 : decode cX1_append 41 = .ok (.iload_n 1, 1) := by decide +kernel
theorem dX1_append_42 : decode cX1_append 42 = .ok (.iaload, 1) := by decide +kernel
theorem dX1_append_43 : decode cX1_append 43 = .ok (.iastore, 1) := by decide +kernel
theorem dX1_append_44 : decode cX1_append 44 = .ok (.aload_n 0, 1) := by decide +kernel
theorem dX1_append_45 : decode cX1_append 45 = .ok (.getfield 21, 3) := by decide +kernel
theorem dX1_append_48 : decode cX1_append 48 = .ok (.aload_n 0, 1) := by decide +kernel
theorem dX1_append_49 : decode cX1_append 49 = .ok (.getfield 35, 3) := by decide +kernel
theorem dX1_append_52 : decode cX1_append 52 = .ok (.iload_n 2, 1) := by decide +kernel
theorem dX1_append_53 : decode cX1_append 53 = .ok (.iastore, 1) := by decide +kernel
theorem dX1_append_54 : decode cX1_append 54 = .ok (.aload_n 0, 1) := by decide +kernel
theorem dX1_append_55 : decode cX1_append 55 = .ok (.getfield 9, 3) := by decide +kernel
theorem dX1_append_58 : decode cX1_append 58 = .ok (.iload_n 1, 1) := by decide +kernel
theorem dX1_append_59 : decode cX1_append 59 = .ok (.dup2, 1) := by decide +kernel
theorem dX1_append_60 : decode cX1_append 60 = .ok (.iaload, 1) := by decide +kernel
theorem dX1_append_61 : decode cX1_append 61 = .ok (.iconst 1, 1) := by decide +kernel
theorem dX1_append_62 : decode cX1_append 62 = .ok (.iadd, 1) := by decide +kernel
theorem dX1_append_63 : decode cX1_append 63 = .ok (.iastore, 1) := by decide +kernel
theorem dX1_append_64 : decode cX1_append 64 = .ok (.aload_n 0, 1) := by decide +kernel
theorem dX1_append_65 : decode cX1_append 65 = .ok (.dup, 1) := by decide +kernel
theorem dX1_append_66 : decode cX1_append 66 = .ok (.getfield 35, 3) := by decide +kernel
theorem dX1_append_69 : decode cX1_append 69 = .ok (.iconst 1, 1) := by decide +kernel
theorem dX1_append_70 : decode cX1_append 70 = .ok (.iadd, 1) := by decide +kernel
theorem dX1_append_71 : decode cX1_append 71 = .ok (.putfield 35, 3) := by decide +kernel
theorem dX1_append_74 : decode cX1_append 74 = .ok (.aload_n 0, 1) := by decide +kernel
theorem dX1_append_75 : decode cX1_append 75 = .ok (.getfield 35, 3) := by decide +kernel
theorem dX1_append_78 : decode cX1_append 78 = .ok (.iconst 1, 1) := by decide +kernel
theorem dX1_append_79 : decode cX1_append 79 = .ok (.isub, 1) := by decide +kernel
theorem dX1_append_80 : decode cX1_append 80 = .ok (.ireturn, 1) := by decide +kernel
end
section
theorem dX2_init_0 : decode cX2_init 0 = .ok (.aload_n 0, 1) := by decide +kernel
theorem dX2_init_1 : decode cX2_init 1 = .ok (.invokespecial 3, 3) := by decide +kernel
theorem dX2_init_4 : decode cX2_init 4 = .ok (.aload_n 0, 1) := by decide +kernel
theorem dX2_init_5 : decode cX2_init 5 = .ok (.sipush 200, 3) := by decide +kernel
theorem dX2_init_8 : decode cX2_init 8 = .ok (.newarray .int, 2) := by decide +kernel
theorem dX2_init_10 : decode cX2_init 10 = .ok (.putfield 9, 3) := by decide +kernel
theorem dX2_init_13 : decode cX2_init 13 = .ok (.aload_n 0, 1) := by decide +kernel
theorem dX2_init_14 : decode cX2_init 14 = .ok (.sipush 200, 3) := by decide +kernel
theorem dX2_init_17 : decode cX2_init 17 = .ok (.newarray .int, 2) := by decide +kernel
theorem dX2_init_19 : decode cX2_init 19 = .ok (.putfield 15, 3) := by decide +kernel
theorem dX2_init_22 : decode cX2_init 22 = .ok (.return_, 1) := by decide +kernel
theorem dX2_append_0 : decode cX2_append 0 = .ok (.aload_n 0, 1) := by decide +kernel
theorem dX2_append_1 : decode cX2_append 1 = .ok (.getfield 18, 3) := by decide +kernel
theorem dX2_append_4 : decode cX2_append 4 = .ok (.sipush 200, 3) := by decide +kernel
theorem dX2_append_7 : decode cX2_append 7 = .ok (.if_icmp .lt 4, 3) := by decide +kernel
theorem dX2_append_10 : decode cX2_append 10 = .ok (.return_, 1) := by decide +kernel
theorem dX2_append_11 : decode cX2_append 11 = .ok (.aload_n 0, 1) := by decide +kernel
theorem dX2_append_12 : decode cX2_append 12 = .ok (.getfield 9, 3) := by decide +kernel
theorem dX2_append_15 : decode cX2_append 15 = .ok (.aload_n 0, 1) := by decide +kernel
theorem dX2_append_16 : decode cX2_append 16 = .ok (.getfield 18, 3) := by decide +kernel
theorem dX2_append_19 : decode cX2_append 19 = .ok (.iload_n 1, 1) := by decide +kernel
theorem dX2_append_20 : decode cX2_append 20 = .ok (.iastore, 1) := by decide +kernel
theorem dX2_append_21 : decode cX2_append 21 = .ok (.aload_n 0, 1) := by decide +kernel
theorem dX2_append_22 : decode cX2_append 22 = .ok (.getfield 15, 3) := by decide +kernel
theorem dX2_append_25 : decode cX2_append 25 = .ok (.aload_n 0, 1) := by decide +kernel
theorem dX2_append_26 : decode cX2_append 26 = .ok (.getfield 18, 3) := by decide +kernel
theorem dX2_append_29 : decode cX2_append 29 = .ok (.iload_n 2, 1) := by decide +kernel
theorem dX2_append_30 : decode cX2_append 30 = .ok (.iastore, 1) := by decide +kernel
theorem dX2_append_31 : decode cX2_append 31 = .ok (.aload_n 0, 1) := by decide +kernel
theorem dX2_append_32 : decode cX2_append 32 = .ok (.dup, 1) := by decide +kernel
theorem dX2_append_33 : decode cX2_append 33 = .ok (.getfield 18, 3) := by decide +kernel
theorem dX2_append_36 : decode cX2_append 36 = .ok (.iconst 1, 1) := by decide +kernel
theorem dX2_append_37 : decode cX2_append 37 = .ok (.iadd, 1) := by decide +kernel
theorem dX2_append_38 : decode cX2_append 38 = .ok (.putfield 18, 3) := by decide +kernel
theorem dX2_append_41 : decode cX2_append 41 = .ok (.return_, 1) := by decide +kernel
theorem dX2_linesGivenTo_0 : decode cX2_linesGivenTo 0 = .ok (.lconst 0, 1) := by decide +kernel
theorem dX2_linesGivenTo_1 : decode cX2_linesGivenTo 1 = .ok (.lstore_n 2, 1) := by decide +kernel
theorem dX2_linesGivenTo_2 : decode cX2_linesGivenTo 2 = .ok (.iconst 0, 1) := by decide +kernel
theorem dX2_linesGivenTo_3 : decode cX2_linesGivenTo 3 = .ok (.istore 4, 2) := by decide +kernel
theorem dX2_linesGivenTo_5 : decode cX2_linesGivenTo 5 = .ok (.iload 4, 2) := by decide +kernel
theorem dX2_linesGivenTo_7 : decode cX2_linesGivenTo 7 = .ok (.aload_n 0, 1) := by decide +kernel
theorem dX2_linesGivenTo_8 : decode cX2_linesGivenTo 8 = .ok (.getfield 18, 3) := by decide +kernel
theorem dX2_linesGivenTo_11 : decode cX2_linesGivenTo 11 = .ok (.if_icmp .ge 33, 3) := by decide +kernel
theorem dX2_linesGivenTo_14 : decode cX2_linesGivenTo 14 = .ok (.aload_n 0, 1) := by decide +kernel
theorem dX2_linesGivenTo_15 : decode cX2_linesGivenTo 15 = .ok (.getfield 9, 3) := by decide +kernel
theorem dX2_linesGivenTo_18 : decode cX2_linesGivenTo 18 = .ok (.iload 4, 2) := by decide +kernel
theorem dX2_linesGivenTo_20 : decode cX2_linesGivenTo 20 = .ok (.iaload, 1) := by decide +kernel
theorem dX2_linesGivenTo_21 : decode cX2_linesGivenTo 21 = .ok (.iload_n 1, 1) := by decide +kernel
theorem dX2_linesGivenTo_22 : decode cX2_linesGivenTo 22 = .ok (.if_icmp .ne 16, 3) := by decide +kernel
theorem dX2_linesGivenTo_25 : decode cX2_linesGivenTo 25 = .ok (.lload_n 2, 1) := by decide +kernel
theorem dX2_linesGivenTo_26 : decode cX2_linesGivenTo 26 = .ok (.aload_n 0, 1) := by decide +kernel
theorem dX2_linesGivenTo_27 : decode cX2_linesGivenTo 27 = .ok (.getfield 15, 3) := by decide +kernel
theorem dX2_linesGivenTo_30 : decode cX2_linesGivenTo 30 = .ok (.iload 4, 2) := by decide +kernel
theorem dX2_linesGivenTo_32 : decode cX2_linesGivenTo 32 = .ok (.iaload, 1) := by decide +kernel
theorem dX2_linesGivenTo_33 : decode cX2_linesGivenTo 33 = .ok (.invokestatic 22, 3) := by decide +kernel
theorem dX2_linesGivenTo_36 : decode cX2_linesGivenTo 36 = .ok (.lor, 1) := by decide +kernel
theorem dX2_linesGivenTo_37 : decode cX2_linesGivenTo 37 = .ok (.lstore_n 2, 1) := by decide +kernel
theorem dX2_linesGivenTo_38 : decode cX2_linesGivenTo 38 = .ok (.iinc 4 1, 3) := by decide +kernel
theorem dX2_linesGivenTo_41 : decode cX2_linesGivenTo 41 = .ok (.goto (-36), 3) := by decide +kernel
theorem dX2_linesGivenTo_44 : decode cX2_linesGivenTo 44 = .ok (.lload_n 2, 1) := by decide +kernel
theorem dX2_linesGivenTo_45 : decode cX2_linesGivenTo 45 = .ok (.lreturn, 1) := by decide +kernel
end
section
theorem dX3_init_0 : decode cX3_init 0 = .ok (.aload_n 0, 1) := by decide +kernel
theorem dX3_init_1 : decode cX3_init 1 = .ok (.invokespecial 3, 3) := by decide +kernel
theorem dX3_init_4 : decode cX3_init 4 = .ok (.aload_n 0, 1) := by decide +kernel
theorem dX3_init_5 : decode cX3_init 5 = .ok (.bipush 20, 2) := by decide +kernel
theorem dX3_init_7 : decode cX3_init 7 = .ok (.newarray .int, 2) := by decide +kernel
theorem dX3_init_9 : decode cX3_init 9 = .ok (.putfield 9, 3) := by decide +kernel
theorem dX3_init_12 : decode cX3_init 12 = .ok (.aload_n 0, 1) := by decide +kernel
theorem dX3_init_13 : decode cX3_init 13 = .ok (.bipush 20, 2) := by decide +kernel
theorem dX3_init_15 : decode cX3_init 15 = .ok (.newarray .int, 2) := by decide +kernel
theorem dX3_init_17 : decode cX3_init 17 = .ok (.putfield 15, 3) := by decide +kernel
theorem dX3_init_20 : decode cX3_init 20 = .ok (.aload_n 0, 1) := by decide +kernel
theorem dX3_init_21 : decode cX3_init 21 = .ok (.bipush 20, 2) := by decide +kernel
theorem dX3_init_23 : decode cX3_init 23 = .ok (.newarray .char, 2) := by decide +kernel
theorem dX3_init_25 : decode cX3_init 25 = .ok (.putfield 18, 3) := by decide +kernel
theorem dX3_init_28 : decode cX3_init 28 = .ok (.aload_n 0, 1) := by decide +kernel
theorem dX3_init_29 : decode cX3_init 29 = .ok (.bipush 20, 2) := by decide +kernel
theorem dX3_init_31 : decode cX3_init 31 = .ok (.newarray .int, 2) := by decide +kernel
theorem dX3_init_33 : decode cX3_init 33 = .ok (.putfield 22, 3) := by decide +kernel
theorem dX3_init_36 : decode cX3_init 36 = .ok (.return_, 1) := by decide +kernel
theorem dX3_append_0 : decode cX3_append 0 = .ok (.aload_n 0, 1) := by decide +kernel
theorem dX3_append_1 : decode cX3_append 1 = .ok (.getfield 25, 3) := by decide +kernel
theorem dX3_append_4 : decode cX3_append 4 = .ok (.bipush 20, 2) := by decide +kernel
theorem dX3_append_6 : decode cX3_append 6 = .ok (.if_icmp .lt 13, 3) := by decide +kernel
theorem dX3_append_9 : decode cX3_append 9 = .ok (.new 29, 3) := by decide +kernel
theorem dX3_append_12 : decode cX3_append 12 = .ok (.dup, 1) := by decide +kernel
theorem dX3_append_13 : decode cX3_append 13 = .ok (.ldc 31, 2) := by decide +kernel
theorem dX3_append_15 : decode cX3_append 15 = .ok (.invokespecial 33, 3) := by decide +kernel
theorem dX3_append_18 : decode cX3_append 18 = .ok (.athrow, 1) := by decide +kernel
theorem dX3_append_19 : decode cX3_append 19 = .ok (.aload_n 0, 1) := by decide +kernel
theorem dX3_append_20 : decode cX3_append 20 = .ok (.getfield 9, 3) := by decide +kernel
theorem dX3_append_23 : decode cX3_append 23 = .ok (.aload_n 0, 1) := by decide +kernel
theorem dX3_append_24 : decode cX3_append 24 = .ok (.getfield 25, 3) := by decide +kernel
theorem dX3_append_27 : decode cX3_append 27 = .ok (.iload_n 1, 1) := by decide +kernel
theorem dX3_append_28 : decode cX3_append 28 = .ok (.iastore, 1) := by decide +kernel
theorem dX3_append_29 : decode cX3_append 29 = .ok (.aload_n 0, 1) := by decide +kernel
theorem dX3_append_30 : decode cX3_append 30 = .ok (.getfield 15, 3) := by decide +kernel
theorem dX3_append_33 : decode cX3_append 33 = .ok (.aload_n 0, 1) := by decide +kernel
theorem dX3_append_34 : decode cX3_append 34 = .ok (.getfield 25, 3) := by decide +kernel
theorem dX3_append_37 : decode cX3_append 37 = .ok (.iload_n 2, 1) := by decide +kernel
theorem dX3_append_38 : decode cX3_append 38 = .ok (.iastore, 1) := by decide +kernel
theorem dX3_append_39 : decode cX3_append 39 = .ok (.aload_n 0, 1) := by decide +kernel
theorem dX3_append_40 : decode cX3_append 40 = .ok (.getfield 18, 3) := by decide +kernel
theorem dX3_append_43 : decode cX3_append 43 = .ok (.aload_n 0, 1) := by decide +kernel
theorem dX3_append_44 : decode cX3_append 44 = .ok (.getfield 25, 3) := by decide +kernel
theorem dX3_append_47 : decode cX3_append 47 = .ok (.bipush 119, 2) := by decide +kernel
theorem dX3_append_49 : decode cX3_append 49 = .ok (.castore, 1) := by decide +kernel
theorem dX3_append_50 : decode cX3_append 50 = .ok (.aload_n 0, 1) := by decide +kernel
theorem dX3_append_51 : decode cX3_append 51 = .ok (.getfield 22, 3) := by decide +kernel
theorem dX3_append_54 : decode cX3_append 54 = .ok (.aload_n 0, 1) := by decide +kernel
theorem dX3_append_55 : decode cX3_append 55 = .ok (.getfield 25, 3) := by decide +kernel
theorem dX3_append_58 : decode cX3_append 58 = .ok (.iload_n 3, 1) := by decide +kernel
theorem dX3_append_59 : decode cX3_append 59 = .ok (.iastore, 1) := by decide +kernel
theorem dX3_append_60 : decode cX3_append 60 = .ok (.aload_n 0, 1) := by decide +kernel
theorem dX3_append_61 : decode cX3_append 61 = .ok (.dup, 1) := by decide +kernel
theorem dX3_append_62 : decode cX3_append 62 = .ok (.getfield 25, 3) := by decide +kernel
theorem dX3_append_65 : decode cX3_append 65 = .ok (.iconst 1, 1) := by decide +kernel
theorem dX3_append_66 : decode cX3_append 66 = .ok (.iadd, 1) := by decide +kernel
theorem dX3_append_67 : decode cX3_append 67 = .ok (.putfield 25, 3) := by decide +kernel
theorem dX3_append_70 : decode cX3_append 70 = .ok (.aload_n 0, 1) := by decide +kernel
theorem dX3_append_71 : decode cX3_append 71 = .ok (.getfield 25, 3) := by decide +kernel
theorem dX3_append_74 : decode cX3_append 74 = .ok (.iconst 1, 1) := by decide +kernel
theorem dX3_append_75 : decode cX3_append 75 = .ok (.isub, 1) := by decide +kernel
theorem dX3_append_76 : decode cX3_append 76 = .ok (.ireturn, 1) := by decide +kernel
theorem dX3_isWaiting_0 : decode cX3_isWaiting 0 = .ok (.iconst 0, 1) := by decide +kernel
theorem dX3_isWaiting_1 : decode cX3_isWaiting 1 = .ok (.istore_n 3, 1) := by decide +kernel
theorem dX3_isWaiting_2 : decode cX3_isWaiting 2 = .ok (.iload_n 3, 1) := by decide +kernel
theorem dX3_isWaiting_3 : decode cX3_isWaiting 3 = .ok (.aload_n 0, 1) := by decide +kernel
theorem dX3_isWaiting_4 : decode cX3_isWaiting 4 = .ok (.getfield 25, 3) := by decide +kernel
theorem dX3_isWaiting_7 : decode cX3_isWaiting 7 = .ok (.if_icmp .ge 42, 3) := by decide +kernel
theorem dX3_isWaiting_10 : decode cX3_isWaiting 10 = .ok (.aload_n 0, 1) := by decide +kernel
theorem dX3_isWaiting_11 : decode cX3_isWaiting 11 = .ok (.getfield 18, 3) := by decide +kernel
theorem dX3_isWaiting_14 : decode cX3_isWaiting 14 = .ok (.iload_n 3, 1) := by decide +kernel
theorem dX3_isWaiting_15 : decode cX3_isWaiting 15 = .ok (.caload, 1) := by decide +kernel
theorem dX3_isWaiting_16 : decode cX3_isWaiting 16 = .ok (.bipush 119, 2) := by decide +kernel
theorem dX3_isWaiting_18 : decode cX3_isWaiting 18 = .ok (.if_icmp .ne 25, 3) := by decide +kernel
theorem dX3_isWaiting_21 : decode cX3_isWaiting 21 = .ok (.aload_n 0, 1) := by decide +kernel
theorem dX3_isWaiting_22 : decode cX3_isWaiting 22 = .ok (.getfield 9, 3) := by decide +kernel
theorem dX3_isWaiting_25 : decode cX3_isWaiting 25 = .ok (.iload_n 3, 1) := by decide +kernel
theorem dX3_isWaiting_26 : decode cX3_isWaiting 26 = .ok (.iaload, 1) := by decide +kernel
theorem dX3_isWaiting_27 : decode cX3_isWaiting 27 = .ok (.iload_n 1, 1) := by decide +kernel
theorem dX3_isWaiting_28 : decode cX3_isWaiting 28 = .ok (.if_icmp .ne 15, 3) := by decide +kernel
theorem dX3_isWaiting_31 : decode cX3_isWaiting 31 = .ok (.aload_n 0, 1) := by decide +kernel
theorem dX3_isWaiting_32 : decode cX3_isWaiting 32 = .ok (.getfield 15, 3) := by decide +kernel
theorem dX3_isWaiting_35 : decode cX3_isWaiting 35 = .ok (.iload_n 3, 1) := by decide +kernel
theorem dX3_isWaiting_36 : decode cX3_isWaiting 36 = .ok (.iaload, 1) := by decide +kernel
theorem dX3_isWaiting_37 : decode cX3_isWaiting 37 = .ok (.iload_n 2, 1) := by decide +kernel
theorem dX3_isWaiting_38 : decode cX3_isWaiting 38 = .ok (.if_icmp .ne 5, 3) := by decide +kernel
theorem dX3_isWaiting_41 : decode cX3_isWaiting 41 = .ok (.iconst 1, 1) := by decide +kernel
theorem dX3_isWaiting_42 : decode cX3_isWaiting 42 = .ok (.ireturn, 1) := by decide +kernel
theorem dX3_isWaiting_43 : decode cX3_isWaiting 43 = .ok (.iinc 3 1, 3) := by decide +kernel
theorem dX3_isWaiting_46 : decode cX3_isWaiting 46 = .ok (.goto (-44), 3) := by decide +kernel
theorem dX3_isWaiting_49 : decode cX3_isWaiting 49 = .ok (.iconst 0, 1) := by decide +kernel
theorem dX3_isWaiting_50 : decode cX3_isWaiting 50 = .ok (.ireturn, 1) := by decide +kernel
theorem dX3_countInState_0 : decode cX3_countInState 0 = .ok (.iconst 0, 1) := by decide +kernel
theorem dX3_countInState_1 : decode cX3_countInState 1 = .ok (.istore_n 2, 1) := by decide +kernel
theorem dX3_countInState_2 : decode cX3_countInState 2 = .ok (.iconst 0, 1) := by decide +kernel
theorem dX3_countInState_3 : decode cX3_countInState 3 = .ok (.istore_n 3, 1) := by decide +kernel
theorem dX3_countInState_4 : decode cX3_countInState 4 = .ok (.iload_n 3, 1) := by decide +kernel
theorem dX3_countInState_5 : decode cX3_countInState 5 = .ok (.aload_n 0, 1) := by decide +kernel
theorem dX3_countInState_6 : decode cX3_countInState 6 = .ok (.getfield 25, 3) := by decide +kernel
theorem dX3_countInState_9 : decode cX3_countInState 9 = .ok (.if_icmp .ge 22, 3) := by decide +kernel
theorem dX3_countInState_12 : decode cX3_countInState 12 = .ok (.aload_n 0, 1) := by decide +kernel
theorem dX3_countInState_13 : decode cX3_countInState 13 = .ok (.getfield 18, 3) := by decide +kernel
theorem dX3_countInState_16 : decode cX3_countInState 16 = .ok (.iload_n 3, 1) := by decide +kernel
theorem dX3_countInState_17 : decode cX3_countInState 17 = .ok (.caload, 1) := by decide +kernel
theorem dX3_countInState_18 : decode cX3_countInState 18 = .ok (.iload_n 1, 1) := by decide +kernel
theorem dX3_countInState_19 : decode cX3_countInState 19 = .ok (.if_icmp .ne 6, 3) := by decide +kernel
theorem dX3_countInState_22 : decode cX3_countInState 22 = .ok (.iinc 2 1, 3) := by decide +kernel
theorem dX3_countInState_25 : decode cX3_countInState 25 = .ok (.iinc 3 1, 3) := by decide +kernel
theorem dX3_countInState_28 : decode cX3_countInState 28 = .ok (.goto (-24), 3) := by decide +kernel
theorem dX3_countInState_31 : decode cX3_countInState 31 = .ok (.iload_n 2, 1) := by decide +kernel
theorem dX3_countInState_32 : decode cX3_countInState 32 = .ok (.ireturn, 1) := by decide +kernel
theorem dX3_countLate_0 : decode cX3_countLate 0 = .ok (.iconst 0, 1) := by decide +kernel
theorem dX3_countLate_1 : decode cX3_countLate 1 = .ok (.istore_n 2, 1) := by decide +kernel
theorem dX3_countLate_2 : decode cX3_countLate 2 = .ok (.iconst 0, 1) := by decide +kernel
theorem dX3_countLate_3 : decode cX3_countLate 3 = .ok (.istore_n 3, 1) := by decide +kernel
theorem dX3_countLate_4 : decode cX3_countLate 4 = .ok (.iload_n 3, 1) := by decide +kernel
theorem dX3_countLate_5 : decode cX3_countLate 5 = .ok (.aload_n 0, 1) := by decide +kernel
theorem dX3_countLate_6 : decode cX3_countLate 6 = .ok (.getfield 25, 3) := by decide +kernel
theorem dX3_countLate_9 : decode cX3_countLate 9 = .ok (.if_icmp .ge 36, 3) := by decide +kernel
theorem dX3_countLate_12 : decode cX3_countLate 12 = .ok (.aload_n 0, 1) := by decide +kernel
theorem dX3_countLate_13 : decode cX3_countLate 13 = .ok (.getfield 18, 3) := by decide +kernel
theorem dX3_countLate_16 : decode cX3_countLate 16 = .ok (.iload_n 3, 1) := by decide +kernel
theorem dX3_countLate_17 : decode cX3_countLate 17 = .ok (.caload, 1) := by decide +kernel
theorem dX3_countLate_18 : decode cX3_countLate 18 = .ok (.bipush 119, 2) := by decide +kernel
theorem dX3_countLate_20 : decode cX3_countLate 20 = .ok (.if_icmp .ne 19, 3) := by decide +kernel
theorem dX3_countLate_23 : decode cX3_countLate 23 = .ok (.iload_n 1, 1) := by decide +kernel
theorem dX3_countLate_24 : decode cX3_countLate 24 = .ok (.aload_n 0, 1) := by decide +kernel
theorem dX3_countLate_25 : decode cX3_countLate 25 = .ok (.getfield 22, 3) := by decide +kernel
theorem dX3_countLate_28 : decode cX3_countLate 28 = .ok (.iload_n 3, 1) := by decide +kernel
theorem dX3_countLate_29 : decode cX3_countLate 29 = .ok (.iaload, 1) := by decide +kernel
theorem dX3_countLate_30 : decode cX3_countLate 30 = .ok (.isub, 1) := by decide +kernel
theorem dX3_countLate_31 : decode cX3_countLate 31 = .ok (.bipush 20, 2) := by decide +kernel
theorem dX3_countLate_33 : decode cX3_countLate 33 = .ok (.if_icmp .le 6, 3) := by decide +kernel
theorem dX3_countLate_36 : decode cX3_countLate 36 = .ok (.iinc 2 1, 3) := by decide +kernel
theorem dX3_countLate_39 : decode cX3_countLate 39 = .ok (.iinc 3 1, 3) := by decide +kernel
theorem dX3_countLate_42 : decode cX3_countLate 42 = .ok (.goto (-38), 3) := by decide +kernel
theorem dX3_countLate_45 : decode cX3_countLate 45 = .ok (.iload_n 2, 1) := by decide +kernel
theorem dX3_countLate_46 : decode cX3_countLate 46 = .ok (.ireturn, 1) := by decide +kernel
end
section
theorem dX4_init_0 : decode cX4_init 0 = .ok (.aload_n 0, 1) := by decide +kernel
theorem dX4_init_1 : decode cX4_init 1 = .ok (.invokespecial 3, 3) := by decide +kernel
theorem dX4_init_4 : decode cX4_init 4 = .ok (.aload_n 0, 1) := by decide +kernel
theorem dX4_init_5 : decode cX4_init 5 = .ok (.bipush 8, 2) := by decide +kernel
theorem dX4_init_7 : decode cX4_init 7 = .ok (.newarray .int, 2) := by decide +kernel
theorem dX4_init_9 : decode cX4_init 9 = .ok (.putfield 9, 3) := by decide +kernel
theorem dX4_init_12 : decode cX4_init 12 = .ok (.aload_n 0, 1) := by decide +kernel
theorem dX4_init_13 : decode cX4_init 13 = .ok (.bipush 8, 2) := by decide +kernel
theorem dX4_init_15 : decode cX4_init 15 = .ok (.newarray .int, 2) := by decide +kernel
theorem dX4_init_17 : decode cX4_init 17 = .ok (.putfield 15, 3) := by decide +kernel
theorem dX4_init_20 : decode cX4_init 20 = .ok (.aload_n 0, 1) := by decide +kernel
theorem dX4_init_21 : decode cX4_init 21 = .ok (.bipush 8, 2) := by decide +kernel
theorem dX4_init_23 : decode cX4_init 23 = .ok (.newarray .int, 2) := by decide +kernel
theorem dX4_init_25 : decode cX4_init 25 = .ok (.putfield 18, 3) := by decide +kernel
theorem dX4_init_28 : decode cX4_init 28 = .ok (.return_, 1) := by decide +kernel
theorem dX4_append_0 : decode cX4_append 0 = .ok (.aload_n 0, 1) := by decide +kernel
theorem dX4_append_1 : decode cX4_append 1 = .ok (.getfield 21, 3) := by decide +kernel
theorem dX4_append_4 : decode cX4_append 4 = .ok (.bipush 8, 2) := by decide +kernel
theorem dX4_append_6 : decode cX4_append 6 = .ok (.if_icmp .lt 13, 3) := by decide +kernel
theorem dX4_append_9 : decode cX4_append 9 = .ok (.new 25, 3) := by decide +kernel
theorem dX4_append_12 : decode cX4_append 12 = .ok (.dup, 1) := by decide +kernel
theorem dX4_append_13 : decode cX4_append 13 = .ok (.ldc 27, 2) := by decide +kernel
theorem dX4_append_15 : decode cX4_append 15 = .ok (.invokespecial 29, 3) := by decide +kernel
theorem dX4_append_18 : decode cX4_append 18 = .ok (.athrow, 1) := by decide +kernel
theorem dX4_append_19 : decode cX4_append 19 = .ok (.aload_n 0, 1) := by decide +kernel
theorem dX4_append_20 : decode cX4_append 20 = .ok (.getfield 9, 3) := by decide +kernel
theorem dX4_append_23 : decode cX4_append 23 = .ok (.aload_n 0, 1) := by decide +kernel
theorem dX4_append_24 : decode cX4_append 24 = .ok (.getfield 21, 3) := by decide +kernel
theorem dX4_append_27 : decode cX4_append 27 = .ok (.iload_n 1, 1) := by decide +kernel
theorem dX4_append_28 : decode cX4_append 28 = .ok (.iastore, 1) := by decide +kernel
theorem dX4_append_29 : decode cX4_append 29 = .ok (.aload_n 0, 1) := by decide +kernel
theorem dX4_append_30 : decode cX4_append 30 = .ok (.getfield 15, 3) := by decide +kernel
theorem dX4_append_33 : decode cX4_append 33 = .ok (.aload_n 0, 1) := by decide +kernel
theorem dX4_append_34 : decode cX4_append 34 = .ok (.getfield 21, 3) := by decide +kernel
theorem dX4_append_37 : decode cX4_append 37 = .ok (.iload_n 2, 1) := by decide +kernel
theorem dX4_append_38 : decode cX4_append 38 = .ok (.iastore, 1) := by decide +kernel
theorem dX4_append_39 : decode cX4_append 39 = .ok (.aload_n 0, 1) := by decide +kernel
theorem dX4_append_40 : decode cX4_append 40 = .ok (.getfield 18, 3) := by decide +kernel
theorem dX4_append_43 : decode cX4_append 43 = .ok (.aload_n 0, 1) := by decide +kernel
theorem dX4_append_44 : decode cX4_append 44 = .ok (.getfield 21, 3) := by decide +kernel
theorem dX4_append_47 : decode cX4_append 47 = .ok (.iload_n 3, 1) := by decide +kernel
theorem dX4_append_48 : decode cX4_append 48 = .ok (.iastore, 1) := by decide +kernel
theorem dX4_append_49 : decode cX4_append 49 = .ok (.aload_n 0, 1) := by decide +kernel
theorem dX4_append_50 : decode cX4_append 50 = .ok (.dup, 1) := by decide +kernel
theorem dX4_append_51 : decode cX4_append 51 = .ok (.getfield 21, 3) := by decide +kernel
theorem dX4_append_54 : decode cX4_append 54 = .ok (.iconst 1, 1) := by decide +kernel
theorem dX4_append_55 : decode cX4_append 55 = .ok (.iadd, 1) := by decide +kernel
theorem dX4_append_56 : decode cX4_append 56 = .ok (.putfield 21, 3) := by decide +kernel
theorem dX4_append_59 : decode cX4_append 59 = .ok (.aload_n 0, 1) := by decide +kernel
theorem dX4_append_60 : decode cX4_append 60 = .ok (.getfield 21, 3) := by decide +kernel
theorem dX4_append_63 : decode cX4_append 63 = .ok (.iconst 1, 1) := by decide +kernel
theorem dX4_append_64 : decode cX4_append 64 = .ok (.isub, 1) := by decide +kernel
theorem dX4_append_65 : decode cX4_append 65 = .ok (.ireturn, 1) := by decide +kernel
theorem dX4_hide_0 : decode cX4_hide 0 = .ok (.iconst 0, 1) := by decide +kernel
theorem dX4_hide_1 : decode cX4_hide 1 = .ok (.istore_n 3, 1) := by decide +kernel
theorem dX4_hide_2 : decode cX4_hide 2 = .ok (.iload_n 3, 1) := by decide +kernel
theorem dX4_hide_3 : decode cX4_hide 3 = .ok (.aload_n 0, 1) := by decide +kernel
theorem dX4_hide_4 : decode cX4_hide 4 = .ok (.getfield 21, 3) := by decide +kernel
theorem dX4_hide_7 : decode cX4_hide 7 = .ok (.if_icmp .ge 41, 3) := by decide +kernel
theorem dX4_hide_10 : decode cX4_hide 10 = .ok (.iload_n 2, 1) := by decide +kernel
theorem dX4_hide_11 : decode cX4_hide 11 = .ok (.aload_n 0, 1) := by decide +kernel
theorem dX4_hide_12 : decode cX4_hide 12 = .ok (.getfield 18, 3) := by decide +kernel
theorem dX4_hide_15 : decode cX4_hide 15 = .ok (.iload_n 3, 1) := by decide +kernel
theorem dX4_hide_16 : decode cX4_hide 16 = .ok (.iaload, 1) := by decide +kernel
theorem dX4_hide_17 : decode cX4_hide 17 = .ok (.if_icmp .gt 25, 3) := by decide +kernel
theorem dX4_hide_20 : decode cX4_hide 20 = .ok (.aload_n 0, 1) := by decide +kernel
theorem dX4_hide_21 : decode cX4_hide 21 = .ok (.getfield 9, 3) := by decide +kernel
theorem dX4_hide_24 : decode cX4_hide 24 = .ok (.iload_n 3, 1) := by decide +kernel
theorem dX4_hide_25 : decode cX4_hide 25 = .ok (.iaload, 1) := by decide +kernel
theorem dX4_hide_26 : decode cX4_hide 26 = .ok (.iload_n 1, 1) := by decide +kernel
theorem dX4_hide_27 : decode cX4_hide 27 = .ok (.if_icmp .gt 15, 3) := by decide +kernel
theorem dX4_hide_30 : decode cX4_hide 30 = .ok (.iload_n 1, 1) := by decide +kernel
theorem dX4_hide_31 : decode cX4_hide 31 = .ok (.aload_n 0, 1) := by decide +kernel
theorem dX4_hide_32 : decode cX4_hide 32 = .ok (.getfield 15, 3) := by decide +kernel
theorem dX4_hide_35 : decode cX4_hide 35 = .ok (.iload_n 3, 1) := by decide +kernel
theorem dX4_hide_36 : decode cX4_hide 36 = .ok (.iaload, 1) := by decide +kernel
theorem dX4_hide_37 : decode cX4_hide 37 = .ok (.if_icmp .gt 5, 3) := by decide +kernel
theorem dX4_hide_40 : decode cX4_hide 40 = .ok (.iconst 1, 1) := by decide +kernel
theorem dX4_hide_41 : decode cX4_hide 41 = .ok (.ireturn, 1) := by decide +kernel
theorem dX4_hide_42 : decode cX4_hide 42 = .ok (.iinc 3 1, 3) := by decide +kernel
theorem dX4_hide_45 : decode cX4_hide 45 = .ok (.goto (-43), 3) := by decide +kernel
theorem dX4_hide_48 : decode cX4_hide 48 = .ok (.iconst 0, 1) := by decide +kernel
theorem dX4_hide_49 : decode cX4_hide 49 = .ok (.ireturn, 1) := by decide +kernel
end
section
theorem dX5_init_0 : decode cX5_init 0 = .ok (.aload_n 0, 1) := by decide +kernel
theorem dX5_init_1 : decode cX5_init 1 = .ok (.invokespecial 3, 3) := by decide +kernel
theorem dX5_init_4 : decode cX5_init 4 = .ok (.aload_n 0, 1) := by decide +kernel
theorem dX5_init_5 : decode cX5_init 5 = .ok (.bipush 12, 2) := by decide +kernel
theorem dX5_init_7 : decode cX5_init 7 = .ok (.newarray .int, 2) := by decide +kernel
theorem dX5_init_9 : decode cX5_init 9 = .ok (.putfield 9, 3) := by decide +kernel
theorem dX5_init_12 : decode cX5_init 12 = .ok (.aload_n 0, 1) := by decide +kernel
theorem dX5_init_13 : decode cX5_init 13 = .ok (.bipush 12, 2) := by decide +kernel
theorem dX5_init_15 : decode cX5_init 15 = .ok (.newarray .int, 2) := by decide +kernel
theorem dX5_init_17 : decode cX5_init 17 = .ok (.putfield 15, 3) := by decide +kernel
theorem dX5_init_20 : decode cX5_init 20 = .ok (.aload_n 0, 1) := by decide +kernel
theorem dX5_init_21 : decode cX5_init 21 = .ok (.bipush 12, 2) := by decide +kernel
theorem dX5_init_23 : decode cX5_init 23 = .ok (.newarray .int, 2) := by decide +kernel
theorem dX5_init_25 : decode cX5_init 25 = .ok (.putfield 18, 3) := by decide +kernel
theorem dX5_init_28 : decode cX5_init 28 = .ok (.aload_n 0, 1) := by decide +kernel
theorem dX5_init_29 : decode cX5_init 29 = .ok (.bipush 12, 2) := by decide +kernel
theorem dX5_init_31 : decode cX5_init 31 = .ok (.newarray .int, 2) := by decide +kernel
theorem dX5_init_33 : decode cX5_init 33 = .ok (.putfield 21, 3) := by decide +kernel
theorem dX5_init_36 : decode cX5_init 36 = .ok (.aload_n 0, 1) := by decide +kernel
theorem dX5_init_37 : decode cX5_init 37 = .ok (.bipush 12, 2) := by decide +kernel
theorem dX5_init_39 : decode cX5_init 39 = .ok (.newarray .boolean, 2) := by decide +kernel
theorem dX5_init_41 : decode cX5_init 41 = .ok (.putfield 24, 3) := by decide +kernel
theorem dX5_init_44 : decode cX5_init 44 = .ok (.return_, 1) := by decide +kernel
theorem dX5_append_0 : decode cX5_append 0 = .ok (.aload_n 0, 1) := by decide +kernel
theorem dX5_append_1 : decode cX5_append 1 = .ok (.getfield 28, 3) := by decide +kernel
theorem dX5_append_4 : decode cX5_append 4 = .ok (.bipush 12, 2) := by decide +kernel
theorem dX5_append_6 : decode cX5_append 6 = .ok (.if_icmp .lt 13, 3) := by decide +kernel
theorem dX5_append_9 : decode cX5_append 9 = .ok (.new 32, 3) := by decide +kernel
theorem dX5_append_12 : decode cX5_append 12 = .ok (.dup, 1) := by decide +kernel
theorem dX5_append_13 : decode cX5_append 13 = .ok (.ldc 34, 2) := by decide +kernel
theorem dX5_append_15 : decode cX5_append 15 = .ok (.invokespecial 36, 3) := by decide +kernel
theorem dX5_append_18 : decode cX5_append 18 = .ok (.athrow, 1) := by decide +kernel
theorem dX5_append_19 : decode cX5_append 19 = .ok (.aload_n 0, 1) := by decide +kernel
theorem dX5_append_20 : decode cX5_append 20 = .ok (.getfield 9, 3) := by decide +kernel
theorem dX5_append_23 : decode cX5_append 23 = .ok (.aload_n 0, 1) := by decide +kernel
theorem dX5_append_24 : decode cX5_append 24 = .ok (.getfield 28, 3) := by decide +kernel
theorem dX5_append_27 : decode cX5_append 27 = .ok (.iload_n 1, 1) := by decide +kernel
theorem dX5_append_28 : decode cX5_append 28 = .ok (.iastore, 1) := by decide +kernel
theorem dX5_append_29 : decode cX5_append 29 = .ok (.aload_n 0, 1) := by decide +kernel
theorem dX5_append_30 : decode cX5_append 30 = .ok (.getfield 15, 3) := by decide +kernel
theorem dX5_append_33 : decode cX5_append 33 = .ok (.aload_n 0, 1) := by decide +kernel
theorem dX5_append_34 : decode cX5_append 34 = .ok (.getfield 28, 3) := by decide +kernel
theorem dX5_append_37 : decode cX5_append 37 = .ok (.iload_n 2, 1) := by decide +kernel
theorem dX5_append_38 : decode cX5_append 38 = .ok (.iastore, 1) := by decide +kernel
theorem dX5_append_39 : decode cX5_append 39 = .ok (.aload_n 0, 1) := by decide +kernel
theorem dX5_append_40 : decode cX5_append 40 = .ok (.getfield 18, 3) := by decide +kernel
theorem dX5_append_43 : decode cX5_append 43 = .ok (.aload_n 0, 1) := by decide +kernel
theorem dX5_append_44 : decode cX5_append 44 = .ok (.getfield 28, 3) := by decide +kernel
theorem dX5_append_47 : decode cX5_append 47 = .ok (.iload_n 3, 1) := by decide +kernel
theorem dX5_append_48 : decode cX5_append 48 = .ok (.iastore, 1) := by decide +kernel
theorem dX5_append_49 : decode cX5_append 49 = .ok (.aload_n 0, 1) := by decide +kernel
theorem dX5_append_50 : decode cX5_append 50 = .ok (.getfield 21, 3) := by decide +kernel
theorem dX5_append_53 : decode cX5_append 53 = .ok (.aload_n 0, 1) := by decide +kernel
theorem dX5_append_54 : decode cX5_append 54 = .ok (.getfield 28, 3) := by decide +kernel
theorem dX5_append_57 : decode cX5_append 57 = .ok (.iload 4, 2) := by decide +kernel
theorem dX5_append_59 : decode cX5_append 59 = .ok (.iastore, 1) := by decide +kernel
theorem dX5_append_60 : decode cX5_append 60 = .ok (.aload_n 0, 1) := by decide +kernel
theorem dX5_append_61 : decode cX5_append 61 = .ok (.dup, 1) := by decide +kernel
theorem dX5_append_62 : decode cX5_append 62 = .ok (.getfield 28, 3) := by decide +kernel
theorem dX5_append_65 : decode cX5_append 65 = .ok (.iconst 1, 1) := by decide +kernel
theorem dX5_append_66 : decode cX5_append 66 = .ok (.iadd, 1) := by decide +kernel
theorem dX5_append_67 : decode cX5_append 67 = .ok (.putfield 28, 3) := by decide +kernel
theorem dX5_append_70 : decode cX5_append 70 = .ok (.aload_n 0, 1) := by decide +kernel
theorem dX5_append_71 : decode cX5_append 71 = .ok (.getfield 28, 3) := by decide +kernel
theorem dX5_append_74 : decode cX5_append 74 = .ok (.iconst 1, 1) := by decide +kernel
theorem dX5_append_75 : decode cX5_append 75 = .ok (.isub, 1) := by decide +kernel
theorem dX5_append_76 : decode cX5_append 76 = .ok (.ireturn, 1) := by decide +kernel
theorem dX5_has_0 : decode cX5_has 0 = .ok (.iload_n 1, 1) := by decide +kernel
theorem dX5_has_1 : decode cX5_has 1 = .ok (.ifCond .lt 15, 3) := by decide +kernel
theorem dX5_has_4 : decode cX5_has 4 = .ok (.iload_n 1, 1) := by decide +kernel
theorem dX5_has_5 : decode cX5_has 5 = .ok (.aload_n 0, 1) := by decide +kernel
theorem dX5_has_6 : decode cX5_has 6 = .ok (.getfield 28, 3) := by decide +kernel
theorem dX5_has_9 : decode cX5_has 9 = .ok (.if_icmp .ge 7, 3) := by decide +kernel
theorem dX5_has_12 : decode cX5_has 12 = .ok (.iconst 1, 1) := by decide +kernel
theorem dX5_has_13 : decode cX5_has 13 = .ok (.goto 4, 3) := by decide +kernel
theorem dX5_has_16 : decode cX5_has 16 = .ok (.iconst 0, 1) := by decide +kernel
theorem dX5_has_17 : decode cX5_has 17 = .ok (.ireturn, 1) := by decide +kernel
theorem dX5_isInForce_0 : decode cX5_isInForce 0 = .ok (.aload_n 0, 1) := by decide +kernel
theorem dX5_isInForce_1 : decode cX5_isInForce 1 = .ok (.getfield 24, 3) := by decide +kernel
theorem dX5_isInForce_4 : decode cX5_isInForce 4 = .ok (.iload_n 1, 1) := by decide +kernel
theorem dX5_isInForce_5 : decode cX5_isInForce 5 = .ok (.baload, 1) := by decide +kernel
theorem dX5_isInForce_6 : decode cX5_isInForce 6 = .ok (.ifCond .ne 17, 3) := by decide +kernel
theorem dX5_isInForce_9 : decode cX5_isInForce 9 = .ok (.iload_n 2, 1) := by decide +kernel
theorem dX5_isInForce_10 : decode cX5_isInForce 10 = .ok (.aload_n 0, 1) := by decide +kernel
theorem dX5_isInForce_11 : decode cX5_isInForce 11 = .ok (.getfield 21, 3) := by decide +kernel
theorem dX5_isInForce_14 : decode cX5_isInForce 14 = .ok (.iload_n 1, 1) := by decide +kernel
theorem dX5_isInForce_15 : decode cX5_isInForce 15 = .ok (.iaload, 1) := by decide +kernel
theorem dX5_isInForce_16 : decode cX5_isInForce 16 = .ok (.if_icmp .gt 7, 3) := by decide +kernel
theorem dX5_isInForce_19 : decode cX5_isInForce 19 = .ok (.iconst 1, 1) := by decide +kernel
theorem dX5_isInForce_20 : decode cX5_isInForce 20 = .ok (.goto 4, 3) := by decide +kernel
theorem dX5_isInForce_23 : decode cX5_isInForce 23 = .ok (.iconst 0, 1) := by decide +kernel
theorem dX5_isInForce_24 : decode cX5_isInForce 24 = .ok (.ireturn, 1) := by decide +kernel
theorem dX5_hide_0 : decode cX5_hide 0 = .ok (.iconst 0, 1) := by decide +kernel
theorem dX5_hide_1 : decode cX5_hide 1 = .ok (.istore 4, 2) := by decide +kernel
theorem dX5_hide_3 : decode cX5_hide 3 = .ok (.iload 4, 2) := by decide +kernel
theorem dX5_hide_5 : decode cX5_hide 5 = .ok (.aload_n 0, 1) := by decide +kernel
theorem dX5_hide_6 : decode cX5_hide 6 = .ok (.getfield 28, 3) := by decide +kernel
theorem dX5_hide_9 : decode cX5_hide 9 = .ok (.if_icmp .ge 54, 3) := by decide +kernel
theorem dX5_hide_12 : decode cX5_hide 12 = .ok (.aload_n 0, 1) := by decide +kernel
theorem dX5_hide_13 : decode cX5_hide 13 = .ok (.iload 4, 2) := by decide +kernel
theorem dX5_hide_15 : decode cX5_hide 15 = .ok (.iload_n 3, 1) := by decide +kernel
theorem dX5_hide_16 : decode cX5_hide 16 = .ok (.invokevirtual 39, 3) := by decide +kernel
theorem dX5_hide_19 : decode cX5_hide 19 = .ok (.ifCond .eq 38, 3) := by decide +kernel
theorem dX5_hide_22 : decode cX5_hide 22 = .ok (.aload_n 0, 1) := by decide +kernel
theorem dX5_hide_23 : decode cX5_hide 23 = .ok (.getfield 9, 3) := by decide +kernel
theorem dX5_hide_26 : decode cX5_hide 26 = .ok (.iload 4, 2) := by decide +kernel
theorem dX5_hide_28 : decode cX5_hide 28 = .ok (.iaload, 1) := by decide +kernel
theorem dX5_hide_29 : decode cX5_hide 29 = .ok (.iload_n 1, 1) := by decide +kernel
theorem dX5_hide_30 : decode cX5_hide 30 = .ok (.if_icmp .ne 27, 3) := by decide +kernel
theorem dX5_hide_33 : decode cX5_hide 33 = .ok (.aload_n 0, 1) := by decide +kernel
theorem dX5_hide_34 : decode cX5_hide 34 = .ok (.getfield 15, 3) := by decide +kernel
theorem dX5_hide_37 : decode cX5_hide 37 = .ok (.iload 4, 2) := by decide +kernel
theorem dX5_hide_39 : decode cX5_hide 39 = .ok (.iaload, 1) := by decide +kernel
theorem dX5_hide_40 : decode cX5_hide 40 = .ok (.iload_n 2, 1) := by decide +kernel
theorem dX5_hide_41 : decode cX5_hide 41 = .ok (.if_icmp .gt 16, 3) := by decide +kernel
theorem dX5_hide_44 : decode cX5_hide 44 = .ok (.iload_n 2, 1) := by decide +kernel
theorem dX5_hide_45 : decode cX5_hide 45 = .ok (.aload_n 0, 1) := by decide +kernel
theorem dX5_hide_46 : decode cX5_hide 46 = .ok (.getfield 18, 3) := by decide +kernel
theorem dX5_hide_49 : decode cX5_hide 49 = .ok (.iload 4, 2) := by decide +kernel
theorem dX5_hide_51 : decode cX5_hide 51 = .ok (.iaload, 1) := by decide +kernel
theorem dX5_hide_52 : decode cX5_hide 52 = .ok (.if_icmp .gt 5, 3) := by decide +kernel
theorem dX5_hide_55 : decode cX5_hide 55 = .ok (.iconst 1, 1) := by decide +kernel
theorem dX5_hide_56 : decode cX5_hide 56 = .ok (.ireturn, 1) := by decide +kernel
theorem dX5_hide_57 : decode cX5_hide 57 = .ok (.iinc 4 1, 3) := by decide +kernel
theorem dX5_hide_60 : decode cX5_hide 60 = .ok (.goto (-57), 3) := by decide +kernel
theorem dX5_hide_63 : decode cX5_hide 63 = .ok (.iconst 0, 1) := by decide +kernel
theorem dX5_hide_64 : decode cX5_hide 64 = .ok (.ireturn, 1) := by decide +kernel
end
section
theorem dX6_init_0 : decode cX6_init 0 = .ok (.aload_n 0, 1) := by decide +kernel
theorem dX6_init_1 : decode cX6_init 1 = .ok (.invokespecial 3, 3) := by decide +kernel
theorem dX6_init_4 : decode cX6_init 4 = .ok (.aload_n 0, 1) := by decide +kernel
theorem dX6_init_5 : decode cX6_init 5 = .ok (.new 9, 3) := by decide +kernel
theorem dX6_init_8 : decode cX6_init 8 = .ok (.dup, 1) := by decide +kernel
theorem dX6_init_9 : decode cX6_init 9 = .ok (.invokespecial 11, 3) := by decide +kernel
theorem dX6_init_12 : decode cX6_init 12 = .ok (.putfield 12, 3) := by decide +kernel
theorem dX6_init_15 : decode cX6_init 15 = .ok (.aload_n 0, 1) := by decide +kernel
theorem dX6_init_16 : decode cX6_init 16 = .ok (.new 16, 3) := by decide +kernel
theorem dX6_init_19 : decode cX6_init 19 = .ok (.dup, 1) := by decide +kernel
theorem dX6_init_20 : decode cX6_init 20 = .ok (.invokespecial 18, 3) := by decide +kernel
theorem dX6_init_23 : decode cX6_init 23 = .ok (.putfield 19, 3) := by decide +kernel
theorem dX6_init_26 : decode cX6_init 26 = .ok (.aload_n 0, 1) := by decide +kernel
theorem dX6_init_27 : decode cX6_init 27 = .ok (.new 23, 3) := by decide +kernel
theorem dX6_init_30 : decode cX6_init 30 = .ok (.dup, 1) := by decide +kernel
theorem dX6_init_31 : decode cX6_init 31 = .ok (.invokespecial 25, 3) := by decide +kernel
theorem dX6_init_34 : decode cX6_init 34 = .ok (.putfield 26, 3) := by decide +kernel
theorem dX6_init_37 : decode cX6_init 37 = .ok (.aload_n 0, 1) := by decide +kernel
theorem dX6_init_38 : decode cX6_init 38 = .ok (.new 30, 3) := by decide +kernel
theorem dX6_init_41 : decode cX6_init 41 = .ok (.dup, 1) := by decide +kernel
theorem dX6_init_42 : decode cX6_init 42 = .ok (.invokespecial 32, 3) := by decide +kernel
theorem dX6_init_45 : decode cX6_init 45 = .ok (.putfield 33, 3) := by decide +kernel
theorem dX6_init_48 : decode cX6_init 48 = .ok (.aload_n 0, 1) := by decide +kernel
theorem dX6_init_49 : decode cX6_init 49 = .ok (.new 37, 3) := by decide +kernel
theorem dX6_init_52 : decode cX6_init 52 = .ok (.dup, 1) := by decide +kernel
theorem dX6_init_53 : decode cX6_init 53 = .ok (.invokespecial 39, 3) := by decide +kernel
theorem dX6_init_56 : decode cX6_init 56 = .ok (.putfield 40, 3) := by decide +kernel
theorem dX6_init_59 : decode cX6_init 59 = .ok (.aload_n 0, 1) := by decide +kernel
theorem dX6_init_60 : decode cX6_init 60 = .ok (.new 44, 3) := by decide +kernel
theorem dX6_init_63 : decode cX6_init 63 = .ok (.dup, 1) := by decide +kernel
theorem dX6_init_64 : decode cX6_init 64 = .ok (.invokespecial 46, 3) := by decide +kernel
theorem dX6_init_67 : decode cX6_init 67 = .ok (.putfield 47, 3) := by decide +kernel
theorem dX6_init_70 : decode cX6_init 70 = .ok (.aload_n 0, 1) := by decide +kernel
theorem dX6_init_71 : decode cX6_init 71 = .ok (.iconst 5, 1) := by decide +kernel
theorem dX6_init_72 : decode cX6_init 72 = .ok (.newarray .long, 2) := by decide +kernel
theorem dX6_init_74 : decode cX6_init 74 = .ok (.putfield 51, 3) := by decide +kernel
theorem dX6_init_77 : decode cX6_init 77 = .ok (.aload_n 0, 1) := by decide +kernel
theorem dX6_init_78 : decode cX6_init 78 = .ok (.iconst 5, 1) := by decide +kernel
theorem dX6_init_79 : decode cX6_init 79 = .ok (.newarray .int, 2) := by decide +kernel
theorem dX6_init_81 : decode cX6_init 81 = .ok (.putfield 55, 3) := by decide +kernel
theorem dX6_init_84 : decode cX6_init 84 = .ok (.aload_n 0, 1) := by decide +kernel
theorem dX6_init_85 : decode cX6_init 85 = .ok (.iconst 5, 1) := by decide +kernel
theorem dX6_init_86 : decode cX6_init 86 = .ok (.putfield 59, 3) := by decide +kernel
theorem dX6_init_89 : decode cX6_init 89 = .ok (.return_, 1) := by decide +kernel
theorem dX6_addDocument_0 : decode cX6_addDocument 0 = .ok (.aload_n 0, 1) := by decide +kernel
theorem dX6_addDocument_1 : decode cX6_addDocument 1 = .ok (.getfield 12, 3) := by decide +kernel
theorem dX6_addDocument_4 : decode cX6_addDocument 4 = .ok (.invokevirtual 63, 3) := by decide +kernel
theorem dX6_addDocument_7 : decode cX6_addDocument 7 = .ok (.ireturn, 1) := by decide +kernel
theorem dX6_addLine_0 : decode cX6_addLine 0 = .ok (.aload_n 0, 1) := by decide +kernel
theorem dX6_addLine_1 : decode cX6_addLine 1 = .ok (.iload_n 1, 1) := by decide +kernel
theorem dX6_addLine_2 : decode cX6_addLine 2 = .ok (.invokevirtual 67, 3) := by decide +kernel
theorem dX6_addLine_5 : decode cX6_addLine 5 = .ok (.iload_n 2, 1) := by decide +kernel
theorem dX6_addLine_6 : decode cX6_addLine 6 = .ok (.invokestatic 71, 3) := by decide +kernel
theorem dX6_addLine_9 : decode cX6_addLine 9 = .ok (.aload_n 0, 1) := by decide +kernel
theorem dX6_addLine_10 : decode cX6_addLine 10 = .ok (.getfield 12, 3) := by decide +kernel
theorem dX6_addLine_13 : decode cX6_addLine 13 = .ok (.iload_n 1, 1) := by decide +kernel
theorem dX6_addLine_14 : decode cX6_addLine 14 = .ok (.iload_n 2, 1) := by decide +kernel
theorem dX6_addLine_15 : decode cX6_addLine 15 = .ok (.invokevirtual 74, 3) := by decide +kernel
theorem dX6_addLine_18 : decode cX6_addLine 18 = .ok (.ireturn, 1) := by decide +kernel
theorem dX6_rescan_0 : decode cX6_rescan 0 = .ok (.aload_n 0, 1) := by decide +kernel
theorem dX6_rescan_1 : decode cX6_rescan 1 = .ok (.iload_n 1, 1) := by decide +kernel
theorem dX6_rescan_2 : decode cX6_rescan 2 = .ok (.invokevirtual 78, 3) := by decide +kernel
theorem dX6_rescan_5 : decode cX6_rescan 5 = .ok (.iload_n 2, 1) := by decide +kernel
theorem dX6_rescan_6 : decode cX6_rescan 6 = .ok (.invokestatic 71, 3) := by decide +kernel
theorem dX6_rescan_9 : decode cX6_rescan 9 = .ok (.aload_n 0, 1) := by decide +kernel
theorem dX6_rescan_10 : decode cX6_rescan 10 = .ok (.getfield 12, 3) := by decide +kernel
theorem dX6_rescan_13 : decode cX6_rescan 13 = .ok (.getfield 81, 3) := by decide +kernel
theorem dX6_rescan_16 : decode cX6_rescan 16 = .ok (.iload_n 1, 1) := by decide +kernel
theorem dX6_rescan_17 : decode cX6_rescan 17 = .ok (.iaload, 1) := by decide +kernel
theorem dX6_rescan_18 : decode cX6_rescan 18 = .ok (.istore_n 3, 1) := by decide +kernel
theorem dX6_rescan_19 : decode cX6_rescan 19 = .ok (.aload_n 0, 1) := by decide +kernel
theorem dX6_rescan_20 : decode cX6_rescan 20 = .ok (.getfield 12, 3) := by decide +kernel
theorem dX6_rescan_23 : decode cX6_rescan 23 = .ok (.getfield 81, 3) := by decide +kernel
theorem dX6_rescan_26 : decode cX6_rescan 26 = .ok (.iload_n 1, 1) := by decide +kernel
theorem dX6_rescan_27 : decode cX6_rescan 27 = .ok (.iload_n 2, 1) := by decide +kernel
theorem dX6_rescan_28 : decode cX6_rescan 28 = .ok (.iastore, 1) := by decide +kernel
theorem dX6_rescan_29 : decode cX6_rescan 29 = .ok (.iload_n 3, 1) := by decide +kernel
theorem dX6_rescan_30 : decode cX6_rescan 30 = .ok (.ireturn, 1) := by decide +kernel
theorem dX6_documentOf_0 : decode cX6_documentOf 0 = .ok (.aload_n 0, 1) := by decide +kernel
theorem dX6_documentOf_1 : decode cX6_documentOf 1 = .ok (.iload_n 1, 1) := by decide +kernel
theorem dX6_documentOf_2 : decode cX6_documentOf 2 = .ok (.invokevirtual 78, 3) := by decide +kernel
theorem dX6_documentOf_5 : decode cX6_documentOf 5 = .ok (.aload_n 0, 1) := by decide +kernel
theorem dX6_documentOf_6 : decode cX6_documentOf 6 = .ok (.getfield 12, 3) := by decide +kernel
theorem dX6_documentOf_9 : decode cX6_documentOf 9 = .ok (.getfield 84, 3) := by decide +kernel
theorem dX6_documentOf_12 : decode cX6_documentOf 12 = .ok (.iload_n 1, 1) := by decide +kernel
theorem dX6_documentOf_13 : decode cX6_documentOf 13 = .ok (.iaload, 1) := by decide +kernel
theorem dX6_documentOf_14 : decode cX6_documentOf 14 = .ok (.ireturn, 1) := by decide +kernel
theorem dX6_indexOf_0 : decode cX6_indexOf 0 = .ok (.aload_n 0, 1) := by decide +kernel
theorem dX6_indexOf_1 : decode cX6_indexOf 1 = .ok (.iload_n 1, 1) := by decide +kernel
theorem dX6_indexOf_2 : decode cX6_indexOf 2 = .ok (.invokevirtual 78, 3) := by decide +kernel
theorem dX6_indexOf_5 : decode cX6_indexOf 5 = .ok (.aload_n 0, 1) := by decide +kernel
theorem dX6_indexOf_6 : decode cX6_indexOf 6 = .ok (.getfield 12, 3) := by decide +kernel
theorem dX6_indexOf_9 : decode cX6_indexOf 9 = .ok (.getfield 87, 3) := by decide +kernel
theorem dX6_indexOf_12 : decode cX6_indexOf 12 = .ok (.iload_n 1, 1) := by decide +kernel
theorem dX6_indexOf_13 : decode cX6_indexOf 13 = .ok (.iaload, 1) := by decide +kernel
theorem dX6_indexOf_14 : decode cX6_indexOf 14 = .ok (.ireturn, 1) := by decide +kernel
theorem dX6_lines_0 : decode cX6_lines 0 = .ok (.aload_n 0, 1) := by decide +kernel
theorem dX6_lines_1 : decode cX6_lines 1 = .ok (.iload_n 1, 1) := by decide +kernel
theorem dX6_lines_2 : decode cX6_lines 2 = .ok (.invokevirtual 67, 3) := by decide +kernel
theorem dX6_lines_5 : decode cX6_lines 5 = .ok (.aload_n 0, 1) := by decide +kernel
theorem dX6_lines_6 : decode cX6_lines 6 = .ok (.getfield 12, 3) := by decide +kernel
theorem dX6_lines_9 : decode cX6_lines 9 = .ok (.getfield 90, 3) := by decide +kernel
theorem dX6_lines_12 : decode cX6_lines 12 = .ok (.iload_n 1, 1) := by decide +kernel
theorem dX6_lines_13 : decode cX6_lines 13 = .ok (.iaload, 1) := by decide +kernel
theorem dX6_lines_14 : decode cX6_lines 14 = .ok (.ireturn, 1) := by decide +kernel
theorem dX6_addRule_0 : decode cX6_addRule 0 = .ok (.iload_n 1, 1) := by decide +kernel
theorem dX6_addRule_1 : decode cX6_addRule 1 = .ok (.invokestatic 71, 3) := by decide +kernel
theorem dX6_addRule_4 : decode cX6_addRule 4 = .ok (.iload_n 2, 1) := by decide +kernel
theorem dX6_addRule_5 : decode cX6_addRule 5 = .ok (.invokestatic 71, 3) := by decide +kernel
theorem dX6_addRule_8 : decode cX6_addRule 8 = .ok (.iload_n 1, 1) := by decide +kernel
theorem dX6_addRule_9 : decode cX6_addRule 9 = .ok (.iload_n 2, 1) := by decide +kernel
theorem dX6_addRule_10 : decode cX6_addRule 10 = .ok (.invokestatic 93, 3) := by decide +kernel
theorem dX6_addRule_13 : decode cX6_addRule 13 = .ok (.aload_n 0, 1) := by decide +kernel
theorem dX6_addRule_14 : decode cX6_addRule 14 = .ok (.iload_n 3, 1) := by decide +kernel
theorem dX6_addRule_15 : decode cX6_addRule 15 = .ok (.invokevirtual 97, 3) := by decide +kernel
theorem dX6_addRule_18 : decode cX6_addRule 18 = .ok (.aload_n 0, 1) := by decide +kernel
theorem dX6_addRule_19 : decode cX6_addRule 19 = .ok (.getfield 19, 3) := by decide +kernel
theorem dX6_addRule_22 : decode cX6_addRule 22 = .ok (.iload_n 1, 1) := by decide +kernel
theorem dX6_addRule_23 : decode cX6_addRule 23 = .ok (.iload_n 2, 1) := by decide +kernel
theorem dX6_addRule_24 : decode cX6_addRule 24 = .ok (.iload_n 3, 1) := by decide +kernel
theorem dX6_addRule_25 : decode cX6_addRule 25 = .ok (.invokevirtual 100, 3) := by decide +kernel
theorem dX6_addRule_28 : decode cX6_addRule 28 = .ok (.ireturn, 1) := by decide +kernel
theorem dX6_addSpan_0 : decode cX6_addSpan 0 = .ok (.aload_n 0, 1) := by decide +kernel
theorem dX6_addSpan_1 : decode cX6_addSpan 1 = .ok (.iload_n 1, 1) := by decide +kernel
theorem dX6_addSpan_2 : decode cX6_addSpan 2 = .ok (.invokevirtual 67, 3) := by decide +kernel
theorem dX6_addSpan_5 : decode cX6_addSpan 5 = .ok (.iload_n 2, 1) := by decide +kernel
theorem dX6_addSpan_6 : decode cX6_addSpan 6 = .ok (.invokestatic 103, 3) := by decide +kernel
theorem dX6_addSpan_9 : decode cX6_addSpan 9 = .ok (.iload_n 3, 1) := by decide +kernel
theorem dX6_addSpan_10 : decode cX6_addSpan 10 = .ok (.invokestatic 103, 3) := by decide +kernel
theorem dX6_addSpan_13 : decode cX6_addSpan 13 = .ok (.iload_n 2, 1) := by decide +kernel
theorem dX6_addSpan_14 : decode cX6_addSpan 14 = .ok (.iload_n 3, 1) := by decide +kernel
theorem dX6_addSpan_15 : decode cX6_addSpan 15 = .ok (.invokestatic 93, 3) := by decide +kernel
theorem dX6_addSpan_18 : decode cX6_addSpan 18 = .ok (.aload_n 0, 1) := by decide +kernel
theorem dX6_addSpan_19 : decode cX6_addSpan 19 = .ok (.iload 4, 2) := by decide +kernel
theorem dX6_addSpan_21 : decode cX6_addSpan 21 = .ok (.invokevirtual 97, 3) := by decide +kernel
theorem dX6_addSpan_24 : decode cX6_addSpan 24 = .ok (.aload_n 0, 1) := by decide +kernel
theorem dX6_addSpan_25 : decode cX6_addSpan 25 = .ok (.getfield 26, 3) := by decide +kernel
theorem dX6_addSpan_28 : decode cX6_addSpan 28 = .ok (.iload_n 1, 1) := by decide +kernel
theorem dX6_addSpan_29 : decode cX6_addSpan 29 = .ok (.iload_n 2, 1) := by decide +kernel
theorem dX6_addSpan_30 : decode cX6_addSpan 30 = .ok (.iload_n 3, 1) := by decide +kernel
theorem dX6_addSpan_31 : decode cX6_addSpan 31 = .ok (.iload 4, 2) := by decide +kernel
theorem dX6_addSpan_33 : decode cX6_addSpan 33 = .ok (.invokevirtual 106, 3) := by decide +kernel
theorem dX6_addSpan_36 : decode cX6_addSpan 36 = .ok (.ireturn, 1) := by decide +kernel
theorem dX6_lift_0 : decode cX6_lift 0 = .ok (.aload_n 0, 1) := by decide +kernel
theorem dX6_lift_1 : decode cX6_lift 1 = .ok (.getfield 26, 3) := by decide +kernel
theorem dX6_lift_4 : decode cX6_lift 4 = .ok (.iload_n 1, 1) := by decide +kernel
theorem dX6_lift_5 : decode cX6_lift 5 = .ok (.invokevirtual 109, 3) := by decide +kernel
theorem dX6_lift_8 : decode cX6_lift 8 = .ok (.ifCond .ne 13, 3) := by decide +kernel
theorem dX6_lift_11 : decode cX6_lift 11 = .ok (.new 113, 3) := by decide +kernel
theorem dX6_lift_14 : decode cX6_lift 14 = .ok (.dup, 1) := by decide +kernel
theorem dX6_lift_15 : decode cX6_lift 15 = .ok (.ldc 115, 2) := by decide +kernel
theorem dX6_lift_17 : decode cX6_lift 17 = .ok (.invokespecial 117, 3) := by decide +kernel
theorem dX6_lift_20 : decode cX6_lift 20 = .ok (.athrow, 1) := by decide +kernel
theorem dX6_lift_21 : decode cX6_lift 21 = .ok (.aload_n 0, 1) := by decide +kernel
theorem dX6_lift_22 : decode cX6_lift 22 = .ok (.getfield 26, 3) := by decide +kernel
theorem dX6_lift_25 : decode cX6_lift 25 = .ok (.iload_n 1, 1) := by decide +kernel
theorem dX6_lift_26 : decode cX6_lift 26 = .ok (.aload_n 0, 1) := by decide +kernel
theorem dX6_lift_27 : decode cX6_lift 27 = .ok (.getfield 120, 3) := by decide +kernel
theorem dX6_lift_30 : decode cX6_lift 30 = .ok (.invokevirtual 123, 3) := by decide +kernel
theorem dX6_lift_33 : decode cX6_lift 33 = .ok (.ifCond .ne 13, 3) := by decide +kernel
theorem dX6_lift_36 : decode cX6_lift 36 = .ok (.new 127, 3) := by decide +kernel
theorem dX6_lift_39 : decode cX6_lift 39 = .ok (.dup, 1) := by decide +kernel
theorem dX6_lift_40 : decode cX6_lift 40 = .ok (.ldc 129, 2) := by decide +kernel
theorem dX6_lift_42 : decode cX6_lift 42 = .ok (.invokespecial 131, 3) := by decide +kernel
theorem dX6_lift_45 : decode cX6_lift 45 = .ok (.athrow, 1) := by decide +kernel
theorem dX6_lift_46 : decode cX6_lift 46 = .ok (.aload_n 0, 1) := by decide +kernel
theorem dX6_lift_47 : decode cX6_lift 47 = .ok (.invokevirtual 132, 3) := by decide +kernel
theorem dX6_lift_50 : decode cX6_lift 50 = .ok (.istore_n 2, 1) := by decide +kernel
theorem dX6_lift_51 : decode cX6_lift 51 = .ok (.aload_n 0, 1) := by decide +kernel
theorem dX6_lift_52 : decode cX6_lift 52 = .ok (.getfield 26, 3) := by decide +kernel
theorem dX6_lift_55 : decode cX6_lift 55 = .ok (.getfield 135, 3) := by decide +kernel
theorem dX6_lift_58 : decode cX6_lift 58 = .ok (.iload_n 1, 1) := by decide +kernel
theorem dX6_lift_59 : decode cX6_lift 59 = .ok (.iconst 1, 1) := by decide +kernel
theorem dX6_lift_60 : decode cX6_lift 60 = .ok (.bastore, 1) := by decide +kernel
theorem dX6_lift_61 : decode cX6_lift 61 = .ok (.iload_n 2, 1) := by decide +kernel
theorem dX6_lift_62 : decode cX6_lift 62 = .ok (.aload_n 0, 1) := by decide +kernel
theorem dX6_lift_63 : decode cX6_lift 63 = .ok (.invokevirtual 132, 3) := by decide +kernel
theorem dX6_lift_66 : decode cX6_lift 66 = .ok (.isub, 1) := by decide +kernel
theorem dX6_lift_67 : decode cX6_lift 67 = .ok (.ireturn, 1) := by decide +kernel
theorem dX6_isHidden_0 : decode cX6_isHidden 0 = .ok (.aload_n 0, 1) := by decide +kernel
theorem dX6_isHidden_1 : decode cX6_isHidden 1 = .ok (.iload_n 1, 1) := by decide +kernel
theorem dX6_isHidden_2 : decode cX6_isHidden 2 = .ok (.invokevirtual 78, 3) := by decide +kernel
theorem dX6_isHidden_5 : decode cX6_isHidden 5 = .ok (.aload_n 0, 1) := by decide +kernel
theorem dX6_isHidden_6 : decode cX6_isHidden 6 = .ok (.iload_n 1, 1) := by decide +kernel
theorem dX6_isHidden_7 : decode cX6_isHidden 7 = .ok (.invokevirtual 139, 3) := by decide +kernel
theorem dX6_isHidden_10 : decode cX6_isHidden 10 = .ok (.ireturn, 1) := by decide +kernel
theorem dX6_hidden_0 : decode cX6_hidden 0 = .ok (.aload_n 0, 1) := by decide +kernel
theorem dX6_hidden_1 : decode cX6_hidden 1 = .ok (.invokevirtual 132, 3) := by decide +kernel
theorem dX6_hidden_4 : decode cX6_hidden 4 = .ok (.ireturn, 1) := by decide +kernel
theorem dX6_addJoin_0 : decode cX6_addJoin 0 = .ok (.aload_n 0, 1) := by decide +kernel
theorem dX6_addJoin_1 : decode cX6_addJoin 1 = .ok (.iload_n 1, 1) := by decide +kernel
theorem dX6_addJoin_2 : decode cX6_addJoin 2 = .ok (.invokevirtual 78, 3) := by decide +kernel
theorem dX6_addJoin_5 : decode cX6_addJoin 5 = .ok (.aload_n 0, 1) := by decide +kernel
theorem dX6_addJoin_6 : decode cX6_addJoin 6 = .ok (.iload_n 2, 1) := by decide +kernel
theorem dX6_addJoin_7 : decode cX6_addJoin 7 = .ok (.invokevirtual 78, 3) := by decide +kernel
theorem dX6_addJoin_10 : decode cX6_addJoin 10 = .ok (.aload_n 0, 1) := by decide +kernel
theorem dX6_addJoin_11 : decode cX6_addJoin 11 = .ok (.iload_n 3, 1) := by decide +kernel
theorem dX6_addJoin_12 : decode cX6_addJoin 12 = .ok (.invokevirtual 78, 3) := by decide +kernel
theorem dX6_addJoin_15 : decode cX6_addJoin 15 = .ok (.iload_n 1, 1) := by decide +kernel
theorem dX6_addJoin_16 : decode cX6_addJoin 16 = .ok (.iload_n 2, 1) := by decide +kernel
theorem dX6_addJoin_17 : decode cX6_addJoin 17 = .ok (.if_icmp .eq 13, 3) := by decide +kernel
theorem dX6_addJoin_20 : decode cX6_addJoin 20 = .ok (.iload_n 1, 1) := by decide +kernel
theorem dX6_addJoin_21 : decode cX6_addJoin 21 = .ok (.iload_n 3, 1) := by decide +kernel
theorem dX6_addJoin_22 : decode cX6_addJoin 22 = .ok (.if_icmp .eq 8, 3) := by decide +kernel
theorem dX6_addJoin_25 : decode cX6_addJoin 25 = .ok (.iload_n 2, 1) := by decide +kernel
theorem dX6_addJoin_26 : decode cX6_addJoin 26 = .ok (.iload_n 3, 1) := by decide +kernel
theorem dX6_addJoin_27 : decode cX6_addJoin 27 = .ok (.if_icmp .ne 13, 3) := by decide +kernel
theorem dX6_addJoin_30 : decode cX6_addJoin 30 = .ok (.new 142, 3) := by decide +kernel
theorem dX6_addJoin_33 : decode cX6_addJoin 33 = .ok (.dup, 1) := by decide +kernel
theorem dX6_addJoin_34 : decode cX6_addJoin 34 = .ok (.ldc 144, 2) := by decide +kernel
theorem dX6_addJoin_36 : decode cX6_addJoin 36 = .ok (.invokespecial 146, 3) := by decide +kernel
theorem dX6_addJoin_39 : decode cX6_addJoin 39 = .ok (.athrow, 1) := by decide +kernel
theorem dX6_addJoin_40 : decode cX6_addJoin 40 = .ok (.aload_n 0, 1) := by decide +kernel
theorem dX6_addJoin_41 : decode cX6_addJoin 41 = .ok (.getfield 33, 3) := by decide +kernel
theorem dX6_addJoin_44 : decode cX6_addJoin 44 = .ok (.iload_n 1, 1) := by decide +kernel
theorem dX6_addJoin_45 : decode cX6_addJoin 45 = .ok (.iload_n 2, 1) := by decide +kernel
theorem dX6_addJoin_46 : decode cX6_addJoin 46 = .ok (.iload_n 3, 1) := by decide +kernel
theorem dX6_addJoin_47 : decode cX6_addJoin 47 = .ok (.invokevirtual 147, 3) := by decide +kernel
theorem dX6_addJoin_50 : decode cX6_addJoin 50 = .ok (.istore 4, 2) := by decide +kernel
theorem dX6_addJoin_52 : decode cX6_addJoin 52 = .ok (.aload_n 0, 1) := by decide +kernel
theorem dX6_addJoin_53 : decode cX6_addJoin 53 = .ok (.invokevirtual 148, 3) := by decide +kernel
theorem dX6_addJoin_56 : decode cX6_addJoin 56 = .ok (.iload 4, 2) := by decide +kernel
theorem dX6_addJoin_58 : decode cX6_addJoin 58 = .ok (.ireturn, 1) := by decide +kernel
theorem dX6_holds_0 : decode cX6_holds 0 = .ok (.iload_n 1, 1) := by decide +kernel
theorem dX6_holds_1 : decode cX6_holds 1 = .ok (.invokestatic 151, 3) := by decide +kernel
theorem dX6_holds_4 : decode cX6_holds 4 = .ok (.aload_n 0, 1) := by decide +kernel
theorem dX6_holds_5 : decode cX6_holds 5 = .ok (.iload_n 2, 1) := by decide +kernel
theorem dX6_holds_6 : decode cX6_holds 6 = .ok (.invokevirtual 78, 3) := by decide +kernel
theorem dX6_holds_9 : decode cX6_holds 9 = .ok (.aload_n 0, 1) := by decide +kernel
theorem dX6_holds_10 : decode cX6_holds 10 = .ok (.getfield 51, 3) := by decide +kernel
theorem dX6_holds_13 : decode cX6_holds 13 = .ok (.iload_n 1, 1) := by decide +kernel
theorem dX6_holds_14 : decode cX6_holds 14 = .ok (.laload, 1) := by decide +kernel
theorem dX6_holds_15 : decode cX6_holds 15 = .ok (.iload_n 2, 1) := by decide +kernel
theorem dX6_holds_16 : decode cX6_holds 16 = .ok (.invokestatic 154, 3) := by decide +kernel
theorem dX6_holds_19 : decode cX6_holds 19 = .ok (.ireturn, 1) := by decide +kernel
theorem dX6_holdsByLog_0 : decode cX6_holdsByLog 0 = .ok (.iload_n 1, 1) := by decide +kernel
theorem dX6_holdsByLog_1 : decode cX6_holdsByLog 1 = .ok (.invokestatic 151, 3) := by decide +kernel
theorem dX6_holdsByLog_4 : decode cX6_holdsByLog 4 = .ok (.aload_n 0, 1) := by decide +kernel
theorem dX6_holdsByLog_5 : decode cX6_holdsByLog 5 = .ok (.iload_n 2, 1) := by decide +kernel
theorem dX6_holdsByLog_6 : decode cX6_holdsByLog 6 = .ok (.invokevirtual 78, 3) := by decide +kernel
theorem dX6_holdsByLog_9 : decode cX6_holdsByLog 9 = .ok (.aload_n 0, 1) := by decide +kernel
theorem dX6_holdsByLog_10 : decode cX6_holdsByLog 10 = .ok (.getfield 33, 3) := by decide +kernel
theorem dX6_holdsByLog_13 : decode cX6_holdsByLog 13 = .ok (.aload_n 0, 1) := by decide +kernel
theorem dX6_holdsByLog_14 : decode cX6_holdsByLog 14 = .ok (.getfield 40, 3) := by decide +kernel
theorem dX6_holdsByLog_17 : decode cX6_holdsByLog 17 = .ok (.iload_n 1, 1) := by decide +kernel
theorem dX6_holdsByLog_18 : decode cX6_holdsByLog 18 = .ok (.invokevirtual 158, 3) := by decide +kernel
theorem dX6_holdsByLog_21 : decode cX6_holdsByLog 21 = .ok (.invokevirtual 162, 3) := by decide +kernel
theorem dX6_holdsByLog_24 : decode cX6_holdsByLog 24 = .ok (.iload_n 2, 1) := by decide +kernel
theorem dX6_holdsByLog_25 : decode cX6_holdsByLog 25 = .ok (.invokestatic 154, 3) := by decide +kernel
theorem dX6_holdsByLog_28 : decode cX6_holdsByLog 28 = .ok (.ireturn, 1) := by decide +kernel
theorem dX6_held_0 : decode cX6_held 0 = .ok (.iload_n 1, 1) := by decide +kernel
theorem dX6_held_1 : decode cX6_held 1 = .ok (.invokestatic 151, 3) := by decide +kernel
theorem dX6_held_4 : decode cX6_held 4 = .ok (.aload_n 0, 1) := by decide +kernel
theorem dX6_held_5 : decode cX6_held 5 = .ok (.getfield 51, 3) := by decide +kernel
theorem dX6_held_8 : decode cX6_held 8 = .ok (.iload_n 1, 1) := by decide +kernel
theorem dX6_held_9 : decode cX6_held 9 = .ok (.laload, 1) := by decide +kernel
theorem dX6_held_10 : decode cX6_held 10 = .ok (.invokestatic 166, 3) := by decide +kernel
theorem dX6_held_13 : decode cX6_held 13 = .ok (.ireturn, 1) := by decide +kernel
theorem dX6_given_0 : decode cX6_given 0 = .ok (.iload_n 1, 1) := by decide +kernel
theorem dX6_given_1 : decode cX6_given 1 = .ok (.invokestatic 151, 3) := by decide +kernel
theorem dX6_given_4 : decode cX6_given 4 = .ok (.aload_n 0, 1) := by decide +kernel
theorem dX6_given_5 : decode cX6_given 5 = .ok (.getfield 40, 3) := by decide +kernel
theorem dX6_given_8 : decode cX6_given 8 = .ok (.iload_n 1, 1) := by decide +kernel
theorem dX6_given_9 : decode cX6_given 9 = .ok (.invokevirtual 158, 3) := by decide +kernel
theorem dX6_given_12 : decode cX6_given 12 = .ok (.invokestatic 166, 3) := by decide +kernel
theorem dX6_given_15 : decode cX6_given 15 = .ok (.ireturn, 1) := by decide +kernel
theorem dX6_holders_0 : decode cX6_holders 0 = .ok (.aload_n 0, 1) := by decide +kernel
theorem dX6_holders_1 : decode cX6_holders 1 = .ok (.iload_n 1, 1) := by decide +kernel
theorem dX6_holders_2 : decode cX6_holders 2 = .ok (.invokevirtual 78, 3) := by decide +kernel
theorem dX6_holders_5 : decode cX6_holders 5 = .ok (.iconst 0, 1) := by decide +kernel
theorem dX6_holders_6 : decode cX6_holders 6 = .ok (.istore_n 2, 1) := by decide +kernel
theorem dX6_holders_7 : decode cX6_holders 7 = .ok (.iconst 0, 1) := by decide +kernel
theorem dX6_holders_8 : decode cX6_holders 8 = .ok (.istore_n 3, 1) := by decide +kernel
theorem dX6_holders_9 : decode cX6_holders 9 = .ok (.iload_n 3, 1) := by decide +kernel
theorem dX6_holders_10 : decode cX6_holders 10 = .ok (.iconst 5, 1) := by decide +kernel
theorem dX6_holders_11 : decode cX6_holders 11 = .ok (.if_icmp .ge 25, 3) := by decide +kernel
theorem dX6_holders_14 : decode cX6_holders 14 = .ok (.aload_n 0, 1) := by decide +kernel
theorem dX6_holders_15 : decode cX6_holders 15 = .ok (.getfield 51, 3) := by decide +kernel
theorem dX6_holders_18 : decode cX6_holders 18 = .ok (.iload_n 3, 1) := by decide +kernel
theorem dX6_holders_19 : decode cX6_holders 19 = .ok (.laload, 1) := by decide +kernel
theorem dX6_holders_20 : decode cX6_holders 20 = .ok (.iload_n 1, 1) := by decide +kernel
theorem dX6_holders_21 : decode cX6_holders 21 = .ok (.invokestatic 154, 3) := by decide +kernel
theorem dX6_holders_24 : decode cX6_holders 24 = .ok (.ifCond .eq 6, 3) := by decide +kernel
theorem dX6_holders_27 : decode cX6_holders 27 = .ok (.iinc 2 1, 3) := by decide +kernel
theorem dX6_holders_30 : decode cX6_holders 30 = .ok (.iinc 3 1, 3) := by decide +kernel
theorem dX6_holders_33 : decode cX6_holders 33 = .ok (.goto (-24), 3) := by decide +kernel
theorem dX6_holders_36 : decode cX6_holders 36 = .ok (.iload_n 2, 1) := by decide +kernel
theorem dX6_holders_37 : decode cX6_holders 37 = .ok (.ireturn, 1) := by decide +kernel
theorem dX6_why_0 : decode cX6_why 0 = .ok (.aload_n 0, 1) := by decide +kernel
theorem dX6_why_1 : decode cX6_why 1 = .ok (.iload_n 1, 1) := by decide +kernel
theorem dX6_why_2 : decode cX6_why 2 = .ok (.iload_n 2, 1) := by decide +kernel
theorem dX6_why_3 : decode cX6_why 3 = .ok (.invokevirtual 172, 3) := by decide +kernel
theorem dX6_why_6 : decode cX6_why 6 = .ok (.aload_n 0, 1) := by decide +kernel
theorem dX6_why_7 : decode cX6_why 7 = .ok (.iload_n 1, 1) := by decide +kernel
theorem dX6_why_8 : decode cX6_why 8 = .ok (.iload_n 2, 1) := by decide +kernel
theorem dX6_why_9 : decode cX6_why 9 = .ok (.invokevirtual 175, 3) := by decide +kernel
theorem dX6_why_12 : decode cX6_why 12 = .ok (.istore_n 3, 1) := by decide +kernel
theorem dX6_why_13 : decode cX6_why 13 = .ok (.iload_n 3, 1) := by decide +kernel
theorem dX6_why_14 : decode cX6_why 14 = .ok (.iconst (-1), 1) := by decide +kernel
theorem dX6_why_15 : decode cX6_why 15 = .ok (.if_icmp .ne 6, 3) := by decide +kernel
theorem dX6_why_18 : decode cX6_why 18 = .ok (.bipush 45, 2) := by decide +kernel
theorem dX6_why_20 : decode cX6_why 20 = .ok (.ireturn, 1) := by decide +kernel
theorem dX6_why_21 : decode cX6_why 21 = .ok (.iload_n 3, 1) := by decide +kernel
theorem dX6_why_22 : decode cX6_why 22 = .ok (.iload_n 2, 1) := by decide +kernel
theorem dX6_why_23 : decode cX6_why 23 = .ok (.if_icmp .eq 6, 3) := by decide +kernel
theorem dX6_why_26 : decode cX6_why 26 = .ok (.bipush 106, 2) := by decide +kernel
theorem dX6_why_28 : decode cX6_why 28 = .ok (.ireturn, 1) := by decide +kernel
theorem dX6_why_29 : decode cX6_why 29 = .ok (.aload_n 0, 1) := by decide +kernel
theorem dX6_why_30 : decode cX6_why 30 = .ok (.iload_n 2, 1) := by decide +kernel
theorem dX6_why_31 : decode cX6_why 31 = .ok (.invokevirtual 178, 3) := by decide +kernel
theorem dX6_why_34 : decode cX6_why 34 = .ok (.ifCond .eq 8, 3) := by decide +kernel
theorem dX6_why_37 : decode cX6_why 37 = .ok (.bipush 114, 2) := by decide +kernel
theorem dX6_why_39 : decode cX6_why 39 = .ok (.goto 5, 3) := by decide +kernel
theorem dX6_why_42 : decode cX6_why 42 = .ok (.bipush 115, 2) := by decide +kernel
theorem dX6_why_44 : decode cX6_why 44 = .ok (.ireturn, 1) := by decide +kernel
theorem dX6_root_0 : decode cX6_root 0 = .ok (.aload_n 0, 1) := by decide +kernel
theorem dX6_root_1 : decode cX6_root 1 = .ok (.iload_n 1, 1) := by decide +kernel
theorem dX6_root_2 : decode cX6_root 2 = .ok (.iload_n 2, 1) := by decide +kernel
theorem dX6_root_3 : decode cX6_root 3 = .ok (.invokevirtual 172, 3) := by decide +kernel
theorem dX6_root_6 : decode cX6_root 6 = .ok (.aload_n 0, 1) := by decide +kernel
theorem dX6_root_7 : decode cX6_root 7 = .ok (.iload_n 1, 1) := by decide +kernel
theorem dX6_root_8 : decode cX6_root 8 = .ok (.iload_n 2, 1) := by decide +kernel
theorem dX6_root_9 : decode cX6_root 9 = .ok (.invokevirtual 175, 3) := by decide +kernel
theorem dX6_root_12 : decode cX6_root 12 = .ok (.istore_n 3, 1) := by decide +kernel
theorem dX6_root_13 : decode cX6_root 13 = .ok (.iload_n 3, 1) := by decide +kernel
theorem dX6_root_14 : decode cX6_root 14 = .ok (.iconst (-1), 1) := by decide +kernel
theorem dX6_root_15 : decode cX6_root 15 = .ok (.if_icmp .ne 13, 3) := by decide +kernel
theorem dX6_root_18 : decode cX6_root 18 = .ok (.new 181, 3) := by decide +kernel
theorem dX6_root_21 : decode cX6_root 21 = .ok (.dup, 1) := by decide +kernel
theorem dX6_root_22 : decode cX6_root 22 = .ok (.ldc 183, 2) := by decide +kernel
theorem dX6_root_24 : decode cX6_root 24 = .ok (.invokespecial 185, 3) := by decide +kernel
theorem dX6_root_27 : decode cX6_root 27 = .ok (.athrow, 1) := by decide +kernel
theorem dX6_root_28 : decode cX6_root 28 = .ok (.aload_n 0, 1) := by decide +kernel
theorem dX6_root_29 : decode cX6_root 29 = .ok (.iload_n 3, 1) := by decide +kernel
theorem dX6_root_30 : decode cX6_root 30 = .ok (.invokevirtual 186, 3) := by decide +kernel
theorem dX6_root_33 : decode cX6_root 33 = .ok (.ifCond .eq 8, 3) := by decide +kernel
theorem dX6_root_36 : decode cX6_root 36 = .ok (.bipush 115, 2) := by decide +kernel
theorem dX6_root_38 : decode cX6_root 38 = .ok (.goto 5, 3) := by decide +kernel
theorem dX6_root_41 : decode cX6_root 41 = .ok (.bipush 114, 2) := by decide +kernel
theorem dX6_root_43 : decode cX6_root 43 = .ok (.ireturn, 1) := by decide +kernel
theorem dX6_causes_0 : decode cX6_causes 0 = .ok (.aload_n 0, 1) := by decide +kernel
theorem dX6_causes_1 : decode cX6_causes 1 = .ok (.iload_n 1, 1) := by decide +kernel
theorem dX6_causes_2 : decode cX6_causes 2 = .ok (.iload_n 2, 1) := by decide +kernel
theorem dX6_causes_3 : decode cX6_causes 3 = .ok (.invokevirtual 172, 3) := by decide +kernel
theorem dX6_causes_6 : decode cX6_causes 6 = .ok (.aload_n 0, 1) := by decide +kernel
theorem dX6_causes_7 : decode cX6_causes 7 = .ok (.iload_n 1, 1) := by decide +kernel
theorem dX6_causes_8 : decode cX6_causes 8 = .ok (.iload_n 2, 1) := by decide +kernel
theorem dX6_causes_9 : decode cX6_causes 9 = .ok (.invokevirtual 175, 3) := by decide +kernel
theorem dX6_causes_12 : decode cX6_causes 12 = .ok (.istore_n 3, 1) := by decide +kernel
theorem dX6_causes_13 : decode cX6_causes 13 = .ok (.iload_n 3, 1) := by decide +kernel
theorem dX6_causes_14 : decode cX6_causes 14 = .ok (.iconst (-1), 1) := by decide +kernel
theorem dX6_causes_15 : decode cX6_causes 15 = .ok (.if_icmp .ne 5, 3) := by decide +kernel
theorem dX6_causes_18 : decode cX6_causes 18 = .ok (.iconst 0, 1) := by decide +kernel
theorem dX6_causes_19 : decode cX6_causes 19 = .ok (.ireturn, 1) := by decide +kernel
theorem dX6_causes_20 : decode cX6_causes 20 = .ok (.iload_n 3, 1) := by decide +kernel
theorem dX6_causes_21 : decode cX6_causes 21 = .ok (.iload_n 2, 1) := by decide +kernel
theorem dX6_causes_22 : decode cX6_causes 22 = .ok (.if_icmp .ne 7, 3) := by decide +kernel
theorem dX6_causes_25 : decode cX6_causes 25 = .ok (.iconst 0, 1) := by decide +kernel
theorem dX6_causes_26 : decode cX6_causes 26 = .ok (.goto 4, 3) := by decide +kernel
theorem dX6_causes_29 : decode cX6_causes 29 = .ok (.iconst 1, 1) := by decide +kernel
theorem dX6_causes_30 : decode cX6_causes 30 = .ok (.istore 4, 2) := by decide +kernel
theorem dX6_causes_32 : decode cX6_causes 32 = .ok (.iload 4, 2) := by decide +kernel
theorem dX6_causes_34 : decode cX6_causes 34 = .ok (.aload_n 0, 1) := by decide +kernel
theorem dX6_causes_35 : decode cX6_causes 35 = .ok (.iload_n 3, 1) := by decide +kernel
theorem dX6_causes_36 : decode cX6_causes 36 = .ok (.invokevirtual 189, 3) := by decide +kernel
theorem dX6_causes_39 : decode cX6_causes 39 = .ok (.iadd, 1) := by decide +kernel
theorem dX6_causes_40 : decode cX6_causes 40 = .ok (.ireturn, 1) := by decide +kernel
theorem dX6_request_0 : decode cX6_request 0 = .ok (.iload_n 1, 1) := by decide +kernel
theorem dX6_request_1 : decode cX6_request 1 = .ok (.invokestatic 151, 3) := by decide +kernel
theorem dX6_request_4 : decode cX6_request 4 = .ok (.aload_n 0, 1) := by decide +kernel
theorem dX6_request_5 : decode cX6_request 5 = .ok (.iload_n 2, 1) := by decide +kernel
theorem dX6_request_6 : decode cX6_request 6 = .ok (.invokevirtual 67, 3) := by decide +kernel
theorem dX6_request_9 : decode cX6_request 9 = .ok (.aload_n 0, 1) := by decide +kernel
theorem dX6_request_10 : decode cX6_request 10 = .ok (.getfield 55, 3) := by decide +kernel
theorem dX6_request_13 : decode cX6_request 13 = .ok (.iload_n 1, 1) := by decide +kernel
theorem dX6_request_14 : decode cX6_request 14 = .ok (.iaload, 1) := by decide +kernel
theorem dX6_request_15 : decode cX6_request 15 = .ok (.bipush 100, 2) := by decide +kernel
theorem dX6_request_17 : decode cX6_request 17 = .ok (.if_icmp .le 13, 3) := by decide +kernel
theorem dX6_request_20 : decode cX6_request 20 = .ok (.new 193, 3) := by decide +kernel
theorem dX6_request_23 : decode cX6_request 23 = .ok (.dup, 1) := by decide +kernel
theorem dX6_request_24 : decode cX6_request 24 = .ok (.ldc 195, 2) := by decide +kernel
theorem dX6_request_26 : decode cX6_request 26 = .ok (.invokespecial 197, 3) := by decide +kernel
theorem dX6_request_29 : decode cX6_request 29 = .ok (.athrow, 1) := by decide +kernel
theorem dX6_request_30 : decode cX6_request 30 = .ok (.aload_n 0, 1) := by decide +kernel
theorem dX6_request_31 : decode cX6_request 31 = .ok (.getfield 47, 3) := by decide +kernel
theorem dX6_request_34 : decode cX6_request 34 = .ok (.iload_n 1, 1) := by decide +kernel
theorem dX6_request_35 : decode cX6_request 35 = .ok (.iload_n 2, 1) := by decide +kernel
theorem dX6_request_36 : decode cX6_request 36 = .ok (.invokevirtual 198, 3) := by decide +kernel
theorem dX6_request_39 : decode cX6_request 39 = .ok (.ifCond .eq 13, 3) := by decide +kernel
theorem dX6_request_42 : decode cX6_request 42 = .ok (.new 127, 3) := by decide +kernel
theorem dX6_request_45 : decode cX6_request 45 = .ok (.dup, 1) := by decide +kernel
theorem dX6_request_46 : decode cX6_request 46 = .ok (.ldc 201, 2) := by decide +kernel
theorem dX6_request_48 : decode cX6_request 48 = .ok (.invokespecial 131, 3) := by decide +kernel
theorem dX6_request_51 : decode cX6_request 51 = .ok (.athrow, 1) := by decide +kernel
theorem dX6_request_52 : decode cX6_request 52 = .ok (.aload_n 0, 1) := by decide +kernel
theorem dX6_request_53 : decode cX6_request 53 = .ok (.getfield 47, 3) := by decide +kernel
theorem dX6_request_56 : decode cX6_request 56 = .ok (.iload_n 1, 1) := by decide +kernel
theorem dX6_request_57 : decode cX6_request 57 = .ok (.iload_n 2, 1) := by decide +kernel
theorem dX6_request_58 : decode cX6_request 58 = .ok (.aload_n 0, 1) := by decide +kernel
theorem dX6_request_59 : decode cX6_request 59 = .ok (.getfield 120, 3) := by decide +kernel
theorem dX6_request_62 : decode cX6_request 62 = .ok (.invokevirtual 203, 3) := by decide +kernel
theorem dX6_request_65 : decode cX6_request 65 = .ok (.ireturn, 1) := by decide +kernel
theorem dX6_state_0 : decode cX6_state 0 = .ok (.aload_n 0, 1) := by decide +kernel
theorem dX6_state_1 : decode cX6_state 1 = .ok (.iload_n 1, 1) := by decide +kernel
theorem dX6_state_2 : decode cX6_state 2 = .ok (.invokevirtual 204, 3) := by decide +kernel
theorem dX6_state_5 : decode cX6_state 5 = .ok (.aload_n 0, 1) := by decide +kernel
theorem dX6_state_6 : decode cX6_state 6 = .ok (.getfield 47, 3) := by decide +kernel
theorem dX6_state_9 : decode cX6_state 9 = .ok (.getfield 207, 3) := by decide +kernel
theorem dX6_state_12 : decode cX6_state 12 = .ok (.iload_n 1, 1) := by decide +kernel
theorem dX6_state_13 : decode cX6_state 13 = .ok (.caload, 1) := by decide +kernel
theorem dX6_state_14 : decode cX6_state 14 = .ok (.ireturn, 1) := by decide +kernel
theorem dX6_answer_0 : decode cX6_answer 0 = .ok (.aload_n 0, 1) := by decide +kernel
theorem dX6_answer_1 : decode cX6_answer 1 = .ok (.iload_n 1, 1) := by decide +kernel
theorem dX6_answer_2 : decode cX6_answer 2 = .ok (.invokevirtual 204, 3) := by decide +kernel
theorem dX6_answer_5 : decode cX6_answer 5 = .ok (.aload_n 0, 1) := by decide +kernel
theorem dX6_answer_6 : decode cX6_answer 6 = .ok (.iload_n 1, 1) := by decide +kernel
theorem dX6_answer_7 : decode cX6_answer 7 = .ok (.invokevirtual 211, 3) := by decide +kernel
theorem dX6_answer_10 : decode cX6_answer 10 = .ok (.aload_n 0, 1) := by decide +kernel
theorem dX6_answer_11 : decode cX6_answer 11 = .ok (.getfield 47, 3) := by decide +kernel
theorem dX6_answer_14 : decode cX6_answer 14 = .ok (.getfield 207, 3) := by decide +kernel
theorem dX6_answer_17 : decode cX6_answer 17 = .ok (.iload_n 1, 1) := by decide +kernel
theorem dX6_answer_18 : decode cX6_answer 18 = .ok (.bipush 97, 2) := by decide +kernel
theorem dX6_answer_20 : decode cX6_answer 20 = .ok (.castore, 1) := by decide +kernel
theorem dX6_answer_21 : decode cX6_answer 21 = .ok (.aload_n 0, 1) := by decide +kernel
theorem dX6_answer_22 : decode cX6_answer 22 = .ok (.aload_n 0, 1) := by decide +kernel
theorem dX6_answer_23 : decode cX6_answer 23 = .ok (.getfield 47, 3) := by decide +kernel
theorem dX6_answer_26 : decode cX6_answer 26 = .ok (.getfield 214, 3) := by decide +kernel
theorem dX6_answer_29 : decode cX6_answer 29 = .ok (.iload_n 1, 1) := by decide +kernel
theorem dX6_answer_30 : decode cX6_answer 30 = .ok (.iaload, 1) := by decide +kernel
theorem dX6_answer_31 : decode cX6_answer 31 = .ok (.aload_n 0, 1) := by decide +kernel
theorem dX6_answer_32 : decode cX6_answer 32 = .ok (.getfield 47, 3) := by decide +kernel
theorem dX6_answer_35 : decode cX6_answer 35 = .ok (.getfield 217, 3) := by decide +kernel
theorem dX6_answer_38 : decode cX6_answer 38 = .ok (.iload_n 1, 1) := by decide +kernel
theorem dX6_answer_39 : decode cX6_answer 39 = .ok (.iaload, 1) := by decide +kernel
theorem dX6_answer_40 : decode cX6_answer 40 = .ok (.invokevirtual 218, 3) := by decide +kernel
theorem dX6_answer_43 : decode cX6_answer 43 = .ok (.ireturn, 1) := by decide +kernel
theorem dX6_withdraw_0 : decode cX6_withdraw 0 = .ok (.aload_n 0, 1) := by decide +kernel
theorem dX6_withdraw_1 : decode cX6_withdraw 1 = .ok (.iload_n 1, 1) := by decide +kernel
theorem dX6_withdraw_2 : decode cX6_withdraw 2 = .ok (.invokevirtual 204, 3) := by decide +kernel
theorem dX6_withdraw_5 : decode cX6_withdraw 5 = .ok (.aload_n 0, 1) := by decide +kernel
theorem dX6_withdraw_6 : decode cX6_withdraw 6 = .ok (.iload_n 1, 1) := by decide +kernel
theorem dX6_withdraw_7 : decode cX6_withdraw 7 = .ok (.invokevirtual 211, 3) := by decide +kernel
theorem dX6_withdraw_10 : decode cX6_withdraw 10 = .ok (.aload_n 0, 1) := by decide +kernel
theorem dX6_withdraw_11 : decode cX6_withdraw 11 = .ok (.getfield 47, 3) := by decide +kernel
theorem dX6_withdraw_14 : decode cX6_withdraw 14 = .ok (.getfield 207, 3) := by decide +kernel
theorem dX6_withdraw_17 : decode cX6_withdraw 17 = .ok (.iload_n 1, 1) := by decide +kernel
theorem dX6_withdraw_18 : decode cX6_withdraw 18 = .ok (.bipush 120, 2) := by decide +kernel
theorem dX6_withdraw_20 : decode cX6_withdraw 20 = .ok (.castore, 1) := by decide +kernel
theorem dX6_withdraw_21 : decode cX6_withdraw 21 = .ok (.aload_n 0, 1) := by decide +kernel
theorem dX6_withdraw_22 : decode cX6_withdraw 22 = .ok (.getfield 47, 3) := by decide +kernel
theorem dX6_withdraw_25 : decode cX6_withdraw 25 = .ok (.bipush 119, 2) := by decide +kernel
theorem dX6_withdraw_27 : decode cX6_withdraw 27 = .ok (.invokevirtual 221, 3) := by decide +kernel
theorem dX6_withdraw_30 : decode cX6_withdraw 30 = .ok (.ireturn, 1) := by decide +kernel
theorem dX6_setPrice_0 : decode cX6_setPrice 0 = .ok (.iload_n 1, 1) := by decide +kernel
theorem dX6_setPrice_1 : decode cX6_setPrice 1 = .ok (.ifCond .lt 9, 3) := by decide +kernel
theorem dX6_setPrice_4 : decode cX6_setPrice 4 = .ok (.iload_n 1, 1) := by decide +kernel
theorem dX6_setPrice_5 : decode cX6_setPrice 5 = .ok (.bipush 99, 2) := by decide +kernel
theorem dX6_setPrice_7 : decode cX6_setPrice 7 = .ok (.if_icmp .le 13, 3) := by decide +kernel
theorem dX6_setPrice_10 : decode cX6_setPrice 10 = .ok (.new 142, 3) := by decide +kernel
theorem dX6_setPrice_13 : decode cX6_setPrice 13 = .ok (.dup, 1) := by decide +kernel
theorem dX6_setPrice_14 : decode cX6_setPrice 14 = .ok (.ldc 225, 2) := by decide +kernel
theorem dX6_setPrice_16 : decode cX6_setPrice 16 = .ok (.invokespecial 146, 3) := by decide +kernel
theorem dX6_setPrice_19 : decode cX6_setPrice 19 = .ok (.athrow, 1) := by decide +kernel
theorem dX6_setPrice_20 : decode cX6_setPrice 20 = .ok (.aload_n 0, 1) := by decide +kernel
theorem dX6_setPrice_21 : decode cX6_setPrice 21 = .ok (.getfield 59, 3) := by decide +kernel
theorem dX6_setPrice_24 : decode cX6_setPrice 24 = .ok (.istore_n 2, 1) := by decide +kernel
theorem dX6_setPrice_25 : decode cX6_setPrice 25 = .ok (.aload_n 0, 1) := by decide +kernel
theorem dX6_setPrice_26 : decode cX6_setPrice 26 = .ok (.iload_n 1, 1) := by decide +kernel
theorem dX6_setPrice_27 : decode cX6_setPrice 27 = .ok (.putfield 59, 3) := by decide +kernel
theorem dX6_setPrice_30 : decode cX6_setPrice 30 = .ok (.iload_n 2, 1) := by decide +kernel
theorem dX6_setPrice_31 : decode cX6_setPrice 31 = .ok (.ireturn, 1) := by decide +kernel
theorem dX6_owed_0 : decode cX6_owed 0 = .ok (.iload_n 1, 1) := by decide +kernel
theorem dX6_owed_1 : decode cX6_owed 1 = .ok (.invokestatic 151, 3) := by decide +kernel
theorem dX6_owed_4 : decode cX6_owed 4 = .ok (.aload_n 0, 1) := by decide +kernel
theorem dX6_owed_5 : decode cX6_owed 5 = .ok (.getfield 55, 3) := by decide +kernel
theorem dX6_owed_8 : decode cX6_owed 8 = .ok (.iload_n 1, 1) := by decide +kernel
theorem dX6_owed_9 : decode cX6_owed 9 = .ok (.iaload, 1) := by decide +kernel
theorem dX6_owed_10 : decode cX6_owed 10 = .ok (.ireturn, 1) := by decide +kernel
theorem dX6_pay_0 : decode cX6_pay 0 = .ok (.iload_n 1, 1) := by decide +kernel
theorem dX6_pay_1 : decode cX6_pay 1 = .ok (.invokestatic 151, 3) := by decide +kernel
theorem dX6_pay_4 : decode cX6_pay 4 = .ok (.iload_n 2, 1) := by decide +kernel
theorem dX6_pay_5 : decode cX6_pay 5 = .ok (.iconst 1, 1) := by decide +kernel
theorem dX6_pay_6 : decode cX6_pay 6 = .ok (.if_icmp .lt 13, 3) := by decide +kernel
theorem dX6_pay_9 : decode cX6_pay 9 = .ok (.iload_n 2, 1) := by decide +kernel
theorem dX6_pay_10 : decode cX6_pay 10 = .ok (.aload_n 0, 1) := by decide +kernel
theorem dX6_pay_11 : decode cX6_pay 11 = .ok (.getfield 55, 3) := by decide +kernel
theorem dX6_pay_14 : decode cX6_pay 14 = .ok (.iload_n 1, 1) := by decide +kernel
theorem dX6_pay_15 : decode cX6_pay 15 = .ok (.iaload, 1) := by decide +kernel
theorem dX6_pay_16 : decode cX6_pay 16 = .ok (.if_icmp .le 13, 3) := by decide +kernel
theorem dX6_pay_19 : decode cX6_pay 19 = .ok (.new 142, 3) := by decide +kernel
theorem dX6_pay_22 : decode cX6_pay 22 = .ok (.dup, 1) := by decide +kernel
theorem dX6_pay_23 : decode cX6_pay 23 = .ok (.ldc 227, 2) := by decide +kernel
theorem dX6_pay_25 : decode cX6_pay 25 = .ok (.invokespecial 146, 3) := by decide +kernel
theorem dX6_pay_28 : decode cX6_pay 28 = .ok (.athrow, 1) := by decide +kernel
theorem dX6_pay_29 : decode cX6_pay 29 = .ok (.aload_n 0, 1) := by decide +kernel
theorem dX6_pay_30 : decode cX6_pay 30 = .ok (.getfield 55, 3) := by decide +kernel
theorem dX6_pay_33 : decode cX6_pay 33 = .ok (.iload_n 1, 1) := by decide +kernel
theorem dX6_pay_34 : decode cX6_pay 34 = .ok (.dup2, 1) := by decide +kernel
theorem dX6_pay_35 : decode cX6_pay 35 = .ok (.iaload, 1) := by decide +kernel
theorem dX6_pay_36 : decode cX6_pay 36 = .ok (.iload_n 2, 1) := by decide +kernel
theorem dX6_pay_37 : decode cX6_pay 37 = .ok (.isub, 1) := by decide +kernel
theorem dX6_pay_38 : decode cX6_pay 38 = .ok (.iastore, 1) := by decide +kernel
theorem dX6_pay_39 : decode cX6_pay 39 = .ok (.aload_n 0, 1) := by decide +kernel
theorem dX6_pay_40 : decode cX6_pay 40 = .ok (.getfield 55, 3) := by decide +kernel
theorem dX6_pay_43 : decode cX6_pay 43 = .ok (.iload_n 1, 1) := by decide +kernel
theorem dX6_pay_44 : decode cX6_pay 44 = .ok (.iaload, 1) := by decide +kernel
theorem dX6_pay_45 : decode cX6_pay 45 = .ok (.ireturn, 1) := by decide +kernel
theorem dX6_pass_0 : decode cX6_pass 0 = .ok (.iload_n 1, 1) := by decide +kernel
theorem dX6_pass_1 : decode cX6_pass 1 = .ok (.iconst 1, 1) := by decide +kernel
theorem dX6_pass_2 : decode cX6_pass 2 = .ok (.if_icmp .lt 9, 3) := by decide +kernel
theorem dX6_pass_5 : decode cX6_pass 5 = .ok (.iload_n 1, 1) := by decide +kernel
theorem dX6_pass_6 : decode cX6_pass 6 = .ok (.bipush 90, 2) := by decide +kernel
theorem dX6_pass_8 : decode cX6_pass 8 = .ok (.if_icmp .le 13, 3) := by decide +kernel
theorem dX6_pass_11 : decode cX6_pass 11 = .ok (.new 142, 3) := by decide +kernel
theorem dX6_pass_14 : decode cX6_pass 14 = .ok (.dup, 1) := by decide +kernel
theorem dX6_pass_15 : decode cX6_pass 15 = .ok (.ldc 229, 2) := by decide +kernel
theorem dX6_pass_17 : decode cX6_pass 17 = .ok (.invokespecial 146, 3) := by decide +kernel
theorem dX6_pass_20 : decode cX6_pass 20 = .ok (.athrow, 1) := by decide +kernel
theorem dX6_pass_21 : decode cX6_pass 21 = .ok (.aload_n 0, 1) := by decide +kernel
theorem dX6_pass_22 : decode cX6_pass 22 = .ok (.getfield 120, 3) := by decide +kernel
theorem dX6_pass_25 : decode cX6_pass 25 = .ok (.iload_n 1, 1) := by decide +kernel
theorem dX6_pass_26 : decode cX6_pass 26 = .ok (.iadd, 1) := by decide +kernel
theorem dX6_pass_27 : decode cX6_pass 27 = .ok (.sipush 9999, 3) := by decide +kernel
theorem dX6_pass_30 : decode cX6_pass 30 = .ok (.if_icmp .le 13, 3) := by decide +kernel
theorem dX6_pass_33 : decode cX6_pass 33 = .ok (.new 142, 3) := by decide +kernel
theorem dX6_pass_36 : decode cX6_pass 36 = .ok (.dup, 1) := by decide +kernel
theorem dX6_pass_37 : decode cX6_pass 37 = .ok (.ldc 231, 2) := by decide +kernel
theorem dX6_pass_39 : decode cX6_pass 39 = .ok (.invokespecial 146, 3) := by decide +kernel
theorem dX6_pass_42 : decode cX6_pass 42 = .ok (.athrow, 1) := by decide +kernel
theorem dX6_pass_43 : decode cX6_pass 43 = .ok (.aload_n 0, 1) := by decide +kernel
theorem dX6_pass_44 : decode cX6_pass 44 = .ok (.getfield 47, 3) := by decide +kernel
theorem dX6_pass_47 : decode cX6_pass 47 = .ok (.aload_n 0, 1) := by decide +kernel
theorem dX6_pass_48 : decode cX6_pass 48 = .ok (.getfield 120, 3) := by decide +kernel
theorem dX6_pass_51 : decode cX6_pass 51 = .ok (.invokevirtual 233, 3) := by decide +kernel
theorem dX6_pass_54 : decode cX6_pass 54 = .ok (.istore_n 2, 1) := by decide +kernel
theorem dX6_pass_55 : decode cX6_pass 55 = .ok (.aload_n 0, 1) := by decide +kernel
theorem dX6_pass_56 : decode cX6_pass 56 = .ok (.dup, 1) := by decide +kernel
theorem dX6_pass_57 : decode cX6_pass 57 = .ok (.getfield 120, 3) := by decide +kernel
theorem dX6_pass_60 : decode cX6_pass 60 = .ok (.iload_n 1, 1) := by decide +kernel
theorem dX6_pass_61 : decode cX6_pass 61 = .ok (.iadd, 1) := by decide +kernel
theorem dX6_pass_62 : decode cX6_pass 62 = .ok (.putfield 120, 3) := by decide +kernel
theorem dX6_pass_65 : decode cX6_pass 65 = .ok (.aload_n 0, 1) := by decide +kernel
theorem dX6_pass_66 : decode cX6_pass 66 = .ok (.getfield 47, 3) := by decide +kernel
theorem dX6_pass_69 : decode cX6_pass 69 = .ok (.aload_n 0, 1) := by decide +kernel
theorem dX6_pass_70 : decode cX6_pass 70 = .ok (.getfield 120, 3) := by decide +kernel
theorem dX6_pass_73 : decode cX6_pass 73 = .ok (.invokevirtual 233, 3) := by decide +kernel
theorem dX6_pass_76 : decode cX6_pass 76 = .ok (.iload_n 2, 1) := by decide +kernel
theorem dX6_pass_77 : decode cX6_pass 77 = .ok (.isub, 1) := by decide +kernel
theorem dX6_pass_78 : decode cX6_pass 78 = .ok (.ireturn, 1) := by decide +kernel
theorem dX6_day_0 : decode cX6_day 0 = .ok (.aload_n 0, 1) := by decide +kernel
theorem dX6_day_1 : decode cX6_day 1 = .ok (.getfield 120, 3) := by decide +kernel
theorem dX6_day_4 : decode cX6_day 4 = .ok (.ireturn, 1) := by decide +kernel
theorem dX6_late_0 : decode cX6_late 0 = .ok (.aload_n 0, 1) := by decide +kernel
theorem dX6_late_1 : decode cX6_late 1 = .ok (.getfield 47, 3) := by decide +kernel
theorem dX6_late_4 : decode cX6_late 4 = .ok (.aload_n 0, 1) := by decide +kernel
theorem dX6_late_5 : decode cX6_late 5 = .ok (.getfield 120, 3) := by decide +kernel
theorem dX6_late_8 : decode cX6_late 8 = .ok (.invokevirtual 233, 3) := by decide +kernel
theorem dX6_late_11 : decode cX6_late 11 = .ok (.ireturn, 1) := by decide +kernel
theorem dX6_fees_0 : decode cX6_fees 0 = .ok (.aload_n 0, 1) := by decide +kernel
theorem dX6_fees_1 : decode cX6_fees 1 = .ok (.getfield 236, 3) := by decide +kernel
theorem dX6_fees_4 : decode cX6_fees 4 = .ok (.lreturn, 1) := by decide +kernel
theorem dX6_answeredShare_0 : decode cX6_answeredShare 0 = .ok (.aload_n 0, 1) := by decide +kernel
theorem dX6_answeredShare_1 : decode cX6_answeredShare 1 = .ok (.getfield 47, 3) := by decide +kernel
theorem dX6_answeredShare_4 : decode cX6_answeredShare 4 = .ok (.getfield 240, 3) := by decide +kernel
theorem dX6_answeredShare_7 : decode cX6_answeredShare 7 = .ok (.istore_n 1, 1) := by decide +kernel
theorem dX6_answeredShare_8 : decode cX6_answeredShare 8 = .ok (.iload_n 1, 1) := by decide +kernel
theorem dX6_answeredShare_9 : decode cX6_answeredShare 9 = .ok (.ifCond .gt 13, 3) := by decide +kernel
theorem dX6_answeredShare_12 : decode cX6_answeredShare 12 = .ok (.new 181, 3) := by decide +kernel
theorem dX6_answeredShare_15 : decode cX6_answeredShare 15 = .ok (.dup, 1) := by decide +kernel
theorem dX6_answeredShare_16 : decode cX6_answeredShare 16 = .ok (.ldc 243, 2) := by decide +kernel
theorem dX6_answeredShare_18 : decode cX6_answeredShare 18 = .ok (.invokespecial 185, 3) := by decide +kernel
theorem dX6_answeredShare_21 : decode cX6_answeredShare 21 = .ok (.athrow, 1) := by decide +kernel
theorem dX6_answeredShare_22 : decode cX6_answeredShare 22 = .ok (.aload_n 0, 1) := by decide +kernel
theorem dX6_answeredShare_23 : decode cX6_answeredShare 23 = .ok (.getfield 47, 3) := by decide +kernel
theorem dX6_answeredShare_26 : decode cX6_answeredShare 26 = .ok (.bipush 97, 2) := by decide +kernel
theorem dX6_answeredShare_28 : decode cX6_answeredShare 28 = .ok (.invokevirtual 221, 3) := by decide +kernel
theorem dX6_answeredShare_31 : decode cX6_answeredShare 31 = .ok (.i2f, 1) := by decide +kernel
theorem dX6_answeredShare_32 : decode cX6_answeredShare 32 = .ok (.iload_n 1, 1) := by decide +kernel
theorem dX6_answeredShare_33 : decode cX6_answeredShare 33 = .ok (.i2f, 1) := by decide +kernel
theorem dX6_answeredShare_34 : decode cX6_answeredShare 34 = .ok (.fdiv, 1) := by decide +kernel
theorem dX6_answeredShare_35 : decode cX6_answeredShare 35 = .ok (.freturn, 1) := by decide +kernel
theorem dX6_requireDocument_0 : decode cX6_requireDocument 0 = .ok (.iload_n 1, 1) := by decide +kernel
theorem dX6_requireDocument_1 : decode cX6_requireDocument 1 = .ok (.ifCond .lt 14, 3) := by decide +kernel
theorem dX6_requireDocument_4 : decode cX6_requireDocument 4 = .ok (.iload_n 1, 1) := by decide +kernel
theorem dX6_requireDocument_5 : decode cX6_requireDocument 5 = .ok (.aload_n 0, 1) := by decide +kernel
theorem dX6_requireDocument_6 : decode cX6_requireDocument 6 = .ok (.getfield 12, 3) := by decide +kernel
theorem dX6_requireDocument_9 : decode cX6_requireDocument 9 = .ok (.getfield 245, 3) := by decide +kernel
theorem dX6_requireDocument_12 : decode cX6_requireDocument 12 = .ok (.if_icmp .lt 13, 3) := by decide +kernel
theorem dX6_requireDocument_15 : decode cX6_requireDocument 15 = .ok (.new 113, 3) := by decide +kernel
theorem dX6_requireDocument_18 : decode cX6_requireDocument 18 = .ok (.dup, 1) := by decide +kernel
theorem dX6_requireDocument_19 : decode cX6_requireDocument 19 = .ok (.ldc 248, 2) := by decide +kernel
theorem dX6_requireDocument_21 : decode cX6_requireDocument 21 = .ok (.invokespecial 117, 3) := by decide +kernel
theorem dX6_requireDocument_24 : decode cX6_requireDocument 24 = .ok (.athrow, 1) := by decide +kernel
theorem dX6_requireDocument_25 : decode cX6_requireDocument 25 = .ok (.return_, 1) := by decide +kernel
theorem dX6_requireLine_0 : decode cX6_requireLine 0 = .ok (.iload_n 1, 1) := by decide +kernel
theorem dX6_requireLine_1 : decode cX6_requireLine 1 = .ok (.ifCond .lt 14, 3) := by decide +kernel
theorem dX6_requireLine_4 : decode cX6_requireLine 4 = .ok (.iload_n 1, 1) := by decide +kernel
theorem dX6_requireLine_5 : decode cX6_requireLine 5 = .ok (.aload_n 0, 1) := by decide +kernel
theorem dX6_requireLine_6 : decode cX6_requireLine 6 = .ok (.getfield 12, 3) := by decide +kernel
theorem dX6_requireLine_9 : decode cX6_requireLine 9 = .ok (.getfield 250, 3) := by decide +kernel
theorem dX6_requireLine_12 : decode cX6_requireLine 12 = .ok (.if_icmp .lt 13, 3) := by decide +kernel
theorem dX6_requireLine_15 : decode cX6_requireLine 15 = .ok (.new 113, 3) := by decide +kernel
theorem dX6_requireLine_18 : decode cX6_requireLine 18 = .ok (.dup, 1) := by decide +kernel
theorem dX6_requireLine_19 : decode cX6_requireLine 19 = .ok (.ldc 251, 2) := by decide +kernel
theorem dX6_requireLine_21 : decode cX6_requireLine 21 = .ok (.invokespecial 117, 3) := by decide +kernel
theorem dX6_requireLine_24 : decode cX6_requireLine 24 = .ok (.athrow, 1) := by decide +kernel
theorem dX6_requireLine_25 : decode cX6_requireLine 25 = .ok (.return_, 1) := by decide +kernel
theorem dX6_requireRequest_0 : decode cX6_requireRequest 0 = .ok (.iload_n 1, 1) := by decide +kernel
theorem dX6_requireRequest_1 : decode cX6_requireRequest 1 = .ok (.ifCond .lt 14, 3) := by decide +kernel
theorem dX6_requireRequest_4 : decode cX6_requireRequest 4 = .ok (.iload_n 1, 1) := by decide +kernel
theorem dX6_requireRequest_5 : decode cX6_requireRequest 5 = .ok (.aload_n 0, 1) := by decide +kernel
theorem dX6_requireRequest_6 : decode cX6_requireRequest 6 = .ok (.getfield 47, 3) := by decide +kernel
theorem dX6_requireRequest_9 : decode cX6_requireRequest 9 = .ok (.getfield 240, 3) := by decide +kernel
theorem dX6_requireRequest_12 : decode cX6_requireRequest 12 = .ok (.if_icmp .lt 13, 3) := by decide +kernel
theorem dX6_requireRequest_15 : decode cX6_requireRequest 15 = .ok (.new 113, 3) := by decide +kernel
theorem dX6_requireRequest_18 : decode cX6_requireRequest 18 = .ok (.dup, 1) := by decide +kernel
theorem dX6_requireRequest_19 : decode cX6_requireRequest 19 = .ok (.ldc 253, 2) := by decide +kernel
theorem dX6_requireRequest_21 : decode cX6_requireRequest 21 = .ok (.invokespecial 117, 3) := by decide +kernel
theorem dX6_requireRequest_24 : decode cX6_requireRequest 24 = .ok (.athrow, 1) := by decide +kernel
theorem dX6_requireRequest_25 : decode cX6_requireRequest 25 = .ok (.return_, 1) := by decide +kernel
theorem dX6_requireWaiting_0 : decode cX6_requireWaiting 0 = .ok (.aload_n 0, 1) := by decide +kernel
theorem dX6_requireWaiting_1 : decode cX6_requireWaiting 1 = .ok (.getfield 47, 3) := by decide +kernel
theorem dX6_requireWaiting_4 : decode cX6_requireWaiting 4 = .ok (.getfield 207, 3) := by decide +kernel
theorem dX6_requireWaiting_7 : decode cX6_requireWaiting 7 = .ok (.iload_n 1, 1) := by decide +kernel
theorem dX6_requireWaiting_8 : decode cX6_requireWaiting 8 = .ok (.caload, 1) := by decide +kernel
theorem dX6_requireWaiting_9 : decode cX6_requireWaiting 9 = .ok (.bipush 119, 2) := by decide +kernel
theorem dX6_requireWaiting_11 : decode cX6_requireWaiting 11 = .ok (.if_icmp .eq 13, 3) := by decide +kernel
theorem dX6_requireWaiting_14 : decode cX6_requireWaiting 14 = .ok (.new 127, 3) := by decide +kernel
theorem dX6_requireWaiting_17 : decode cX6_requireWaiting 17 = .ok (.dup, 1) := by decide +kernel
theorem dX6_requireWaiting_18 : decode cX6_requireWaiting 18 = .ok (.ldc 255, 2) := by decide +kernel
theorem dX6_requireWaiting_20 : decode cX6_requireWaiting 20 = .ok (.invokespecial 131, 3) := by decide +kernel
theorem dX6_requireWaiting_23 : decode cX6_requireWaiting 23 = .ok (.athrow, 1) := by decide +kernel
theorem dX6_requireWaiting_24 : decode cX6_requireWaiting 24 = .ok (.return_, 1) := by decide +kernel
theorem dX6_requireAsker_0 : decode cX6_requireAsker 0 = .ok (.iload_n 0, 1) := by decide +kernel
theorem dX6_requireAsker_1 : decode cX6_requireAsker 1 = .ok (.ifCond .lt 8, 3) := by decide +kernel
theorem dX6_requireAsker_4 : decode cX6_requireAsker 4 = .ok (.iload_n 0, 1) := by decide +kernel
theorem dX6_requireAsker_5 : decode cX6_requireAsker 5 = .ok (.iconst 5, 1) := by decide +kernel
theorem dX6_requireAsker_6 : decode cX6_requireAsker 6 = .ok (.if_icmp .lt 14, 3) := by decide +kernel
theorem dX6_requireAsker_9 : decode cX6_requireAsker 9 = .ok (.new 142, 3) := by decide +kernel
theorem dX6_requireAsker_12 : decode cX6_requireAsker 12 = .ok (.dup, 1) := by decide +kernel
theorem dX6_requireAsker_13 : decode cX6_requireAsker 13 = .ok (.ldc_w 257, 3) := by decide +kernel
theorem dX6_requireAsker_16 : decode cX6_requireAsker 16 = .ok (.invokespecial 146, 3) := by decide +kernel
theorem dX6_requireAsker_19 : decode cX6_requireAsker 19 = .ok (.athrow, 1) := by decide +kernel
theorem dX6_requireAsker_20 : decode cX6_requireAsker 20 = .ok (.return_, 1) := by decide +kernel
theorem dX6_requireNotHeld_0 : decode cX6_requireNotHeld 0 = .ok (.iload_n 1, 1) := by decide +kernel
theorem dX6_requireNotHeld_1 : decode cX6_requireNotHeld 1 = .ok (.invokestatic 151, 3) := by decide +kernel
theorem dX6_requireNotHeld_4 : decode cX6_requireNotHeld 4 = .ok (.aload_n 0, 1) := by decide +kernel
theorem dX6_requireNotHeld_5 : decode cX6_requireNotHeld 5 = .ok (.iload_n 2, 1) := by decide +kernel
theorem dX6_requireNotHeld_6 : decode cX6_requireNotHeld 6 = .ok (.invokevirtual 78, 3) := by decide +kernel
theorem dX6_requireNotHeld_9 : decode cX6_requireNotHeld 9 = .ok (.aload_n 0, 1) := by decide +kernel
theorem dX6_requireNotHeld_10 : decode cX6_requireNotHeld 10 = .ok (.getfield 51, 3) := by decide +kernel
theorem dX6_requireNotHeld_13 : decode cX6_requireNotHeld 13 = .ok (.iload_n 1, 1) := by decide +kernel
theorem dX6_requireNotHeld_14 : decode cX6_requireNotHeld 14 = .ok (.laload, 1) := by decide +kernel
theorem dX6_requireNotHeld_15 : decode cX6_requireNotHeld 15 = .ok (.iload_n 2, 1) := by decide +kernel
theorem dX6_requireNotHeld_16 : decode cX6_requireNotHeld 16 = .ok (.invokestatic 154, 3) := by decide +kernel
theorem dX6_requireNotHeld_19 : decode cX6_requireNotHeld 19 = .ok (.ifCond .eq 14, 3) := by decide +kernel
theorem dX6_requireNotHeld_22 : decode cX6_requireNotHeld 22 = .ok (.new 127, 3) := by decide +kernel
theorem dX6_requireNotHeld_25 : decode cX6_requireNotHeld 25 = .ok (.dup, 1) := by decide +kernel
theorem dX6_requireNotHeld_26 : decode cX6_requireNotHeld 26 = .ok (.ldc_w 259, 3) := by decide +kernel
theorem dX6_requireNotHeld_29 : decode cX6_requireNotHeld 29 = .ok (.invokespecial 131, 3) := by decide +kernel
theorem dX6_requireNotHeld_32 : decode cX6_requireNotHeld 32 = .ok (.athrow, 1) := by decide +kernel
theorem dX6_requireNotHeld_33 : decode cX6_requireNotHeld 33 = .ok (.return_, 1) := by decide +kernel
theorem dX6_requireValue_0 : decode cX6_requireValue 0 = .ok (.iload_n 0, 1) := by decide +kernel
theorem dX6_requireValue_1 : decode cX6_requireValue 1 = .ok (.ifCond .lt 10, 3) := by decide +kernel
theorem dX6_requireValue_4 : decode cX6_requireValue 4 = .ok (.iload_n 0, 1) := by decide +kernel
theorem dX6_requireValue_5 : decode cX6_requireValue 5 = .ok (.sipush 9999, 3) := by decide +kernel
theorem dX6_requireValue_8 : decode cX6_requireValue 8 = .ok (.if_icmp .le 14, 3) := by decide +kernel
theorem dX6_requireValue_11 : decode cX6_requireValue 11 = .ok (.new 142, 3) := by decide +kernel
theorem dX6_requireValue_14 : decode cX6_requireValue 14 = .ok (.dup, 1) := by decide +kernel
theorem dX6_requireValue_15 : decode cX6_requireValue 15 = .ok (.ldc_w 261, 3) := by decide +kernel
theorem dX6_requireValue_18 : decode cX6_requireValue 18 = .ok (.invokespecial 146, 3) := by decide +kernel
theorem dX6_requireValue_21 : decode cX6_requireValue 21 = .ok (.athrow, 1) := by decide +kernel
theorem dX6_requireValue_22 : decode cX6_requireValue 22 = .ok (.return_, 1) := by decide +kernel
theorem dX6_requireIndex_0 : decode cX6_requireIndex 0 = .ok (.iload_n 0, 1) := by decide +kernel
theorem dX6_requireIndex_1 : decode cX6_requireIndex 1 = .ok (.ifCond .lt 9, 3) := by decide +kernel
theorem dX6_requireIndex_4 : decode cX6_requireIndex 4 = .ok (.iload_n 0, 1) := by decide +kernel
theorem dX6_requireIndex_5 : decode cX6_requireIndex 5 = .ok (.bipush 39, 2) := by decide +kernel
theorem dX6_requireIndex_7 : decode cX6_requireIndex 7 = .ok (.if_icmp .le 14, 3) := by decide +kernel
theorem dX6_requireIndex_10 : decode cX6_requireIndex 10 = .ok (.new 142, 3) := by decide +kernel
theorem dX6_requireIndex_13 : decode cX6_requireIndex 13 = .ok (.dup, 1) := by decide +kernel
theorem dX6_requireIndex_14 : decode cX6_requireIndex 14 = .ok (.ldc_w 263, 3) := by decide +kernel
theorem dX6_requireIndex_17 : decode cX6_requireIndex 17 = .ok (.invokespecial 146, 3) := by decide +kernel
theorem dX6_requireIndex_20 : decode cX6_requireIndex 20 = .ok (.athrow, 1) := by decide +kernel
theorem dX6_requireIndex_21 : decode cX6_requireIndex 21 = .ok (.return_, 1) := by decide +kernel
theorem dX6_requireRising_0 : decode cX6_requireRising 0 = .ok (.iload_n 1, 1) := by decide +kernel
theorem dX6_requireRising_1 : decode cX6_requireRising 1 = .ok (.iload_n 0, 1) := by decide +kernel
theorem dX6_requireRising_2 : decode cX6_requireRising 2 = .ok (.if_icmp .ge 14, 3) := by decide +kernel
theorem dX6_requireRising_5 : decode cX6_requireRising 5 = .ok (.new 142, 3) := by decide +kernel
theorem dX6_requireRising_8 : decode cX6_requireRising 8 = .ok (.dup, 1) := by decide +kernel
theorem dX6_requireRising_9 : decode cX6_requireRising 9 = .ok (.ldc_w 265, 3) := by decide +kernel
theorem dX6_requireRising_12 : decode cX6_requireRising 12 = .ok (.invokespecial 146, 3) := by decide +kernel
theorem dX6_requireRising_15 : decode cX6_requireRising 15 = .ok (.athrow, 1) := by decide +kernel
theorem dX6_requireRising_16 : decode cX6_requireRising 16 = .ok (.return_, 1) := by decide +kernel
theorem dX6_requireLastDay_0 : decode cX6_requireLastDay 0 = .ok (.iload_n 1, 1) := by decide +kernel
theorem dX6_requireLastDay_1 : decode cX6_requireLastDay 1 = .ok (.aload_n 0, 1) := by decide +kernel
theorem dX6_requireLastDay_2 : decode cX6_requireLastDay 2 = .ok (.getfield 120, 3) := by decide +kernel
theorem dX6_requireLastDay_5 : decode cX6_requireLastDay 5 = .ok (.if_icmp .lt 10, 3) := by decide +kernel
theorem dX6_requireLastDay_8 : decode cX6_requireLastDay 8 = .ok (.iload_n 1, 1) := by decide +kernel
theorem dX6_requireLastDay_9 : decode cX6_requireLastDay 9 = .ok (.sipush 9999, 3) := by decide +kernel
theorem dX6_requireLastDay_12 : decode cX6_requireLastDay 12 = .ok (.if_icmp .le 14, 3) := by decide +kernel
theorem dX6_requireLastDay_15 : decode cX6_requireLastDay 15 = .ok (.new 142, 3) := by decide +kernel
theorem dX6_requireLastDay_18 : decode cX6_requireLastDay 18 = .ok (.dup, 1) := by decide +kernel
theorem dX6_requireLastDay_19 : decode cX6_requireLastDay 19 = .ok (.ldc_w 267, 3) := by decide +kernel
theorem dX6_requireLastDay_22 : decode cX6_requireLastDay 22 = .ok (.invokespecial 146, 3) := by decide +kernel
theorem dX6_requireLastDay_25 : decode cX6_requireLastDay 25 = .ok (.athrow, 1) := by decide +kernel
theorem dX6_requireLastDay_26 : decode cX6_requireLastDay 26 = .ok (.return_, 1) := by decide +kernel
theorem dX6_isHiddenByRule_0 : decode cX6_isHiddenByRule 0 = .ok (.aload_n 0, 1) := by decide +kernel
theorem dX6_isHiddenByRule_1 : decode cX6_isHiddenByRule 1 = .ok (.getfield 19, 3) := by decide +kernel
theorem dX6_isHiddenByRule_4 : decode cX6_isHiddenByRule 4 = .ok (.aload_n 0, 1) := by decide +kernel
theorem dX6_isHiddenByRule_5 : decode cX6_isHiddenByRule 5 = .ok (.getfield 12, 3) := by decide +kernel
theorem dX6_isHiddenByRule_8 : decode cX6_isHiddenByRule 8 = .ok (.getfield 81, 3) := by decide +kernel
theorem dX6_isHiddenByRule_11 : decode cX6_isHiddenByRule 11 = .ok (.iload_n 1, 1) := by decide +kernel
theorem dX6_isHiddenByRule_12 : decode cX6_isHiddenByRule 12 = .ok (.iaload, 1) := by decide +kernel
theorem dX6_isHiddenByRule_13 : decode cX6_isHiddenByRule 13 = .ok (.aload_n 0, 1) := by decide +kernel
theorem dX6_isHiddenByRule_14 : decode cX6_isHiddenByRule 14 = .ok (.getfield 120, 3) := by decide +kernel
theorem dX6_isHiddenByRule_17 : decode cX6_isHiddenByRule 17 = .ok (.invokevirtual 269, 3) := by decide +kernel
theorem dX6_isHiddenByRule_20 : decode cX6_isHiddenByRule 20 = .ok (.ireturn, 1) := by decide +kernel
theorem dX6_isHiddenBySpan_0 : decode cX6_isHiddenBySpan 0 = .ok (.aload_n 0, 1) := by decide +kernel
theorem dX6_isHiddenBySpan_1 : decode cX6_isHiddenBySpan 1 = .ok (.getfield 26, 3) := by decide +kernel
theorem dX6_isHiddenBySpan_4 : decode cX6_isHiddenBySpan 4 = .ok (.aload_n 0, 1) := by decide +kernel
theorem dX6_isHiddenBySpan_5 : decode cX6_isHiddenBySpan 5 = .ok (.getfield 12, 3) := by decide +kernel
theorem dX6_isHiddenBySpan_8 : decode cX6_isHiddenBySpan 8 = .ok (.getfield 84, 3) := by decide +kernel
theorem dX6_isHiddenBySpan_11 : decode cX6_isHiddenBySpan 11 = .ok (.iload_n 1, 1) := by decide +kernel
theorem dX6_isHiddenBySpan_12 : decode cX6_isHiddenBySpan 12 = .ok (.iaload, 1) := by decide +kernel
theorem dX6_isHiddenBySpan_13 : decode cX6_isHiddenBySpan 13 = .ok (.aload_n 0, 1) := by decide +kernel
theorem dX6_isHiddenBySpan_14 : decode cX6_isHiddenBySpan 14 = .ok (.getfield 12, 3) := by decide +kernel
theorem dX6_isHiddenBySpan_17 : decode cX6_isHiddenBySpan 17 = .ok (.getfield 87, 3) := by decide +kernel
theorem dX6_isHiddenBySpan_20 : decode cX6_isHiddenBySpan 20 = .ok (.iload_n 1, 1) := by decide +kernel
theorem dX6_isHiddenBySpan_21 : decode cX6_isHiddenBySpan 21 = .ok (.iaload, 1) := by decide +kernel
theorem dX6_isHiddenBySpan_22 : decode cX6_isHiddenBySpan 22 = .ok (.aload_n 0, 1) := by decide +kernel
theorem dX6_isHiddenBySpan_23 : decode cX6_isHiddenBySpan 23 = .ok (.getfield 120, 3) := by decide +kernel
theorem dX6_isHiddenBySpan_26 : decode cX6_isHiddenBySpan 26 = .ok (.invokevirtual 272, 3) := by decide +kernel
theorem dX6_isHiddenBySpan_29 : decode cX6_isHiddenBySpan 29 = .ok (.ireturn, 1) := by decide +kernel
theorem dX6_isHiddenToday_0 : decode cX6_isHiddenToday 0 = .ok (.aload_n 0, 1) := by decide +kernel
theorem dX6_isHiddenToday_1 : decode cX6_isHiddenToday 1 = .ok (.iload_n 1, 1) := by decide +kernel
theorem dX6_isHiddenToday_2 : decode cX6_isHiddenToday 2 = .ok (.invokevirtual 178, 3) := by decide +kernel
theorem dX6_isHiddenToday_5 : decode cX6_isHiddenToday 5 = .ok (.ifCond .ne 11, 3) := by decide +kernel
theorem dX6_isHiddenToday_8 : decode cX6_isHiddenToday 8 = .ok (.aload_n 0, 1) := by decide +kernel
theorem dX6_isHiddenToday_9 : decode cX6_isHiddenToday 9 = .ok (.iload_n 1, 1) := by decide +kernel
theorem dX6_isHiddenToday_10 : decode cX6_isHiddenToday 10 = .ok (.invokevirtual 186, 3) := by decide +kernel
theorem dX6_isHiddenToday_13 : decode cX6_isHiddenToday 13 = .ok (.ifCond .eq 7, 3) := by decide +kernel
theorem dX6_isHiddenToday_16 : decode cX6_isHiddenToday 16 = .ok (.iconst 1, 1) := by decide +kernel
theorem dX6_isHiddenToday_17 : decode cX6_isHiddenToday 17 = .ok (.goto 4, 3) := by decide +kernel
theorem dX6_isHiddenToday_20 : decode cX6_isHiddenToday 20 = .ok (.iconst 0, 1) := by decide +kernel
theorem dX6_isHiddenToday_21 : decode cX6_isHiddenToday 21 = .ok (.ireturn, 1) := by decide +kernel
theorem dX6_countHidden_0 : decode cX6_countHidden 0 = .ok (.iconst 0, 1) := by decide +kernel
theorem dX6_countHidden_1 : decode cX6_countHidden 1 = .ok (.istore_n 1, 1) := by decide +kernel
theorem dX6_countHidden_2 : decode cX6_countHidden 2 = .ok (.iconst 0, 1) := by decide +kernel
theorem dX6_countHidden_3 : decode cX6_countHidden 3 = .ok (.istore_n 2, 1) := by decide +kernel
theorem dX6_countHidden_4 : decode cX6_countHidden 4 = .ok (.iload_n 2, 1) := by decide +kernel
theorem dX6_countHidden_5 : decode cX6_countHidden 5 = .ok (.aload_n 0, 1) := by decide +kernel
theorem dX6_countHidden_6 : decode cX6_countHidden 6 = .ok (.getfield 12, 3) := by decide +kernel
theorem dX6_countHidden_9 : decode cX6_countHidden 9 = .ok (.getfield 250, 3) := by decide +kernel
theorem dX6_countHidden_12 : decode cX6_countHidden 12 = .ok (.if_icmp .ge 20, 3) := by decide +kernel
theorem dX6_countHidden_15 : decode cX6_countHidden 15 = .ok (.aload_n 0, 1) := by decide +kernel
theorem dX6_countHidden_16 : decode cX6_countHidden 16 = .ok (.iload_n 2, 1) := by decide +kernel
theorem dX6_countHidden_17 : decode cX6_countHidden 17 = .ok (.invokevirtual 139, 3) := by decide +kernel
theorem dX6_countHidden_20 : decode cX6_countHidden 20 = .ok (.ifCond .eq 6, 3) := by decide +kernel
theorem dX6_countHidden_23 : decode cX6_countHidden 23 = .ok (.iinc 1 1, 3) := by decide +kernel
theorem dX6_countHidden_26 : decode cX6_countHidden 26 = .ok (.iinc 2 1, 3) := by decide +kernel
theorem dX6_countHidden_29 : decode cX6_countHidden 29 = .ok (.goto (-25), 3) := by decide +kernel
theorem dX6_countHidden_32 : decode cX6_countHidden 32 = .ok (.iload_n 1, 1) := by decide +kernel
theorem dX6_countHidden_33 : decode cX6_countHidden 33 = .ok (.ireturn, 1) := by decide +kernel
theorem dX6_countHidingReasons_0 : decode cX6_countHidingReasons 0 = .ok (.aload_n 0, 1) := by decide +kernel
theorem dX6_countHidingReasons_1 : decode cX6_countHidingReasons 1 = .ok (.iload_n 1, 1) := by decide +kernel
theorem dX6_countHidingReasons_2 : decode cX6_countHidingReasons 2 = .ok (.invokevirtual 178, 3) := by decide +kernel
theorem dX6_countHidingReasons_5 : decode cX6_countHidingReasons 5 = .ok (.ifCond .eq 7, 3) := by decide +kernel
theorem dX6_countHidingReasons_8 : decode cX6_countHidingReasons 8 = .ok (.iconst 1, 1) := by decide +kernel
theorem dX6_countHidingReasons_9 : decode cX6_countHidingReasons 9 = .ok (.goto 4, 3) := by decide +kernel
theorem dX6_countHidingReasons_12 : decode cX6_countHidingReasons 12 = .ok (.iconst 0, 1) := by decide +kernel
theorem dX6_countHidingReasons_13 : decode cX6_countHidingReasons 13 = .ok (.istore_n 2, 1) := by decide +kernel
theorem dX6_countHidingReasons_14 : decode cX6_countHidingReasons 14 = .ok (.aload_n 0, 1) := by decide +kernel
theorem dX6_countHidingReasons_15 : decode cX6_countHidingReasons 15 = .ok (.iload_n 1, 1) := by decide +kernel
theorem dX6_countHidingReasons_16 : decode cX6_countHidingReasons 16 = .ok (.invokevirtual 186, 3) := by decide +kernel
theorem dX6_countHidingReasons_19 : decode cX6_countHidingReasons 19 = .ok (.ifCond .eq 7, 3) := by decide +kernel
theorem dX6_countHidingReasons_22 : decode cX6_countHidingReasons 22 = .ok (.iconst 1, 1) := by decide +kernel
theorem dX6_countHidingReasons_23 : decode cX6_countHidingReasons 23 = .ok (.goto 4, 3) := by decide +kernel
theorem dX6_countHidingReasons_26 : decode cX6_countHidingReasons 26 = .ok (.iconst 0, 1) := by decide +kernel
theorem dX6_countHidingReasons_27 : decode cX6_countHidingReasons 27 = .ok (.istore_n 3, 1) := by decide +kernel
theorem dX6_countHidingReasons_28 : decode cX6_countHidingReasons 28 = .ok (.iload_n 2, 1) := by decide +kernel
theorem dX6_countHidingReasons_29 : decode cX6_countHidingReasons 29 = .ok (.iload_n 3, 1) := by decide +kernel
theorem dX6_countHidingReasons_30 : decode cX6_countHidingReasons 30 = .ok (.iadd, 1) := by decide +kernel
theorem dX6_countHidingReasons_31 : decode cX6_countHidingReasons 31 = .ok (.ireturn, 1) := by decide +kernel
theorem dX6_findProtectedLine_0 : decode cX6_findProtectedLine 0 = .ok (.aload_n 0, 1) := by decide +kernel
theorem dX6_findProtectedLine_1 : decode cX6_findProtectedLine 1 = .ok (.iload_n 2, 1) := by decide +kernel
theorem dX6_findProtectedLine_2 : decode cX6_findProtectedLine 2 = .ok (.invokevirtual 139, 3) := by decide +kernel
theorem dX6_findProtectedLine_5 : decode cX6_findProtectedLine 5 = .ok (.ifCond .eq 5, 3) := by decide +kernel
theorem dX6_findProtectedLine_8 : decode cX6_findProtectedLine 8 = .ok (.iload_n 2, 1) := by decide +kernel
theorem dX6_findProtectedLine_9 : decode cX6_findProtectedLine 9 = .ok (.ireturn, 1) := by decide +kernel
theorem dX6_findProtectedLine_10 : decode cX6_findProtectedLine 10 = .ok (.aload_n 0, 1) := by decide +kernel
theorem dX6_findProtectedLine_11 : decode cX6_findProtectedLine 11 = .ok (.getfield 51, 3) := by decide +kernel
theorem dX6_findProtectedLine_14 : decode cX6_findProtectedLine 14 = .ok (.iload_n 1, 1) := by decide +kernel
theorem dX6_findProtectedLine_15 : decode cX6_findProtectedLine 15 = .ok (.laload, 1) := by decide +kernel
theorem dX6_findProtectedLine_16 : decode cX6_findProtectedLine 16 = .ok (.lstore_n 3, 1) := by decide +kernel
theorem dX6_findProtectedLine_17 : decode cX6_findProtectedLine 17 = .ok (.aload_n 0, 1) := by decide +kernel
theorem dX6_findProtectedLine_18 : decode cX6_findProtectedLine 18 = .ok (.getfield 33, 3) := by decide +kernel
theorem dX6_findProtectedLine_21 : decode cX6_findProtectedLine 21 = .ok (.lload_n 3, 1) := by decide +kernel
theorem dX6_findProtectedLine_22 : decode cX6_findProtectedLine 22 = .ok (.iload_n 2, 1) := by decide +kernel
theorem dX6_findProtectedLine_23 : decode cX6_findProtectedLine 23 = .ok (.invokestatic 275, 3) := by decide +kernel
theorem dX6_findProtectedLine_26 : decode cX6_findProtectedLine 26 = .ok (.lor, 1) := by decide +kernel
theorem dX6_findProtectedLine_27 : decode cX6_findProtectedLine 27 = .ok (.invokevirtual 162, 3) := by decide +kernel
theorem dX6_findProtectedLine_30 : decode cX6_findProtectedLine 30 = .ok (.lstore 5, 2) := by decide +kernel
theorem dX6_findProtectedLine_32 : decode cX6_findProtectedLine 32 = .ok (.aload_n 0, 1) := by decide +kernel
theorem dX6_findProtectedLine_33 : decode cX6_findProtectedLine 33 = .ok (.lload 5, 2) := by decide +kernel
theorem dX6_findProtectedLine_35 : decode cX6_findProtectedLine 35 = .ok (.lload_n 3, 1) := by decide +kernel
theorem dX6_findProtectedLine_36 : decode cX6_findProtectedLine 36 = .ok (.ldc2_w 278, 3) := by decide +kernel
theorem dX6_findProtectedLine_39 : decode cX6_findProtectedLine 39 = .ok (.lxor, 1) := by decide +kernel
theorem dX6_findProtectedLine_40 : decode cX6_findProtectedLine 40 = .ok (.land, 1) := by decide +kernel
theorem dX6_findProtectedLine_41 : decode cX6_findProtectedLine 41 = .ok (.invokevirtual 280, 3) := by decide +kernel
theorem dX6_findProtectedLine_44 : decode cX6_findProtectedLine 44 = .ok (.ireturn, 1) := by decide +kernel
theorem dX6_findLowestHidden_0 : decode cX6_findLowestHidden 0 = .ok (.iconst 0, 1) := by decide +kernel
theorem dX6_findLowestHidden_1 : decode cX6_findLowestHidden 1 = .ok (.istore_n 3, 1) := by decide +kernel
theorem dX6_findLowestHidden_2 : decode cX6_findLowestHidden 2 = .ok (.iload_n 3, 1) := by decide +kernel
theorem dX6_findLowestHidden_3 : decode cX6_findLowestHidden 3 = .ok (.aload_n 0, 1) := by decide +kernel
theorem dX6_findLowestHidden_4 : decode cX6_findLowestHidden 4 = .ok (.getfield 12, 3) := by decide +kernel
theorem dX6_findLowestHidden_7 : decode cX6_findLowestHidden 7 = .ok (.getfield 250, 3) := by decide +kernel
theorem dX6_findLowestHidden_10 : decode cX6_findLowestHidden 10 = .ok (.if_icmp .ge 27, 3) := by decide +kernel
theorem dX6_findLowestHidden_13 : decode cX6_findLowestHidden 13 = .ok (.lload_n 1, 1) := by decide +kernel
theorem dX6_findLowestHidden_14 : decode cX6_findLowestHidden 14 = .ok (.iload_n 3, 1) := by decide +kernel
theorem dX6_findLowestHidden_15 : decode cX6_findLowestHidden 15 = .ok (.invokestatic 154, 3) := by decide +kernel
theorem dX6_findLowestHidden_18 : decode cX6_findLowestHidden 18 = .ok (.ifCond .eq 13, 3) := by decide +kernel
theorem dX6_findLowestHidden_21 : decode cX6_findLowestHidden 21 = .ok (.aload_n 0, 1) := by decide +kernel
theorem dX6_findLowestHidden_22 : decode cX6_findLowestHidden 22 = .ok (.iload_n 3, 1) := by decide +kernel
theorem dX6_findLowestHidden_23 : decode cX6_findLowestHidden 23 = .ok (.invokevirtual 139, 3) := by decide +kernel
theorem dX6_findLowestHidden_26 : decode cX6_findLowestHidden 26 = .ok (.ifCond .eq 5, 3) := by decide +kernel
theorem dX6_findLowestHidden_29 : decode cX6_findLowestHidden 29 = .ok (.iload_n 3, 1) := by decide +kernel
theorem dX6_findLowestHidden_30 : decode cX6_findLowestHidden 30 = .ok (.ireturn, 1) := by decide +kernel
theorem dX6_findLowestHidden_31 : decode cX6_findLowestHidden 31 = .ok (.iinc 3 1, 3) := by decide +kernel
theorem dX6_findLowestHidden_34 : decode cX6_findLowestHidden 34 = .ok (.goto (-32), 3) := by decide +kernel
theorem dX6_findLowestHidden_37 : decode cX6_findLowestHidden 37 = .ok (.iconst (-1), 1) := by decide +kernel
theorem dX6_findLowestHidden_38 : decode cX6_findLowestHidden 38 = .ok (.ireturn, 1) := by decide +kernel
theorem dX6_giveDocument_0 : decode cX6_giveDocument 0 = .ok (.iconst 0, 1) := by decide +kernel
theorem dX6_giveDocument_1 : decode cX6_giveDocument 1 = .ok (.istore_n 3, 1) := by decide +kernel
theorem dX6_giveDocument_2 : decode cX6_giveDocument 2 = .ok (.iconst 0, 1) := by decide +kernel
theorem dX6_giveDocument_3 : decode cX6_giveDocument 3 = .ok (.istore 4, 2) := by decide +kernel
theorem dX6_giveDocument_5 : decode cX6_giveDocument 5 = .ok (.iload 4, 2) := by decide +kernel
theorem dX6_giveDocument_7 : decode cX6_giveDocument 7 = .ok (.aload_n 0, 1) := by decide +kernel
theorem dX6_giveDocument_8 : decode cX6_giveDocument 8 = .ok (.getfield 12, 3) := by decide +kernel
theorem dX6_giveDocument_11 : decode cX6_giveDocument 11 = .ok (.getfield 250, 3) := by decide +kernel
theorem dX6_giveDocument_14 : decode cX6_giveDocument 14 = .ok (.if_icmp .ge 43, 3) := by decide +kernel
theorem dX6_giveDocument_17 : decode cX6_giveDocument 17 = .ok (.aload_n 0, 1) := by decide +kernel
theorem dX6_giveDocument_18 : decode cX6_giveDocument 18 = .ok (.getfield 12, 3) := by decide +kernel
theorem dX6_giveDocument_21 : decode cX6_giveDocument 21 = .ok (.getfield 84, 3) := by decide +kernel
theorem dX6_giveDocument_24 : decode cX6_giveDocument 24 = .ok (.iload 4, 2) := by decide +kernel
theorem dX6_giveDocument_26 : decode cX6_giveDocument 26 = .ok (.iaload, 1) := by decide +kernel
theorem dX6_giveDocument_27 : decode cX6_giveDocument 27 = .ok (.iload_n 2, 1) := by decide +kernel
theorem dX6_giveDocument_28 : decode cX6_giveDocument 28 = .ok (.if_icmp .ne 23, 3) := by decide +kernel
theorem dX6_giveDocument_31 : decode cX6_giveDocument 31 = .ok (.aload_n 0, 1) := by decide +kernel
theorem dX6_giveDocument_32 : decode cX6_giveDocument 32 = .ok (.iload_n 1, 1) := by decide +kernel
theorem dX6_giveDocument_33 : decode cX6_giveDocument 33 = .ok (.iload 4, 2) := by decide +kernel
theorem dX6_giveDocument_35 : decode cX6_giveDocument 35 = .ok (.invokevirtual 283, 3) := by decide +kernel
theorem dX6_giveDocument_38 : decode cX6_giveDocument 38 = .ok (.ifCond .eq 13, 3) := by decide +kernel
theorem dX6_giveDocument_41 : decode cX6_giveDocument 41 = .ok (.aload_n 0, 1) := by decide +kernel
theorem dX6_giveDocument_42 : decode cX6_giveDocument 42 = .ok (.iload_n 1, 1) := by decide +kernel
theorem dX6_giveDocument_43 : decode cX6_giveDocument 43 = .ok (.iload 4, 2) := by decide +kernel
theorem dX6_giveDocument_45 : decode cX6_giveDocument 45 = .ok (.invokevirtual 286, 3) := by decide +kernel
theorem dX6_giveDocument_48 : decode cX6_giveDocument 48 = .ok (.iinc 3 1, 3) := by decide +kernel
theorem dX6_giveDocument_51 : decode cX6_giveDocument 51 = .ok (.iinc 4 1, 3) := by decide +kernel
theorem dX6_giveDocument_54 : decode cX6_giveDocument 54 = .ok (.goto (-49), 3) := by decide +kernel
theorem dX6_giveDocument_57 : decode cX6_giveDocument 57 = .ok (.iload_n 3, 1) := by decide +kernel
theorem dX6_giveDocument_58 : decode cX6_giveDocument 58 = .ok (.ireturn, 1) := by decide +kernel
theorem dX6_isFreeFor_0 : decode cX6_isFreeFor 0 = .ok (.aload_n 0, 1) := by decide +kernel
theorem dX6_isFreeFor_1 : decode cX6_isFreeFor 1 = .ok (.getfield 51, 3) := by decide +kernel
theorem dX6_isFreeFor_4 : decode cX6_isFreeFor 4 = .ok (.iload_n 1, 1) := by decide +kernel
theorem dX6_isFreeFor_5 : decode cX6_isFreeFor 5 = .ok (.laload, 1) := by decide +kernel
theorem dX6_isFreeFor_6 : decode cX6_isFreeFor 6 = .ok (.iload_n 2, 1) := by decide +kernel
theorem dX6_isFreeFor_7 : decode cX6_isFreeFor 7 = .ok (.invokestatic 154, 3) := by decide +kernel
theorem dX6_isFreeFor_10 : decode cX6_isFreeFor 10 = .ok (.ifCond .ne 17, 3) := by decide +kernel
theorem dX6_isFreeFor_13 : decode cX6_isFreeFor 13 = .ok (.aload_n 0, 1) := by decide +kernel
theorem dX6_isFreeFor_14 : decode cX6_isFreeFor 14 = .ok (.iload_n 1, 1) := by decide +kernel
theorem dX6_isFreeFor_15 : decode cX6_isFreeFor 15 = .ok (.iload_n 2, 1) := by decide +kernel
theorem dX6_isFreeFor_16 : decode cX6_isFreeFor 16 = .ok (.invokevirtual 175, 3) := by decide +kernel
theorem dX6_isFreeFor_19 : decode cX6_isFreeFor 19 = .ok (.iconst (-1), 1) := by decide +kernel
theorem dX6_isFreeFor_20 : decode cX6_isFreeFor 20 = .ok (.if_icmp .ne 7, 3) := by decide +kernel
theorem dX6_isFreeFor_23 : decode cX6_isFreeFor 23 = .ok (.iconst 1, 1) := by decide +kernel
theorem dX6_isFreeFor_24 : decode cX6_isFreeFor 24 = .ok (.goto 4, 3) := by decide +kernel
theorem dX6_isFreeFor_27 : decode cX6_isFreeFor 27 = .ok (.iconst 0, 1) := by decide +kernel
theorem dX6_isFreeFor_28 : decode cX6_isFreeFor 28 = .ok (.ireturn, 1) := by decide +kernel
theorem dX6_give_0 : decode cX6_give 0 = .ok (.aload_n 0, 1) := by decide +kernel
theorem dX6_give_1 : decode cX6_give 1 = .ok (.getfield 40, 3) := by decide +kernel
theorem dX6_give_4 : decode cX6_give 4 = .ok (.iload_n 1, 1) := by decide +kernel
theorem dX6_give_5 : decode cX6_give 5 = .ok (.iload_n 2, 1) := by decide +kernel
theorem dX6_give_6 : decode cX6_give 6 = .ok (.invokevirtual 289, 3) := by decide +kernel
theorem dX6_give_9 : decode cX6_give 9 = .ok (.aload_n 0, 1) := by decide +kernel
theorem dX6_give_10 : decode cX6_give 10 = .ok (.getfield 51, 3) := by decide +kernel
theorem dX6_give_13 : decode cX6_give 13 = .ok (.iload_n 1, 1) := by decide +kernel
theorem dX6_give_14 : decode cX6_give 14 = .ok (.aload_n 0, 1) := by decide +kernel
theorem dX6_give_15 : decode cX6_give 15 = .ok (.getfield 33, 3) := by decide +kernel
theorem dX6_give_18 : decode cX6_give 18 = .ok (.aload_n 0, 1) := by decide +kernel
theorem dX6_give_19 : decode cX6_give 19 = .ok (.getfield 51, 3) := by decide +kernel
theorem dX6_give_22 : decode cX6_give 22 = .ok (.iload_n 1, 1) := by decide +kernel
theorem dX6_give_23 : decode cX6_give 23 = .ok (.laload, 1) := by decide +kernel
theorem dX6_give_24 : decode cX6_give 24 = .ok (.iload_n 2, 1) := by decide +kernel
theorem dX6_give_25 : decode cX6_give 25 = .ok (.invokestatic 275, 3) := by decide +kernel
theorem dX6_give_28 : decode cX6_give 28 = .ok (.lor, 1) := by decide +kernel
theorem dX6_give_29 : decode cX6_give 29 = .ok (.invokevirtual 162, 3) := by decide +kernel
theorem dX6_give_32 : decode cX6_give 32 = .ok (.lastore, 1) := by decide +kernel
theorem dX6_give_33 : decode cX6_give 33 = .ok (.aload_n 0, 1) := by decide +kernel
theorem dX6_give_34 : decode cX6_give 34 = .ok (.getfield 55, 3) := by decide +kernel
theorem dX6_give_37 : decode cX6_give 37 = .ok (.iload_n 1, 1) := by decide +kernel
theorem dX6_give_38 : decode cX6_give 38 = .ok (.dup2, 1) := by decide +kernel
theorem dX6_give_39 : decode cX6_give 39 = .ok (.iaload, 1) := by decide +kernel
theorem dX6_give_40 : decode cX6_give 40 = .ok (.aload_n 0, 1) := by decide +kernel
theorem dX6_give_41 : decode cX6_give 41 = .ok (.getfield 59, 3) := by decide +kernel
theorem dX6_give_44 : decode cX6_give 44 = .ok (.iadd, 1) := by decide +kernel
theorem dX6_give_45 : decode cX6_give 45 = .ok (.iastore, 1) := by decide +kernel
theorem dX6_give_46 : decode cX6_give 46 = .ok (.aload_n 0, 1) := by decide +kernel
theorem dX6_give_47 : decode cX6_give 47 = .ok (.dup, 1) := by decide +kernel
theorem dX6_give_48 : decode cX6_give 48 = .ok (.getfield 236, 3) := by decide +kernel
theorem dX6_give_51 : decode cX6_give 51 = .ok (.aload_n 0, 1) := by decide +kernel
theorem dX6_give_52 : decode cX6_give 52 = .ok (.getfield 59, 3) := by decide +kernel
theorem dX6_give_55 : decode cX6_give 55 = .ok (.i2l, 1) := by decide +kernel
theorem dX6_give_56 : decode cX6_give 56 = .ok (.ladd, 1) := by decide +kernel
theorem dX6_give_57 : decode cX6_give 57 = .ok (.putfield 236, 3) := by decide +kernel
theorem dX6_give_60 : decode cX6_give 60 = .ok (.return_, 1) := by decide +kernel
theorem dX6_growAllHeld_0 : decode cX6_growAllHeld 0 = .ok (.iconst 0, 1) := by decide +kernel
theorem dX6_growAllHeld_1 : decode cX6_growAllHeld 1 = .ok (.istore_n 1, 1) := by decide +kernel
theorem dX6_growAllHeld_2 : decode cX6_growAllHeld 2 = .ok (.iload_n 1, 1) := by decide +kernel
theorem dX6_growAllHeld_3 : decode cX6_growAllHeld 3 = .ok (.iconst 5, 1) := by decide +kernel
theorem dX6_growAllHeld_4 : decode cX6_growAllHeld 4 = .ok (.if_icmp .ge 28, 3) := by decide +kernel
theorem dX6_growAllHeld_7 : decode cX6_growAllHeld 7 = .ok (.aload_n 0, 1) := by decide +kernel
theorem dX6_growAllHeld_8 : decode cX6_growAllHeld 8 = .ok (.getfield 51, 3) := by decide +kernel
theorem dX6_growAllHeld_11 : decode cX6_growAllHeld 11 = .ok (.iload_n 1, 1) := by decide +kernel
theorem dX6_growAllHeld_12 : decode cX6_growAllHeld 12 = .ok (.aload_n 0, 1) := by decide +kernel
theorem dX6_growAllHeld_13 : decode cX6_growAllHeld 13 = .ok (.getfield 33, 3) := by decide +kernel
theorem dX6_growAllHeld_16 : decode cX6_growAllHeld 16 = .ok (.aload_n 0, 1) := by decide +kernel
theorem dX6_growAllHeld_17 : decode cX6_growAllHeld 17 = .ok (.getfield 51, 3) := by decide +kernel
theorem dX6_growAllHeld_20 : decode cX6_growAllHeld 20 = .ok (.iload_n 1, 1) := by decide +kernel
theorem dX6_growAllHeld_21 : decode cX6_growAllHeld 21 = .ok (.laload, 1) := by decide +kernel
theorem dX6_growAllHeld_22 : decode cX6_growAllHeld 22 = .ok (.invokevirtual 162, 3) := by decide +kernel
theorem dX6_growAllHeld_25 : decode cX6_growAllHeld 25 = .ok (.lastore, 1) := by decide +kernel
theorem dX6_growAllHeld_26 : decode cX6_growAllHeld 26 = .ok (.iinc 1 1, 3) := by decide +kernel
theorem dX6_growAllHeld_29 : decode cX6_growAllHeld 29 = .ok (.goto (-27), 3) := by decide +kernel
theorem dX6_growAllHeld_32 : decode cX6_growAllHeld 32 = .ok (.return_, 1) := by decide +kernel
theorem dX6_bitOf_0 : decode cX6_bitOf 0 = .ok (.lconst 1, 1) := by decide +kernel
theorem dX6_bitOf_1 : decode cX6_bitOf 1 = .ok (.iload_n 0, 1) := by decide +kernel
theorem dX6_bitOf_2 : decode cX6_bitOf 2 = .ok (.lshl, 1) := by decide +kernel
theorem dX6_bitOf_3 : decode cX6_bitOf 3 = .ok (.lreturn, 1) := by decide +kernel
theorem dX6_contains_0 : decode cX6_contains 0 = .ok (.lload_n 0, 1) := by decide +kernel
theorem dX6_contains_1 : decode cX6_contains 1 = .ok (.iload_n 2, 1) := by decide +kernel
theorem dX6_contains_2 : decode cX6_contains 2 = .ok (.invokestatic 275, 3) := by decide +kernel
theorem dX6_contains_5 : decode cX6_contains 5 = .ok (.land, 1) := by decide +kernel
theorem dX6_contains_6 : decode cX6_contains 6 = .ok (.lconst 0, 1) := by decide +kernel
theorem dX6_contains_7 : decode cX6_contains 7 = .ok (.lcmp, 1) := by decide +kernel
theorem dX6_contains_8 : decode cX6_contains 8 = .ok (.ifCond .eq 7, 3) := by decide +kernel
theorem dX6_contains_11 : decode cX6_contains 11 = .ok (.iconst 1, 1) := by decide +kernel
theorem dX6_contains_12 : decode cX6_contains 12 = .ok (.goto 4, 3) := by decide +kernel
theorem dX6_contains_15 : decode cX6_contains 15 = .ok (.iconst 0, 1) := by decide +kernel
theorem dX6_contains_16 : decode cX6_contains 16 = .ok (.ireturn, 1) := by decide +kernel
end
section
theorem dX7_init_0 : decode cX7_init 0 = .ok (.aload_n 0, 1) := by decide +kernel
theorem dX7_init_1 : decode cX7_init 1 = .ok (.invokespecial 1, 3) := by decide +kernel
theorem dX7_init_4 : decode cX7_init 4 = .ok (.aload_n 0, 1) := by decide +kernel
theorem dX7_init_5 : decode cX7_init 5 = .ok (.iconst 5, 1) := by decide +kernel
theorem dX7_init_6 : decode cX7_init 6 = .ok (.putfield 7, 3) := by decide +kernel
theorem dX7_init_9 : decode cX7_init 9 = .ok (.aload_n 0, 1) := by decide +kernel
theorem dX7_init_10 : decode cX7_init 10 = .ok (.bipush 40, 2) := by decide +kernel
theorem dX7_init_12 : decode cX7_init 12 = .ok (.newarray .int, 2) := by decide +kernel
theorem dX7_init_14 : decode cX7_init 14 = .ok (.putfield 13, 3) := by decide +kernel
theorem dX7_init_17 : decode cX7_init 17 = .ok (.aload_n 0, 1) := by decide +kernel
theorem dX7_init_18 : decode cX7_init 18 = .ok (.bipush 40, 2) := by decide +kernel
theorem dX7_init_20 : decode cX7_init 20 = .ok (.newarray .int, 2) := by decide +kernel
theorem dX7_init_22 : decode cX7_init 22 = .ok (.putfield 17, 3) := by decide +kernel
theorem dX7_init_25 : decode cX7_init 25 = .ok (.aload_n 0, 1) := by decide +kernel
theorem dX7_init_26 : decode cX7_init 26 = .ok (.bipush 8, 2) := by decide +kernel
theorem dX7_init_28 : decode cX7_init 28 = .ok (.newarray .int, 2) := by decide +kernel
theorem dX7_init_30 : decode cX7_init 30 = .ok (.putfield 20, 3) := by decide +kernel
theorem dX7_init_33 : decode cX7_init 33 = .ok (.aload_n 0, 1) := by decide +kernel
theorem dX7_init_34 : decode cX7_init 34 = .ok (.bipush 8, 2) := by decide +kernel
theorem dX7_init_36 : decode cX7_init 36 = .ok (.newarray .int, 2) := by decide +kernel
theorem dX7_init_38 : decode cX7_init 38 = .ok (.putfield 23, 3) := by decide +kernel
theorem dX7_init_41 : decode cX7_init 41 = .ok (.aload_n 0, 1) := by decide +kernel
theorem dX7_init_42 : decode cX7_init 42 = .ok (.bipush 8, 2) := by decide +kernel
theorem dX7_init_44 : decode cX7_init 44 = .ok (.newarray .int, 2) := by decide +kernel
theorem dX7_init_46 : decode cX7_init 46 = .ok (.putfield 26, 3) := by decide +kernel
theorem dX7_init_49 : decode cX7_init 49 = .ok (.aload_n 0, 1) := by decide +kernel
theorem dX7_init_50 : decode cX7_init 50 = .ok (.bipush 12, 2) := by decide +kernel
theorem dX7_init_52 : decode cX7_init 52 = .ok (.newarray .int, 2) := by decide +kernel
theorem dX7_init_54 : decode cX7_init 54 = .ok (.putfield 29, 3) := by decide +kernel
theorem dX7_init_57 : decode cX7_init 57 = .ok (.aload_n 0, 1) := by decide +kernel
theorem dX7_init_58 : decode cX7_init 58 = .ok (.bipush 12, 2) := by decide +kernel
theorem dX7_init_60 : decode cX7_init 60 = .ok (.newarray .int, 2) := by decide +kernel
theorem dX7_init_62 : decode cX7_init 62 = .ok (.putfield 32, 3) := by decide +kernel
theorem dX7_init_65 : decode cX7_init 65 = .ok (.aload_n 0, 1) := by decide +kernel
theorem dX7_init_66 : decode cX7_init 66 = .ok (.bipush 12, 2) := by decide +kernel
theorem dX7_init_68 : decode cX7_init 68 = .ok (.newarray .int, 2) := by decide +kernel
theorem dX7_init_70 : decode cX7_init 70 = .ok (.putfield 35, 3) := by decide +kernel
theorem dX7_init_73 : decode cX7_init 73 = .ok (.aload_n 0, 1) := by decide +kernel
theorem dX7_init_74 : decode cX7_init 74 = .ok (.bipush 12, 2) := by decide +kernel
theorem dX7_init_76 : decode cX7_init 76 = .ok (.newarray .int, 2) := by decide +kernel
theorem dX7_init_78 : decode cX7_init 78 = .ok (.putfield 38, 3) := by decide +kernel
theorem dX7_init_81 : decode cX7_init 81 = .ok (.aload_n 0, 1) := by decide +kernel
theorem dX7_init_82 : decode cX7_init 82 = .ok (.bipush 10, 2) := by decide +kernel
theorem dX7_init_84 : decode cX7_init 84 = .ok (.newarray .int, 2) := by decide +kernel
theorem dX7_init_86 : decode cX7_init 86 = .ok (.putfield 41, 3) := by decide +kernel
theorem dX7_init_89 : decode cX7_init 89 = .ok (.aload_n 0, 1) := by decide +kernel
theorem dX7_init_90 : decode cX7_init 90 = .ok (.bipush 10, 2) := by decide +kernel
theorem dX7_init_92 : decode cX7_init 92 = .ok (.newarray .int, 2) := by decide +kernel
theorem dX7_init_94 : decode cX7_init 94 = .ok (.putfield 44, 3) := by decide +kernel
theorem dX7_init_97 : decode cX7_init 97 = .ok (.aload_n 0, 1) := by decide +kernel
theorem dX7_init_98 : decode cX7_init 98 = .ok (.bipush 10, 2) := by decide +kernel
theorem dX7_init_100 : decode cX7_init 100 = .ok (.newarray .int, 2) := by decide +kernel
theorem dX7_init_102 : decode cX7_init 102 = .ok (.putfield 47, 3) := by decide +kernel
theorem dX7_init_105 : decode cX7_init 105 = .ok (.aload_n 0, 1) := by decide +kernel
theorem dX7_init_106 : decode cX7_init 106 = .ok (.bipush 20, 2) := by decide +kernel
theorem dX7_init_108 : decode cX7_init 108 = .ok (.newarray .int, 2) := by decide +kernel
theorem dX7_init_110 : decode cX7_init 110 = .ok (.putfield 50, 3) := by decide +kernel
theorem dX7_init_113 : decode cX7_init 113 = .ok (.aload_n 0, 1) := by decide +kernel
theorem dX7_init_114 : decode cX7_init 114 = .ok (.bipush 20, 2) := by decide +kernel
theorem dX7_init_116 : decode cX7_init 116 = .ok (.newarray .int, 2) := by decide +kernel
theorem dX7_init_118 : decode cX7_init 118 = .ok (.putfield 53, 3) := by decide +kernel
theorem dX7_init_121 : decode cX7_init 121 = .ok (.aload_n 0, 1) := by decide +kernel
theorem dX7_init_122 : decode cX7_init 122 = .ok (.bipush 20, 2) := by decide +kernel
theorem dX7_init_124 : decode cX7_init 124 = .ok (.newarray .int, 2) := by decide +kernel
theorem dX7_init_126 : decode cX7_init 126 = .ok (.putfield 56, 3) := by decide +kernel
theorem dX7_init_129 : decode cX7_init 129 = .ok (.aload_n 0, 1) := by decide +kernel
theorem dX7_init_130 : decode cX7_init 130 = .ok (.iconst 5, 1) := by decide +kernel
theorem dX7_init_131 : decode cX7_init 131 = .ok (.newarray .int, 2) := by decide +kernel
theorem dX7_init_133 : decode cX7_init 133 = .ok (.putfield 59, 3) := by decide +kernel
theorem dX7_init_136 : decode cX7_init 136 = .ok (.aload_n 0, 1) := by decide +kernel
theorem dX7_init_137 : decode cX7_init 137 = .ok (.iconst 5, 1) := by decide +kernel
theorem dX7_init_138 : decode cX7_init 138 = .ok (.newarray .int, 2) := by decide +kernel
theorem dX7_init_140 : decode cX7_init 140 = .ok (.putfield 62, 3) := by decide +kernel
theorem dX7_init_143 : decode cX7_init 143 = .ok (.aload_n 0, 1) := by decide +kernel
theorem dX7_init_144 : decode cX7_init 144 = .ok (.bipush 12, 2) := by decide +kernel
theorem dX7_init_146 : decode cX7_init 146 = .ok (.newarray .boolean, 2) := by decide +kernel
theorem dX7_init_148 : decode cX7_init 148 = .ok (.putfield 65, 3) := by decide +kernel
theorem dX7_init_151 : decode cX7_init 151 = .ok (.aload_n 0, 1) := by decide +kernel
theorem dX7_init_152 : decode cX7_init 152 = .ok (.sipush 200, 3) := by decide +kernel
theorem dX7_init_155 : decode cX7_init 155 = .ok (.newarray .boolean, 2) := by decide +kernel
theorem dX7_init_157 : decode cX7_init 157 = .ok (.putfield 69, 3) := by decide +kernel
theorem dX7_init_160 : decode cX7_init 160 = .ok (.aload_n 0, 1) := by decide +kernel
theorem dX7_init_161 : decode cX7_init 161 = .ok (.bipush 40, 2) := by decide +kernel
theorem dX7_init_163 : decode cX7_init 163 = .ok (.newarray .boolean, 2) := by decide +kernel
theorem dX7_init_165 : decode cX7_init 165 = .ok (.putfield 72, 3) := by decide +kernel
theorem dX7_init_168 : decode cX7_init 168 = .ok (.aload_n 0, 1) := by decide +kernel
theorem dX7_init_169 : decode cX7_init 169 = .ok (.bipush 20, 2) := by decide +kernel
theorem dX7_init_171 : decode cX7_init 171 = .ok (.newarray .char, 2) := by decide +kernel
theorem dX7_init_173 : decode cX7_init 173 = .ok (.putfield 75, 3) := by decide +kernel
theorem dX7_init_176 : decode cX7_init 176 = .ok (.return_, 1) := by decide +kernel
theorem dX7_thrown_0 : decode cX7_thrown 0 = .ok (.aload_n 0, 1) := by decide +kernel
theorem dX7_thrown_1 : decode cX7_thrown 1 = .ok (.getfield 79, 3) := by decide +kernel
theorem dX7_thrown_4 : decode cX7_thrown 4 = .ok (.ireturn, 1) := by decide +kernel
theorem dX7_refuse_0 : decode cX7_refuse 0 = .ok (.aload_n 0, 1) := by decide +kernel
theorem dX7_refuse_1 : decode cX7_refuse 1 = .ok (.iload_n 1, 1) := by decide +kernel
theorem dX7_refuse_2 : decode cX7_refuse 2 = .ok (.putfield 79, 3) := by decide +kernel
theorem dX7_refuse_5 : decode cX7_refuse 5 = .ok (.iconst 0, 1) := by decide +kernel
theorem dX7_refuse_6 : decode cX7_refuse 6 = .ok (.ireturn, 1) := by decide +kernel
theorem dX7_isIn_0 : decode cX7_isIn 0 = .ok (.iload_n 0, 1) := by decide +kernel
theorem dX7_isIn_1 : decode cX7_isIn 1 = .ok (.iload_n 1, 1) := by decide +kernel
theorem dX7_isIn_2 : decode cX7_isIn 2 = .ok (.if_icmp .lt 12, 3) := by decide +kernel
theorem dX7_isIn_5 : decode cX7_isIn 5 = .ok (.iload_n 0, 1) := by decide +kernel
theorem dX7_isIn_6 : decode cX7_isIn 6 = .ok (.iload_n 2, 1) := by decide +kernel
theorem dX7_isIn_7 : decode cX7_isIn 7 = .ok (.if_icmp .gt 7, 3) := by decide +kernel
theorem dX7_isIn_10 : decode cX7_isIn 10 = .ok (.iconst 1, 1) := by decide +kernel
theorem dX7_isIn_11 : decode cX7_isIn 11 = .ok (.goto 4, 3) := by decide +kernel
theorem dX7_isIn_14 : decode cX7_isIn 14 = .ok (.iconst 0, 1) := by decide +kernel
theorem dX7_isIn_15 : decode cX7_isIn 15 = .ok (.ireturn, 1) := by decide +kernel
theorem dX7_noDocument_0 : decode cX7_noDocument 0 = .ok (.aload_n 0, 1) := by decide +kernel
theorem dX7_noDocument_1 : decode cX7_noDocument 1 = .ok (.iload_n 1, 1) := by decide +kernel
theorem dX7_noDocument_2 : decode cX7_noDocument 2 = .ok (.iconst 0, 1) := by decide +kernel
theorem dX7_noDocument_3 : decode cX7_noDocument 3 = .ok (.aload_n 0, 1) := by decide +kernel
theorem dX7_noDocument_4 : decode cX7_noDocument 4 = .ok (.getfield 82, 3) := by decide +kernel
theorem dX7_noDocument_7 : decode cX7_noDocument 7 = .ok (.iconst 1, 1) := by decide +kernel
theorem dX7_noDocument_8 : decode cX7_noDocument 8 = .ok (.isub, 1) := by decide +kernel
theorem dX7_noDocument_9 : decode cX7_noDocument 9 = .ok (.invokestatic 85, 3) := by decide +kernel
theorem dX7_noDocument_12 : decode cX7_noDocument 12 = .ok (.ifCond .eq 7, 3) := by decide +kernel
theorem dX7_noDocument_15 : decode cX7_noDocument 15 = .ok (.iconst 0, 1) := by decide +kernel
theorem dX7_noDocument_16 : decode cX7_noDocument 16 = .ok (.goto 4, 3) := by decide +kernel
theorem dX7_noDocument_19 : decode cX7_noDocument 19 = .ok (.iconst 1, 1) := by decide +kernel
theorem dX7_noDocument_20 : decode cX7_noDocument 20 = .ok (.putfield 79, 3) := by decide +kernel
theorem dX7_noDocument_23 : decode cX7_noDocument 23 = .ok (.aload_n 0, 1) := by decide +kernel
theorem dX7_noDocument_24 : decode cX7_noDocument 24 = .ok (.getfield 79, 3) := by decide +kernel
theorem dX7_noDocument_27 : decode cX7_noDocument 27 = .ok (.ifCond .eq 7, 3) := by decide +kernel
theorem dX7_noDocument_30 : decode cX7_noDocument 30 = .ok (.iconst 1, 1) := by decide +kernel
theorem dX7_noDocument_31 : decode cX7_noDocument 31 = .ok (.goto 4, 3) := by decide +kernel
theorem dX7_noDocument_34 : decode cX7_noDocument 34 = .ok (.iconst 0, 1) := by decide +kernel
theorem dX7_noDocument_35 : decode cX7_noDocument 35 = .ok (.ireturn, 1) := by decide +kernel
theorem dX7_noLine_0 : decode cX7_noLine 0 = .ok (.aload_n 0, 1) := by decide +kernel
theorem dX7_noLine_1 : decode cX7_noLine 1 = .ok (.iload_n 1, 1) := by decide +kernel
theorem dX7_noLine_2 : decode cX7_noLine 2 = .ok (.iconst 0, 1) := by decide +kernel
theorem dX7_noLine_3 : decode cX7_noLine 3 = .ok (.aload_n 0, 1) := by decide +kernel
theorem dX7_noLine_4 : decode cX7_noLine 4 = .ok (.getfield 89, 3) := by decide +kernel
theorem dX7_noLine_7 : decode cX7_noLine 7 = .ok (.iconst 1, 1) := by decide +kernel
theorem dX7_noLine_8 : decode cX7_noLine 8 = .ok (.isub, 1) := by decide +kernel
theorem dX7_noLine_9 : decode cX7_noLine 9 = .ok (.invokestatic 85, 3) := by decide +kernel
theorem dX7_noLine_12 : decode cX7_noLine 12 = .ok (.ifCond .eq 7, 3) := by decide +kernel
theorem dX7_noLine_15 : decode cX7_noLine 15 = .ok (.iconst 0, 1) := by decide +kernel
theorem dX7_noLine_16 : decode cX7_noLine 16 = .ok (.goto 4, 3) := by decide +kernel
theorem dX7_noLine_19 : decode cX7_noLine 19 = .ok (.iconst 1, 1) := by decide +kernel
theorem dX7_noLine_20 : decode cX7_noLine 20 = .ok (.putfield 79, 3) := by decide +kernel
theorem dX7_noLine_23 : decode cX7_noLine 23 = .ok (.aload_n 0, 1) := by decide +kernel
theorem dX7_noLine_24 : decode cX7_noLine 24 = .ok (.getfield 79, 3) := by decide +kernel
theorem dX7_noLine_27 : decode cX7_noLine 27 = .ok (.ifCond .eq 7, 3) := by decide +kernel
theorem dX7_noLine_30 : decode cX7_noLine 30 = .ok (.iconst 1, 1) := by decide +kernel
theorem dX7_noLine_31 : decode cX7_noLine 31 = .ok (.goto 4, 3) := by decide +kernel
theorem dX7_noLine_34 : decode cX7_noLine 34 = .ok (.iconst 0, 1) := by decide +kernel
theorem dX7_noLine_35 : decode cX7_noLine 35 = .ok (.ireturn, 1) := by decide +kernel
theorem dX7_noAsker_0 : decode cX7_noAsker 0 = .ok (.aload_n 0, 1) := by decide +kernel
theorem dX7_noAsker_1 : decode cX7_noAsker 1 = .ok (.iload_n 1, 1) := by decide +kernel
theorem dX7_noAsker_2 : decode cX7_noAsker 2 = .ok (.iconst 0, 1) := by decide +kernel
theorem dX7_noAsker_3 : decode cX7_noAsker 3 = .ok (.iconst 4, 1) := by decide +kernel
theorem dX7_noAsker_4 : decode cX7_noAsker 4 = .ok (.invokestatic 85, 3) := by decide +kernel
theorem dX7_noAsker_7 : decode cX7_noAsker 7 = .ok (.ifCond .eq 7, 3) := by decide +kernel
theorem dX7_noAsker_10 : decode cX7_noAsker 10 = .ok (.iconst 0, 1) := by decide +kernel
theorem dX7_noAsker_11 : decode cX7_noAsker 11 = .ok (.goto 4, 3) := by decide +kernel
theorem dX7_noAsker_14 : decode cX7_noAsker 14 = .ok (.iconst 1, 1) := by decide +kernel
theorem dX7_noAsker_15 : decode cX7_noAsker 15 = .ok (.putfield 79, 3) := by decide +kernel
theorem dX7_noAsker_18 : decode cX7_noAsker 18 = .ok (.aload_n 0, 1) := by decide +kernel
theorem dX7_noAsker_19 : decode cX7_noAsker 19 = .ok (.getfield 79, 3) := by decide +kernel
theorem dX7_noAsker_22 : decode cX7_noAsker 22 = .ok (.ifCond .eq 7, 3) := by decide +kernel
theorem dX7_noAsker_25 : decode cX7_noAsker 25 = .ok (.iconst 1, 1) := by decide +kernel
theorem dX7_noAsker_26 : decode cX7_noAsker 26 = .ok (.goto 4, 3) := by decide +kernel
theorem dX7_noAsker_29 : decode cX7_noAsker 29 = .ok (.iconst 0, 1) := by decide +kernel
theorem dX7_noAsker_30 : decode cX7_noAsker 30 = .ok (.ireturn, 1) := by decide +kernel
theorem dX7_addDocument_0 : decode cX7_addDocument 0 = .ok (.aload_n 0, 1) := by decide +kernel
theorem dX7_addDocument_1 : decode cX7_addDocument 1 = .ok (.getfield 82, 3) := by decide +kernel
theorem dX7_addDocument_4 : decode cX7_addDocument 4 = .ok (.bipush 8, 2) := by decide +kernel
theorem dX7_addDocument_6 : decode cX7_addDocument 6 = .ok (.if_icmp .ne 9, 3) := by decide +kernel
theorem dX7_addDocument_9 : decode cX7_addDocument 9 = .ok (.aload_n 0, 1) := by decide +kernel
theorem dX7_addDocument_10 : decode cX7_addDocument 10 = .ok (.iconst 1, 1) := by decide +kernel
theorem dX7_addDocument_11 : decode cX7_addDocument 11 = .ok (.invokevirtual 92, 3) := by decide +kernel
theorem dX7_addDocument_14 : decode cX7_addDocument 14 = .ok (.ireturn, 1) := by decide +kernel
theorem dX7_addDocument_15 : decode cX7_addDocument 15 = .ok (.aload_n 0, 1) := by decide +kernel
theorem dX7_addDocument_16 : decode cX7_addDocument 16 = .ok (.iconst 0, 1) := by decide +kernel
theorem dX7_addDocument_17 : decode cX7_addDocument 17 = .ok (.putfield 79, 3) := by decide +kernel
theorem dX7_addDocument_20 : decode cX7_addDocument 20 = .ok (.aload_n 0, 1) := by decide +kernel
theorem dX7_addDocument_21 : decode cX7_addDocument 21 = .ok (.dup, 1) := by decide +kernel
theorem dX7_addDocument_22 : decode cX7_addDocument 22 = .ok (.getfield 82, 3) := by decide +kernel
theorem dX7_addDocument_25 : decode cX7_addDocument 25 = .ok (.dup_x1, 1) := by decide +kernel
theorem dX7_addDocument_26 : decode cX7_addDocument 26 = .ok (.iconst 1, 1) := by decide +kernel
theorem dX7_addDocument_27 : decode cX7_addDocument 27 = .ok (.iadd, 1) := by decide +kernel
theorem dX7_addDocument_28 : decode cX7_addDocument 28 = .ok (.putfield 82, 3) := by decide +kernel
theorem dX7_addDocument_31 : decode cX7_addDocument 31 = .ok (.ireturn, 1) := by decide +kernel
theorem dX7_addLine_0 : decode cX7_addLine 0 = .ok (.aload_n 0, 1) := by decide +kernel
theorem dX7_addLine_1 : decode cX7_addLine 1 = .ok (.iload_n 1, 1) := by decide +kernel
theorem dX7_addLine_2 : decode cX7_addLine 2 = .ok (.invokevirtual 96, 3) := by decide +kernel
theorem dX7_addLine_5 : decode cX7_addLine 5 = .ok (.ifCond .eq 5, 3) := by decide +kernel
theorem dX7_addLine_8 : decode cX7_addLine 8 = .ok (.iconst 0, 1) := by decide +kernel
theorem dX7_addLine_9 : decode cX7_addLine 9 = .ok (.ireturn, 1) := by decide +kernel
theorem dX7_addLine_10 : decode cX7_addLine 10 = .ok (.iload_n 2, 1) := by decide +kernel
theorem dX7_addLine_11 : decode cX7_addLine 11 = .ok (.iconst 0, 1) := by decide +kernel
theorem dX7_addLine_12 : decode cX7_addLine 12 = .ok (.sipush 9999, 3) := by decide +kernel
theorem dX7_addLine_15 : decode cX7_addLine 15 = .ok (.invokestatic 85, 3) := by decide +kernel
theorem dX7_addLine_18 : decode cX7_addLine 18 = .ok (.ifCond .ne 9, 3) := by decide +kernel
theorem dX7_addLine_21 : decode cX7_addLine 21 = .ok (.aload_n 0, 1) := by decide +kernel
theorem dX7_addLine_22 : decode cX7_addLine 22 = .ok (.iconst 2, 1) := by decide +kernel
theorem dX7_addLine_23 : decode cX7_addLine 23 = .ok (.invokevirtual 92, 3) := by decide +kernel
theorem dX7_addLine_26 : decode cX7_addLine 26 = .ok (.ireturn, 1) := by decide +kernel
theorem dX7_addLine_27 : decode cX7_addLine 27 = .ok (.aload_n 0, 1) := by decide +kernel
theorem dX7_addLine_28 : decode cX7_addLine 28 = .ok (.getfield 89, 3) := by decide +kernel
theorem dX7_addLine_31 : decode cX7_addLine 31 = .ok (.bipush 40, 2) := by decide +kernel
theorem dX7_addLine_33 : decode cX7_addLine 33 = .ok (.if_icmp .ne 9, 3) := by decide +kernel
theorem dX7_addLine_36 : decode cX7_addLine 36 = .ok (.aload_n 0, 1) := by decide +kernel
theorem dX7_addLine_37 : decode cX7_addLine 37 = .ok (.iconst 3, 1) := by decide +kernel
theorem dX7_addLine_38 : decode cX7_addLine 38 = .ok (.invokevirtual 92, 3) := by decide +kernel
theorem dX7_addLine_41 : decode cX7_addLine 41 = .ok (.ireturn, 1) := by decide +kernel
theorem dX7_addLine_42 : decode cX7_addLine 42 = .ok (.aload_n 0, 1) := by decide +kernel
theorem dX7_addLine_43 : decode cX7_addLine 43 = .ok (.getfield 13, 3) := by decide +kernel
theorem dX7_addLine_46 : decode cX7_addLine 46 = .ok (.aload_n 0, 1) := by decide +kernel
theorem dX7_addLine_47 : decode cX7_addLine 47 = .ok (.getfield 89, 3) := by decide +kernel
theorem dX7_addLine_50 : decode cX7_addLine 50 = .ok (.iload_n 1, 1) := by decide +kernel
theorem dX7_addLine_51 : decode cX7_addLine 51 = .ok (.iastore, 1) := by decide +kernel
theorem dX7_addLine_52 : decode cX7_addLine 52 = .ok (.aload_n 0, 1) := by decide +kernel
theorem dX7_addLine_53 : decode cX7_addLine 53 = .ok (.getfield 17, 3) := by decide +kernel
theorem dX7_addLine_56 : decode cX7_addLine 56 = .ok (.aload_n 0, 1) := by decide +kernel
theorem dX7_addLine_57 : decode cX7_addLine 57 = .ok (.getfield 89, 3) := by decide +kernel
theorem dX7_addLine_60 : decode cX7_addLine 60 = .ok (.iload_n 2, 1) := by decide +kernel
theorem dX7_addLine_61 : decode cX7_addLine 61 = .ok (.iastore, 1) := by decide +kernel
theorem dX7_addLine_62 : decode cX7_addLine 62 = .ok (.aload_n 0, 1) := by decide +kernel
theorem dX7_addLine_63 : decode cX7_addLine 63 = .ok (.dup, 1) := by decide +kernel
theorem dX7_addLine_64 : decode cX7_addLine 64 = .ok (.getfield 89, 3) := by decide +kernel
theorem dX7_addLine_67 : decode cX7_addLine 67 = .ok (.dup_x1, 1) := by decide +kernel
theorem dX7_addLine_68 : decode cX7_addLine 68 = .ok (.iconst 1, 1) := by decide +kernel
theorem dX7_addLine_69 : decode cX7_addLine 69 = .ok (.iadd, 1) := by decide +kernel
theorem dX7_addLine_70 : decode cX7_addLine 70 = .ok (.putfield 89, 3) := by decide +kernel
theorem dX7_addLine_73 : decode cX7_addLine 73 = .ok (.ireturn, 1) := by decide +kernel
theorem dX7_rescan_0 : decode cX7_rescan 0 = .ok (.aload_n 0, 1) := by decide +kernel
theorem dX7_rescan_1 : decode cX7_rescan 1 = .ok (.iload_n 1, 1) := by decide +kernel
theorem dX7_rescan_2 : decode cX7_rescan 2 = .ok (.invokevirtual 100, 3) := by decide +kernel
theorem dX7_rescan_5 : decode cX7_rescan 5 = .ok (.ifCond .eq 5, 3) := by decide +kernel
theorem dX7_rescan_8 : decode cX7_rescan 8 = .ok (.iconst 0, 1) := by decide +kernel
theorem dX7_rescan_9 : decode cX7_rescan 9 = .ok (.ireturn, 1) := by decide +kernel
theorem dX7_rescan_10 : decode cX7_rescan 10 = .ok (.iload_n 2, 1) := by decide +kernel
theorem dX7_rescan_11 : decode cX7_rescan 11 = .ok (.iconst 0, 1) := by decide +kernel
theorem dX7_rescan_12 : decode cX7_rescan 12 = .ok (.sipush 9999, 3) := by decide +kernel
theorem dX7_rescan_15 : decode cX7_rescan 15 = .ok (.invokestatic 85, 3) := by decide +kernel
theorem dX7_rescan_18 : decode cX7_rescan 18 = .ok (.ifCond .ne 9, 3) := by decide +kernel
theorem dX7_rescan_21 : decode cX7_rescan 21 = .ok (.aload_n 0, 1) := by decide +kernel
theorem dX7_rescan_22 : decode cX7_rescan 22 = .ok (.iconst 2, 1) := by decide +kernel
theorem dX7_rescan_23 : decode cX7_rescan 23 = .ok (.invokevirtual 92, 3) := by decide +kernel
theorem dX7_rescan_26 : decode cX7_rescan 26 = .ok (.ireturn, 1) := by decide +kernel
theorem dX7_rescan_27 : decode cX7_rescan 27 = .ok (.aload_n 0, 1) := by decide +kernel
theorem dX7_rescan_28 : decode cX7_rescan 28 = .ok (.getfield 17, 3) := by decide +kernel
theorem dX7_rescan_31 : decode cX7_rescan 31 = .ok (.iload_n 1, 1) := by decide +kernel
theorem dX7_rescan_32 : decode cX7_rescan 32 = .ok (.iaload, 1) := by decide +kernel
theorem dX7_rescan_33 : decode cX7_rescan 33 = .ok (.istore_n 3, 1) := by decide +kernel
theorem dX7_rescan_34 : decode cX7_rescan 34 = .ok (.aload_n 0, 1) := by decide +kernel
theorem dX7_rescan_35 : decode cX7_rescan 35 = .ok (.getfield 17, 3) := by decide +kernel
theorem dX7_rescan_38 : decode cX7_rescan 38 = .ok (.iload_n 1, 1) := by decide +kernel
theorem dX7_rescan_39 : decode cX7_rescan 39 = .ok (.iload_n 2, 1) := by decide +kernel
theorem dX7_rescan_40 : decode cX7_rescan 40 = .ok (.iastore, 1) := by decide +kernel
theorem dX7_rescan_41 : decode cX7_rescan 41 = .ok (.iload_n 3, 1) := by decide +kernel
theorem dX7_rescan_42 : decode cX7_rescan 42 = .ok (.ireturn, 1) := by decide +kernel
theorem dX7_documentOf_0 : decode cX7_documentOf 0 = .ok (.aload_n 0, 1) := by decide +kernel
theorem dX7_documentOf_1 : decode cX7_documentOf 1 = .ok (.iload_n 1, 1) := by decide +kernel
theorem dX7_documentOf_2 : decode cX7_documentOf 2 = .ok (.invokevirtual 100, 3) := by decide +kernel
theorem dX7_documentOf_5 : decode cX7_documentOf 5 = .ok (.ifCond .eq 7, 3) := by decide +kernel
theorem dX7_documentOf_8 : decode cX7_documentOf 8 = .ok (.iconst 0, 1) := by decide +kernel
theorem dX7_documentOf_9 : decode cX7_documentOf 9 = .ok (.goto 9, 3) := by decide +kernel
theorem dX7_documentOf_12 : decode cX7_documentOf 12 = .ok (.aload_n 0, 1) := by decide +kernel
theorem dX7_documentOf_13 : decode cX7_documentOf 13 = .ok (.getfield 13, 3) := by decide +kernel
theorem dX7_documentOf_16 : decode cX7_documentOf 16 = .ok (.iload_n 1, 1) := by decide +kernel
theorem dX7_documentOf_17 : decode cX7_documentOf 17 = .ok (.iaload, 1) := by decide +kernel
theorem dX7_documentOf_18 : decode cX7_documentOf 18 = .ok (.ireturn, 1) := by decide +kernel
theorem dX7_index_0 : decode cX7_index 0 = .ok (.iconst 0, 1) := by decide +kernel
theorem dX7_index_1 : decode cX7_index 1 = .ok (.istore_n 2, 1) := by decide +kernel
theorem dX7_index_2 : decode cX7_index 2 = .ok (.iconst 0, 1) := by decide +kernel
theorem dX7_index_3 : decode cX7_index 3 = .ok (.istore_n 3, 1) := by decide +kernel
theorem dX7_index_4 : decode cX7_index 4 = .ok (.iload_n 3, 1) := by decide +kernel
theorem dX7_index_5 : decode cX7_index 5 = .ok (.iload_n 1, 1) := by decide +kernel
theorem dX7_index_6 : decode cX7_index 6 = .ok (.if_icmp .ge 32, 3) := by decide +kernel
theorem dX7_index_9 : decode cX7_index 9 = .ok (.iload_n 2, 1) := by decide +kernel
theorem dX7_index_10 : decode cX7_index 10 = .ok (.aload_n 0, 1) := by decide +kernel
theorem dX7_index_11 : decode cX7_index 11 = .ok (.getfield 13, 3) := by decide +kernel
theorem dX7_index_14 : decode cX7_index 14 = .ok (.iload_n 3, 1) := by decide +kernel
theorem dX7_index_15 : decode cX7_index 15 = .ok (.iaload, 1) := by decide +kernel
theorem dX7_index_16 : decode cX7_index 16 = .ok (.aload_n 0, 1) := by decide +kernel
theorem dX7_index_17 : decode cX7_index 17 = .ok (.getfield 13, 3) := by decide +kernel
theorem dX7_index_20 : decode cX7_index 20 = .ok (.iload_n 1, 1) := by decide +kernel
theorem dX7_index_21 : decode cX7_index 21 = .ok (.iaload, 1) := by decide +kernel
theorem dX7_index_22 : decode cX7_index 22 = .ok (.if_icmp .ne 7, 3) := by decide +kernel
theorem dX7_index_25 : decode cX7_index 25 = .ok (.iconst 1, 1) := by decide +kernel
theorem dX7_index_26 : decode cX7_index 26 = .ok (.goto 4, 3) := by decide +kernel
theorem dX7_index_29 : decode cX7_index 29 = .ok (.iconst 0, 1) := by decide +kernel
theorem dX7_index_30 : decode cX7_index 30 = .ok (.iadd, 1) := by decide +kernel
theorem dX7_index_31 : decode cX7_index 31 = .ok (.istore_n 2, 1) := by decide +kernel
theorem dX7_index_32 : decode cX7_index 32 = .ok (.iinc 3 1, 3) := by decide +kernel
theorem dX7_index_35 : decode cX7_index 35 = .ok (.goto (-31), 3) := by decide +kernel
theorem dX7_index_38 : decode cX7_index 38 = .ok (.iload_n 2, 1) := by decide +kernel
theorem dX7_index_39 : decode cX7_index 39 = .ok (.ireturn, 1) := by decide +kernel
theorem dX7_indexOf_0 : decode cX7_indexOf 0 = .ok (.aload_n 0, 1) := by decide +kernel
theorem dX7_indexOf_1 : decode cX7_indexOf 1 = .ok (.iload_n 1, 1) := by decide +kernel
theorem dX7_indexOf_2 : decode cX7_indexOf 2 = .ok (.invokevirtual 100, 3) := by decide +kernel
theorem dX7_indexOf_5 : decode cX7_indexOf 5 = .ok (.ifCond .eq 7, 3) := by decide +kernel
theorem dX7_indexOf_8 : decode cX7_indexOf 8 = .ok (.iconst 0, 1) := by decide +kernel
theorem dX7_indexOf_9 : decode cX7_indexOf 9 = .ok (.goto 8, 3) := by decide +kernel
theorem dX7_indexOf_12 : decode cX7_indexOf 12 = .ok (.aload_n 0, 1) := by decide +kernel
theorem dX7_indexOf_13 : decode cX7_indexOf 13 = .ok (.iload_n 1, 1) := by decide +kernel
theorem dX7_indexOf_14 : decode cX7_indexOf 14 = .ok (.invokevirtual 103, 3) := by decide +kernel
theorem dX7_indexOf_17 : decode cX7_indexOf 17 = .ok (.ireturn, 1) := by decide +kernel
theorem dX7_lines_0 : decode cX7_lines 0 = .ok (.aload_n 0, 1) := by decide +kernel
theorem dX7_lines_1 : decode cX7_lines 1 = .ok (.iload_n 1, 1) := by decide +kernel
theorem dX7_lines_2 : decode cX7_lines 2 = .ok (.invokevirtual 96, 3) := by decide +kernel
theorem dX7_lines_5 : decode cX7_lines 5 = .ok (.ifCond .eq 5, 3) := by decide +kernel
theorem dX7_lines_8 : decode cX7_lines 8 = .ok (.iconst 0, 1) := by decide +kernel
theorem dX7_lines_9 : decode cX7_lines 9 = .ok (.ireturn, 1) := by decide +kernel
theorem dX7_lines_10 : decode cX7_lines 10 = .ok (.iconst 0, 1) := by decide +kernel
theorem dX7_lines_11 : decode cX7_lines 11 = .ok (.istore_n 2, 1) := by decide +kernel
theorem dX7_lines_12 : decode cX7_lines 12 = .ok (.iconst 0, 1) := by decide +kernel
theorem dX7_lines_13 : decode cX7_lines 13 = .ok (.istore_n 3, 1) := by decide +kernel
theorem dX7_lines_14 : decode cX7_lines 14 = .ok (.iload_n 3, 1) := by decide +kernel
theorem dX7_lines_15 : decode cX7_lines 15 = .ok (.aload_n 0, 1) := by decide +kernel
theorem dX7_lines_16 : decode cX7_lines 16 = .ok (.getfield 89, 3) := by decide +kernel
theorem dX7_lines_19 : decode cX7_lines 19 = .ok (.if_icmp .ge 27, 3) := by decide +kernel
theorem dX7_lines_22 : decode cX7_lines 22 = .ok (.iload_n 2, 1) := by decide +kernel
theorem dX7_lines_23 : decode cX7_lines 23 = .ok (.aload_n 0, 1) := by decide +kernel
theorem dX7_lines_24 : decode cX7_lines 24 = .ok (.getfield 13, 3) := by decide +kernel
theorem dX7_lines_27 : decode cX7_lines 27 = .ok (.iload_n 3, 1) := by decide +kernel
theorem dX7_lines_28 : decode cX7_lines 28 = .ok (.iaload, 1) := by decide +kernel
theorem dX7_lines_29 : decode cX7_lines 29 = .ok (.iload_n 1, 1) := by decide +kernel
theorem dX7_lines_30 : decode cX7_lines 30 = .ok (.if_icmp .ne 7, 3) := by decide +kernel
theorem dX7_lines_33 : decode cX7_lines 33 = .ok (.iconst 1, 1) := by decide +kernel
theorem dX7_lines_34 : decode cX7_lines 34 = .ok (.goto 4, 3) := by decide +kernel
theorem dX7_lines_37 : decode cX7_lines 37 = .ok (.iconst 0, 1) := by decide +kernel
theorem dX7_lines_38 : decode cX7_lines 38 = .ok (.iadd, 1) := by decide +kernel
theorem dX7_lines_39 : decode cX7_lines 39 = .ok (.istore_n 2, 1) := by decide +kernel
theorem dX7_lines_40 : decode cX7_lines 40 = .ok (.iinc 3 1, 3) := by decide +kernel
theorem dX7_lines_43 : decode cX7_lines 43 = .ok (.goto (-29), 3) := by decide +kernel
theorem dX7_lines_46 : decode cX7_lines 46 = .ok (.iload_n 2, 1) := by decide +kernel
theorem dX7_lines_47 : decode cX7_lines 47 = .ok (.ireturn, 1) := by decide +kernel
theorem dX7_addRule_0 : decode cX7_addRule 0 = .ok (.iload_n 1, 1) := by decide +kernel
theorem dX7_addRule_1 : decode cX7_addRule 1 = .ok (.iconst 0, 1) := by decide +kernel
theorem dX7_addRule_2 : decode cX7_addRule 2 = .ok (.sipush 9999, 3) := by decide +kernel
theorem dX7_addRule_5 : decode cX7_addRule 5 = .ok (.invokestatic 85, 3) := by decide +kernel
theorem dX7_addRule_8 : decode cX7_addRule 8 = .ok (.ifCond .eq 28, 3) := by decide +kernel
theorem dX7_addRule_11 : decode cX7_addRule 11 = .ok (.iload_n 2, 1) := by decide +kernel
theorem dX7_addRule_12 : decode cX7_addRule 12 = .ok (.iload_n 1, 1) := by decide +kernel
theorem dX7_addRule_13 : decode cX7_addRule 13 = .ok (.sipush 9999, 3) := by decide +kernel
theorem dX7_addRule_16 : decode cX7_addRule 16 = .ok (.invokestatic 85, 3) := by decide +kernel
theorem dX7_addRule_19 : decode cX7_addRule 19 = .ok (.ifCond .eq 17, 3) := by decide +kernel
theorem dX7_addRule_22 : decode cX7_addRule 22 = .ok (.iload_n 3, 1) := by decide +kernel
theorem dX7_addRule_23 : decode cX7_addRule 23 = .ok (.aload_n 0, 1) := by decide +kernel
theorem dX7_addRule_24 : decode cX7_addRule 24 = .ok (.getfield 106, 3) := by decide +kernel
theorem dX7_addRule_27 : decode cX7_addRule 27 = .ok (.sipush 9999, 3) := by decide +kernel
theorem dX7_addRule_30 : decode cX7_addRule 30 = .ok (.invokestatic 85, 3) := by decide +kernel
theorem dX7_addRule_33 : decode cX7_addRule 33 = .ok (.ifCond .ne 9, 3) := by decide +kernel
theorem dX7_addRule_36 : decode cX7_addRule 36 = .ok (.aload_n 0, 1) := by decide +kernel
theorem dX7_addRule_37 : decode cX7_addRule 37 = .ok (.iconst 1, 1) := by decide +kernel
theorem dX7_addRule_38 : decode cX7_addRule 38 = .ok (.invokevirtual 92, 3) := by decide +kernel
theorem dX7_addRule_41 : decode cX7_addRule 41 = .ok (.ireturn, 1) := by decide +kernel
theorem dX7_addRule_42 : decode cX7_addRule 42 = .ok (.aload_n 0, 1) := by decide +kernel
theorem dX7_addRule_43 : decode cX7_addRule 43 = .ok (.getfield 109, 3) := by decide +kernel
theorem dX7_addRule_46 : decode cX7_addRule 46 = .ok (.bipush 8, 2) := by decide +kernel
theorem dX7_addRule_48 : decode cX7_addRule 48 = .ok (.if_icmp .ne 9, 3) := by decide +kernel
theorem dX7_addRule_51 : decode cX7_addRule 51 = .ok (.aload_n 0, 1) := by decide +kernel
theorem dX7_addRule_52 : decode cX7_addRule 52 = .ok (.iconst 2, 1) := by decide +kernel
theorem dX7_addRule_53 : decode cX7_addRule 53 = .ok (.invokevirtual 92, 3) := by decide +kernel
theorem dX7_addRule_56 : decode cX7_addRule 56 = .ok (.ireturn, 1) := by decide +kernel
theorem dX7_addRule_57 : decode cX7_addRule 57 = .ok (.aload_n 0, 1) := by decide +kernel
theorem dX7_addRule_58 : decode cX7_addRule 58 = .ok (.iconst 0, 1) := by decide +kernel
theorem dX7_addRule_59 : decode cX7_addRule 59 = .ok (.putfield 79, 3) := by decide +kernel
theorem dX7_addRule_62 : decode cX7_addRule 62 = .ok (.aload_n 0, 1) := by decide +kernel
theorem dX7_addRule_63 : decode cX7_addRule 63 = .ok (.getfield 20, 3) := by decide +kernel
theorem dX7_addRule_66 : decode cX7_addRule 66 = .ok (.aload_n 0, 1) := by decide +kernel
theorem dX7_addRule_67 : decode cX7_addRule 67 = .ok (.getfield 109, 3) := by decide +kernel
theorem dX7_addRule_70 : decode cX7_addRule 70 = .ok (.iload_n 1, 1) := by decide +kernel
theorem dX7_addRule_71 : decode cX7_addRule 71 = .ok (.iastore, 1) := by decide +kernel
theorem dX7_addRule_72 : decode cX7_addRule 72 = .ok (.aload_n 0, 1) := by decide +kernel
theorem dX7_addRule_73 : decode cX7_addRule 73 = .ok (.getfield 23, 3) := by decide +kernel
theorem dX7_addRule_76 : decode cX7_addRule 76 = .ok (.aload_n 0, 1) := by decide +kernel
theorem dX7_addRule_77 : decode cX7_addRule 77 = .ok (.getfield 109, 3) := by decide +kernel
theorem dX7_addRule_80 : decode cX7_addRule 80 = .ok (.iload_n 2, 1) := by decide +kernel
theorem dX7_addRule_81 : decode cX7_addRule 81 = .ok (.iastore, 1) := by decide +kernel
theorem dX7_addRule_82 : decode cX7_addRule 82 = .ok (.aload_n 0, 1) := by decide +kernel
theorem dX7_addRule_83 : decode cX7_addRule 83 = .ok (.getfield 26, 3) := by decide +kernel
theorem dX7_addRule_86 : decode cX7_addRule 86 = .ok (.aload_n 0, 1) := by decide +kernel
theorem dX7_addRule_87 : decode cX7_addRule 87 = .ok (.getfield 109, 3) := by decide +kernel
theorem dX7_addRule_90 : decode cX7_addRule 90 = .ok (.iload_n 3, 1) := by decide +kernel
theorem dX7_addRule_91 : decode cX7_addRule 91 = .ok (.iastore, 1) := by decide +kernel
theorem dX7_addRule_92 : decode cX7_addRule 92 = .ok (.aload_n 0, 1) := by decide +kernel
theorem dX7_addRule_93 : decode cX7_addRule 93 = .ok (.dup, 1) := by decide +kernel
theorem dX7_addRule_94 : decode cX7_addRule 94 = .ok (.getfield 109, 3) := by decide +kernel
theorem dX7_addRule_97 : decode cX7_addRule 97 = .ok (.dup_x1, 1) := by decide +kernel
theorem dX7_addRule_98 : decode cX7_addRule 98 = .ok (.iconst 1, 1) := by decide +kernel
theorem dX7_addRule_99 : decode cX7_addRule 99 = .ok (.iadd, 1) := by decide +kernel
theorem dX7_addRule_100 : decode cX7_addRule 100 = .ok (.putfield 109, 3) := by decide +kernel
theorem dX7_addRule_103 : decode cX7_addRule 103 = .ok (.ireturn, 1) := by decide +kernel
theorem dX7_addSpan_0 : decode cX7_addSpan 0 = .ok (.aload_n 0, 1) := by decide +kernel
theorem dX7_addSpan_1 : decode cX7_addSpan 1 = .ok (.iload_n 1, 1) := by decide +kernel
theorem dX7_addSpan_2 : decode cX7_addSpan 2 = .ok (.invokevirtual 96, 3) := by decide +kernel
theorem dX7_addSpan_5 : decode cX7_addSpan 5 = .ok (.ifCond .eq 5, 3) := by decide +kernel
theorem dX7_addSpan_8 : decode cX7_addSpan 8 = .ok (.iconst 0, 1) := by decide +kernel
theorem dX7_addSpan_9 : decode cX7_addSpan 9 = .ok (.ireturn, 1) := by decide +kernel
theorem dX7_addSpan_10 : decode cX7_addSpan 10 = .ok (.iload_n 2, 1) := by decide +kernel
theorem dX7_addSpan_11 : decode cX7_addSpan 11 = .ok (.iconst 0, 1) := by decide +kernel
theorem dX7_addSpan_12 : decode cX7_addSpan 12 = .ok (.bipush 39, 2) := by decide +kernel
theorem dX7_addSpan_14 : decode cX7_addSpan 14 = .ok (.invokestatic 85, 3) := by decide +kernel
theorem dX7_addSpan_17 : decode cX7_addSpan 17 = .ok (.ifCond .eq 28, 3) := by decide +kernel
theorem dX7_addSpan_20 : decode cX7_addSpan 20 = .ok (.iload_n 3, 1) := by decide +kernel
theorem dX7_addSpan_21 : decode cX7_addSpan 21 = .ok (.iload_n 2, 1) := by decide +kernel
theorem dX7_addSpan_22 : decode cX7_addSpan 22 = .ok (.bipush 39, 2) := by decide +kernel
theorem dX7_addSpan_24 : decode cX7_addSpan 24 = .ok (.invokestatic 85, 3) := by decide +kernel
theorem dX7_addSpan_27 : decode cX7_addSpan 27 = .ok (.ifCond .eq 18, 3) := by decide +kernel
theorem dX7_addSpan_30 : decode cX7_addSpan 30 = .ok (.iload 4, 2) := by decide +kernel
theorem dX7_addSpan_32 : decode cX7_addSpan 32 = .ok (.aload_n 0, 1) := by decide +kernel
theorem dX7_addSpan_33 : decode cX7_addSpan 33 = .ok (.getfield 106, 3) := by decide +kernel
theorem dX7_addSpan_36 : decode cX7_addSpan 36 = .ok (.sipush 9999, 3) := by decide +kernel
theorem dX7_addSpan_39 : decode cX7_addSpan 39 = .ok (.invokestatic 85, 3) := by decide +kernel
theorem dX7_addSpan_42 : decode cX7_addSpan 42 = .ok (.ifCond .ne 9, 3) := by decide +kernel
theorem dX7_addSpan_45 : decode cX7_addSpan 45 = .ok (.aload_n 0, 1) := by decide +kernel
theorem dX7_addSpan_46 : decode cX7_addSpan 46 = .ok (.iconst 2, 1) := by decide +kernel
theorem dX7_addSpan_47 : decode cX7_addSpan 47 = .ok (.invokevirtual 92, 3) := by decide +kernel
theorem dX7_addSpan_50 : decode cX7_addSpan 50 = .ok (.ireturn, 1) := by decide +kernel
theorem dX7_addSpan_51 : decode cX7_addSpan 51 = .ok (.aload_n 0, 1) := by decide +kernel
theorem dX7_addSpan_52 : decode cX7_addSpan 52 = .ok (.getfield 112, 3) := by decide +kernel
theorem dX7_addSpan_55 : decode cX7_addSpan 55 = .ok (.bipush 12, 2) := by decide +kernel
theorem dX7_addSpan_57 : decode cX7_addSpan 57 = .ok (.if_icmp .ne 9, 3) := by decide +kernel
theorem dX7_addSpan_60 : decode cX7_addSpan 60 = .ok (.aload_n 0, 1) := by decide +kernel
theorem dX7_addSpan_61 : decode cX7_addSpan 61 = .ok (.iconst 3, 1) := by decide +kernel
theorem dX7_addSpan_62 : decode cX7_addSpan 62 = .ok (.invokevirtual 92, 3) := by decide +kernel
theorem dX7_addSpan_65 : decode cX7_addSpan 65 = .ok (.ireturn, 1) := by decide +kernel
theorem dX7_addSpan_66 : decode cX7_addSpan 66 = .ok (.aload_n 0, 1) := by decide +kernel
theorem dX7_addSpan_67 : decode cX7_addSpan 67 = .ok (.getfield 29, 3) := by decide +kernel
theorem dX7_addSpan_70 : decode cX7_addSpan 70 = .ok (.aload_n 0, 1) := by decide +kernel
theorem dX7_addSpan_71 : decode cX7_addSpan 71 = .ok (.getfield 112, 3) := by decide +kernel
theorem dX7_addSpan_74 : decode cX7_addSpan 74 = .ok (.iload_n 1, 1) := by decide +kernel
theorem dX7_addSpan_75 : decode cX7_addSpan 75 = .ok (.iastore, 1) := by decide +kernel
theorem dX7_addSpan_76 : decode cX7_addSpan 76 = .ok (.aload_n 0, 1) := by decide +kernel
theorem dX7_addSpan_77 : decode cX7_addSpan 77 = .ok (.getfield 32, 3) := by decide +kernel
theorem dX7_addSpan_80 : decode cX7_addSpan 80 = .ok (.aload_n 0, 1) := by decide +kernel
theorem dX7_addSpan_81 : decode cX7_addSpan 81 = .ok (.getfield 112, 3) := by decide +kernel
theorem dX7_addSpan_84 : decode cX7_addSpan 84 = .ok (.iload_n 2, 1) := by decide +kernel
theorem dX7_addSpan_85 : decode cX7_addSpan 85 = .ok (.iastore, 1) := by decide +kernel
theorem dX7_addSpan_86 : decode cX7_addSpan 86 = .ok (.aload_n 0, 1) := by decide +kernel
theorem dX7_addSpan_87 : decode cX7_addSpan 87 = .ok (.getfield 35, 3) := by decide +kernel
theorem dX7_addSpan_90 : decode cX7_addSpan 90 = .ok (.aload_n 0, 1) := by decide +kernel
theorem dX7_addSpan_91 : decode cX7_addSpan 91 = .ok (.getfield 112, 3) := by decide +kernel
theorem dX7_addSpan_94 : decode cX7_addSpan 94 = .ok (.iload_n 3, 1) := by decide +kernel
theorem dX7_addSpan_95 : decode cX7_addSpan 95 = .ok (.iastore, 1) := by decide +kernel
theorem dX7_addSpan_96 : decode cX7_addSpan 96 = .ok (.aload_n 0, 1) := by decide +kernel
theorem dX7_addSpan_97 : decode cX7_addSpan 97 = .ok (.getfield 38, 3) := by decide +kernel
theorem dX7_addSpan_100 : decode cX7_addSpan 100 = .ok (.aload_n 0, 1) := by decide +kernel
theorem dX7_addSpan_101 : decode cX7_addSpan 101 = .ok (.getfield 112, 3) := by decide +kernel
theorem dX7_addSpan_104 : decode cX7_addSpan 104 = .ok (.iload 4, 2) := by decide +kernel
theorem dX7_addSpan_106 : decode cX7_addSpan 106 = .ok (.iastore, 1) := by decide +kernel
theorem dX7_addSpan_107 : decode cX7_addSpan 107 = .ok (.aload_n 0, 1) := by decide +kernel
theorem dX7_addSpan_108 : decode cX7_addSpan 108 = .ok (.dup, 1) := by decide +kernel
theorem dX7_addSpan_109 : decode cX7_addSpan 109 = .ok (.getfield 112, 3) := by decide +kernel
theorem dX7_addSpan_112 : decode cX7_addSpan 112 = .ok (.dup_x1, 1) := by decide +kernel
theorem dX7_addSpan_113 : decode cX7_addSpan 113 = .ok (.iconst 1, 1) := by decide +kernel
theorem dX7_addSpan_114 : decode cX7_addSpan 114 = .ok (.iadd, 1) := by decide +kernel
theorem dX7_addSpan_115 : decode cX7_addSpan 115 = .ok (.putfield 112, 3) := by decide +kernel
theorem dX7_addSpan_118 : decode cX7_addSpan 118 = .ok (.ireturn, 1) := by decide +kernel
theorem dX7_byRule_0 : decode cX7_byRule 0 = .ok (.iconst 0, 1) := by decide +kernel
theorem dX7_byRule_1 : decode cX7_byRule 1 = .ok (.istore_n 2, 1) := by decide +kernel
theorem dX7_byRule_2 : decode cX7_byRule 2 = .ok (.iload_n 2, 1) := by decide +kernel
theorem dX7_byRule_3 : decode cX7_byRule 3 = .ok (.aload_n 0, 1) := by decide +kernel
theorem dX7_byRule_4 : decode cX7_byRule 4 = .ok (.getfield 109, 3) := by decide +kernel
theorem dX7_byRule_7 : decode cX7_byRule 7 = .ok (.if_icmp .ge 48, 3) := by decide +kernel
theorem dX7_byRule_10 : decode cX7_byRule 10 = .ok (.aload_n 0, 1) := by decide +kernel
theorem dX7_byRule_11 : decode cX7_byRule 11 = .ok (.getfield 106, 3) := by decide +kernel
theorem dX7_byRule_14 : decode cX7_byRule 14 = .ok (.aload_n 0, 1) := by decide +kernel
theorem dX7_byRule_15 : decode cX7_byRule 15 = .ok (.getfield 26, 3) := by decide +kernel
theorem dX7_byRule_18 : decode cX7_byRule 18 = .ok (.iload_n 2, 1) := by decide +kernel
theorem dX7_byRule_19 : decode cX7_byRule 19 = .ok (.iaload, 1) := by decide +kernel
theorem dX7_byRule_20 : decode cX7_byRule 20 = .ok (.if_icmp .gt 29, 3) := by decide +kernel
theorem dX7_byRule_23 : decode cX7_byRule 23 = .ok (.aload_n 0, 1) := by decide +kernel
theorem dX7_byRule_24 : decode cX7_byRule 24 = .ok (.getfield 17, 3) := by decide +kernel
theorem dX7_byRule_27 : decode cX7_byRule 27 = .ok (.iload_n 1, 1) := by decide +kernel
theorem dX7_byRule_28 : decode cX7_byRule 28 = .ok (.iaload, 1) := by decide +kernel
theorem dX7_byRule_29 : decode cX7_byRule 29 = .ok (.aload_n 0, 1) := by decide +kernel
theorem dX7_byRule_30 : decode cX7_byRule 30 = .ok (.getfield 20, 3) := by decide +kernel
theorem dX7_byRule_33 : decode cX7_byRule 33 = .ok (.iload_n 2, 1) := by decide +kernel
theorem dX7_byRule_34 : decode cX7_byRule 34 = .ok (.iaload, 1) := by decide +kernel
theorem dX7_byRule_35 : decode cX7_byRule 35 = .ok (.aload_n 0, 1) := by decide +kernel
theorem dX7_byRule_36 : decode cX7_byRule 36 = .ok (.getfield 23, 3) := by decide +kernel
theorem dX7_byRule_39 : decode cX7_byRule 39 = .ok (.iload_n 2, 1) := by decide +kernel
theorem dX7_byRule_40 : decode cX7_byRule 40 = .ok (.iaload, 1) := by decide +kernel
theorem dX7_byRule_41 : decode cX7_byRule 41 = .ok (.invokestatic 85, 3) := by decide +kernel
theorem dX7_byRule_44 : decode cX7_byRule 44 = .ok (.ifCond .eq 5, 3) := by decide +kernel
theorem dX7_byRule_47 : decode cX7_byRule 47 = .ok (.iconst 1, 1) := by decide +kernel
theorem dX7_byRule_48 : decode cX7_byRule 48 = .ok (.ireturn, 1) := by decide +kernel
theorem dX7_byRule_49 : decode cX7_byRule 49 = .ok (.iinc 2 1, 3) := by decide +kernel
theorem dX7_byRule_52 : decode cX7_byRule 52 = .ok (.goto (-50), 3) := by decide +kernel
theorem dX7_byRule_55 : decode cX7_byRule 55 = .ok (.iconst 0, 1) := by decide +kernel
theorem dX7_byRule_56 : decode cX7_byRule 56 = .ok (.ireturn, 1) := by decide +kernel
theorem dX7_bySpan_0 : decode cX7_bySpan 0 = .ok (.iconst 0, 1) := by decide +kernel
theorem dX7_bySpan_1 : decode cX7_bySpan 1 = .ok (.istore_n 2, 1) := by decide +kernel
theorem dX7_bySpan_2 : decode cX7_bySpan 2 = .ok (.iload_n 2, 1) := by decide +kernel
theorem dX7_bySpan_3 : decode cX7_bySpan 3 = .ok (.aload_n 0, 1) := by decide +kernel
theorem dX7_bySpan_4 : decode cX7_bySpan 4 = .ok (.getfield 112, 3) := by decide +kernel
theorem dX7_bySpan_7 : decode cX7_bySpan 7 = .ok (.if_icmp .ge 71, 3) := by decide +kernel
theorem dX7_bySpan_10 : decode cX7_bySpan 10 = .ok (.aload_n 0, 1) := by decide +kernel
theorem dX7_bySpan_11 : decode cX7_bySpan 11 = .ok (.getfield 106, 3) := by decide +kernel
theorem dX7_bySpan_14 : decode cX7_bySpan 14 = .ok (.aload_n 0, 1) := by decide +kernel
theorem dX7_bySpan_15 : decode cX7_bySpan 15 = .ok (.getfield 38, 3) := by decide +kernel
theorem dX7_bySpan_18 : decode cX7_bySpan 18 = .ok (.iload_n 2, 1) := by decide +kernel
theorem dX7_bySpan_19 : decode cX7_bySpan 19 = .ok (.iaload, 1) := by decide +kernel
theorem dX7_bySpan_20 : decode cX7_bySpan 20 = .ok (.if_icmp .gt 52, 3) := by decide +kernel
theorem dX7_bySpan_23 : decode cX7_bySpan 23 = .ok (.aload_n 0, 1) := by decide +kernel
theorem dX7_bySpan_24 : decode cX7_bySpan 24 = .ok (.getfield 65, 3) := by decide +kernel
theorem dX7_bySpan_27 : decode cX7_bySpan 27 = .ok (.iload_n 2, 1) := by decide +kernel
theorem dX7_bySpan_28 : decode cX7_bySpan 28 = .ok (.baload, 1) := by decide +kernel
theorem dX7_bySpan_29 : decode cX7_bySpan 29 = .ok (.ifCond .ne 43, 3) := by decide +kernel
theorem dX7_bySpan_32 : decode cX7_bySpan 32 = .ok (.aload_n 0, 1) := by decide +kernel
theorem dX7_bySpan_33 : decode cX7_bySpan 33 = .ok (.getfield 29, 3) := by decide +kernel
theorem dX7_bySpan_36 : decode cX7_bySpan 36 = .ok (.iload_n 2, 1) := by decide +kernel
theorem dX7_bySpan_37 : decode cX7_bySpan 37 = .ok (.iaload, 1) := by decide +kernel
theorem dX7_bySpan_38 : decode cX7_bySpan 38 = .ok (.aload_n 0, 1) := by decide +kernel
theorem dX7_bySpan_39 : decode cX7_bySpan 39 = .ok (.getfield 13, 3) := by decide +kernel
theorem dX7_bySpan_42 : decode cX7_bySpan 42 = .ok (.iload_n 1, 1) := by decide +kernel
theorem dX7_bySpan_43 : decode cX7_bySpan 43 = .ok (.iaload, 1) := by decide +kernel
theorem dX7_bySpan_44 : decode cX7_bySpan 44 = .ok (.if_icmp .ne 28, 3) := by decide +kernel
theorem dX7_bySpan_47 : decode cX7_bySpan 47 = .ok (.aload_n 0, 1) := by decide +kernel
theorem dX7_bySpan_48 : decode cX7_bySpan 48 = .ok (.iload_n 1, 1) := by decide +kernel
theorem dX7_bySpan_49 : decode cX7_bySpan 49 = .ok (.invokevirtual 103, 3) := by decide +kernel
theorem dX7_bySpan_52 : decode cX7_bySpan 52 = .ok (.aload_n 0, 1) := by decide +kernel
theorem dX7_bySpan_53 : decode cX7_bySpan 53 = .ok (.getfield 32, 3) := by decide +kernel
theorem dX7_bySpan_56 : decode cX7_bySpan 56 = .ok (.iload_n 2, 1) := by decide +kernel
theorem dX7_bySpan_57 : decode cX7_bySpan 57 = .ok (.iaload, 1) := by decide +kernel
theorem dX7_bySpan_58 : decode cX7_bySpan 58 = .ok (.aload_n 0, 1) := by decide +kernel
theorem dX7_bySpan_59 : decode cX7_bySpan 59 = .ok (.getfield 35, 3) := by decide +kernel
theorem dX7_bySpan_62 : decode cX7_bySpan 62 = .ok (.iload_n 2, 1) := by decide +kernel
theorem dX7_bySpan_63 : decode cX7_bySpan 63 = .ok (.iaload, 1) := by decide +kernel
theorem dX7_bySpan_64 : decode cX7_bySpan 64 = .ok (.invokestatic 85, 3) := by decide +kernel
theorem dX7_bySpan_67 : decode cX7_bySpan 67 = .ok (.ifCond .eq 5, 3) := by decide +kernel
theorem dX7_bySpan_70 : decode cX7_bySpan 70 = .ok (.iconst 1, 1) := by decide +kernel
theorem dX7_bySpan_71 : decode cX7_bySpan 71 = .ok (.ireturn, 1) := by decide +kernel
theorem dX7_bySpan_72 : decode cX7_bySpan 72 = .ok (.iinc 2 1, 3) := by decide +kernel
theorem dX7_bySpan_75 : decode cX7_bySpan 75 = .ok (.goto (-73), 3) := by decide +kernel
theorem dX7_bySpan_78 : decode cX7_bySpan 78 = .ok (.iconst 0, 1) := by decide +kernel
theorem dX7_bySpan_79 : decode cX7_bySpan 79 = .ok (.ireturn, 1) := by decide +kernel
theorem dX7_hides_0 : decode cX7_hides 0 = .ok (.aload_n 0, 1) := by decide +kernel
theorem dX7_hides_1 : decode cX7_hides 1 = .ok (.iload_n 1, 1) := by decide +kernel
theorem dX7_hides_2 : decode cX7_hides 2 = .ok (.invokevirtual 115, 3) := by decide +kernel
theorem dX7_hides_5 : decode cX7_hides 5 = .ok (.ifCond .ne 11, 3) := by decide +kernel
theorem dX7_hides_8 : decode cX7_hides 8 = .ok (.aload_n 0, 1) := by decide +kernel
theorem dX7_hides_9 : decode cX7_hides 9 = .ok (.iload_n 1, 1) := by decide +kernel
theorem dX7_hides_10 : decode cX7_hides 10 = .ok (.invokevirtual 118, 3) := by decide +kernel
theorem dX7_hides_13 : decode cX7_hides 13 = .ok (.ifCond .eq 7, 3) := by decide +kernel
theorem dX7_hides_16 : decode cX7_hides 16 = .ok (.iconst 1, 1) := by decide +kernel
theorem dX7_hides_17 : decode cX7_hides 17 = .ok (.goto 4, 3) := by decide +kernel
theorem dX7_hides_20 : decode cX7_hides 20 = .ok (.iconst 0, 1) := by decide +kernel
theorem dX7_hides_21 : decode cX7_hides 21 = .ok (.ireturn, 1) := by decide +kernel
theorem dX7_hiddenLines_0 : decode cX7_hiddenLines 0 = .ok (.iconst 0, 1) := by decide +kernel
theorem dX7_hiddenLines_1 : decode cX7_hiddenLines 1 = .ok (.istore_n 1, 1) := by decide +kernel
theorem dX7_hiddenLines_2 : decode cX7_hiddenLines 2 = .ok (.iconst 0, 1) := by decide +kernel
theorem dX7_hiddenLines_3 : decode cX7_hiddenLines 3 = .ok (.istore_n 2, 1) := by decide +kernel
theorem dX7_hiddenLines_4 : decode cX7_hiddenLines 4 = .ok (.iload_n 2, 1) := by decide +kernel
theorem dX7_hiddenLines_5 : decode cX7_hiddenLines 5 = .ok (.aload_n 0, 1) := by decide +kernel
theorem dX7_hiddenLines_6 : decode cX7_hiddenLines 6 = .ok (.getfield 89, 3) := by decide +kernel
theorem dX7_hiddenLines_9 : decode cX7_hiddenLines 9 = .ok (.if_icmp .ge 25, 3) := by decide +kernel
theorem dX7_hiddenLines_12 : decode cX7_hiddenLines 12 = .ok (.iload_n 1, 1) := by decide +kernel
theorem dX7_hiddenLines_13 : decode cX7_hiddenLines 13 = .ok (.aload_n 0, 1) := by decide +kernel
theorem dX7_hiddenLines_14 : decode cX7_hiddenLines 14 = .ok (.iload_n 2, 1) := by decide +kernel
theorem dX7_hiddenLines_15 : decode cX7_hiddenLines 15 = .ok (.invokevirtual 121, 3) := by decide +kernel
theorem dX7_hiddenLines_18 : decode cX7_hiddenLines 18 = .ok (.ifCond .eq 7, 3) := by decide +kernel
theorem dX7_hiddenLines_21 : decode cX7_hiddenLines 21 = .ok (.iconst 1, 1) := by decide +kernel
theorem dX7_hiddenLines_22 : decode cX7_hiddenLines 22 = .ok (.goto 4, 3) := by decide +kernel
theorem dX7_hiddenLines_25 : decode cX7_hiddenLines 25 = .ok (.iconst 0, 1) := by decide +kernel
theorem dX7_hiddenLines_26 : decode cX7_hiddenLines 26 = .ok (.iadd, 1) := by decide +kernel
theorem dX7_hiddenLines_27 : decode cX7_hiddenLines 27 = .ok (.istore_n 1, 1) := by decide +kernel
theorem dX7_hiddenLines_28 : decode cX7_hiddenLines 28 = .ok (.iinc 2 1, 3) := by decide +kernel
theorem dX7_hiddenLines_31 : decode cX7_hiddenLines 31 = .ok (.goto (-27), 3) := by decide +kernel
theorem dX7_hiddenLines_34 : decode cX7_hiddenLines 34 = .ok (.iload_n 1, 1) := by decide +kernel
theorem dX7_hiddenLines_35 : decode cX7_hiddenLines 35 = .ok (.ireturn, 1) := by decide +kernel
theorem dX7_lift_0 : decode cX7_lift 0 = .ok (.iload_n 1, 1) := by decide +kernel
theorem dX7_lift_1 : decode cX7_lift 1 = .ok (.iconst 0, 1) := by decide +kernel
theorem dX7_lift_2 : decode cX7_lift 2 = .ok (.aload_n 0, 1) := by decide +kernel
theorem dX7_lift_3 : decode cX7_lift 3 = .ok (.getfield 112, 3) := by decide +kernel
theorem dX7_lift_6 : decode cX7_lift 6 = .ok (.iconst 1, 1) := by decide +kernel
theorem dX7_lift_7 : decode cX7_lift 7 = .ok (.isub, 1) := by decide +kernel
theorem dX7_lift_8 : decode cX7_lift 8 = .ok (.invokestatic 85, 3) := by decide +kernel
theorem dX7_lift_11 : decode cX7_lift 11 = .ok (.ifCond .ne 9, 3) := by decide +kernel
theorem dX7_lift_14 : decode cX7_lift 14 = .ok (.aload_n 0, 1) := by decide +kernel
theorem dX7_lift_15 : decode cX7_lift 15 = .ok (.iconst 1, 1) := by decide +kernel
theorem dX7_lift_16 : decode cX7_lift 16 = .ok (.invokevirtual 92, 3) := by decide +kernel
theorem dX7_lift_19 : decode cX7_lift 19 = .ok (.ireturn, 1) := by decide +kernel
theorem dX7_lift_20 : decode cX7_lift 20 = .ok (.aload_n 0, 1) := by decide +kernel
theorem dX7_lift_21 : decode cX7_lift 21 = .ok (.getfield 65, 3) := by decide +kernel
theorem dX7_lift_24 : decode cX7_lift 24 = .ok (.iload_n 1, 1) := by decide +kernel
theorem dX7_lift_25 : decode cX7_lift 25 = .ok (.baload, 1) := by decide +kernel
theorem dX7_lift_26 : decode cX7_lift 26 = .ok (.ifCond .ne 16, 3) := by decide +kernel
theorem dX7_lift_29 : decode cX7_lift 29 = .ok (.aload_n 0, 1) := by decide +kernel
theorem dX7_lift_30 : decode cX7_lift 30 = .ok (.getfield 106, 3) := by decide +kernel
theorem dX7_lift_33 : decode cX7_lift 33 = .ok (.aload_n 0, 1) := by decide +kernel
theorem dX7_lift_34 : decode cX7_lift 34 = .ok (.getfield 38, 3) := by decide +kernel
theorem dX7_lift_37 : decode cX7_lift 37 = .ok (.iload_n 1, 1) := by decide +kernel
theorem dX7_lift_38 : decode cX7_lift 38 = .ok (.iaload, 1) := by decide +kernel
theorem dX7_lift_39 : decode cX7_lift 39 = .ok (.if_icmp .le 9, 3) := by decide +kernel
theorem dX7_lift_42 : decode cX7_lift 42 = .ok (.aload_n 0, 1) := by decide +kernel
theorem dX7_lift_43 : decode cX7_lift 43 = .ok (.iconst 2, 1) := by decide +kernel
theorem dX7_lift_44 : decode cX7_lift 44 = .ok (.invokevirtual 92, 3) := by decide +kernel
theorem dX7_lift_47 : decode cX7_lift 47 = .ok (.ireturn, 1) := by decide +kernel
theorem dX7_lift_48 : decode cX7_lift 48 = .ok (.aload_n 0, 1) := by decide +kernel
theorem dX7_lift_49 : decode cX7_lift 49 = .ok (.iconst 0, 1) := by decide +kernel
theorem dX7_lift_50 : decode cX7_lift 50 = .ok (.putfield 79, 3) := by decide +kernel
theorem dX7_lift_53 : decode cX7_lift 53 = .ok (.aload_n 0, 1) := by decide +kernel
theorem dX7_lift_54 : decode cX7_lift 54 = .ok (.invokevirtual 124, 3) := by decide +kernel
theorem dX7_lift_57 : decode cX7_lift 57 = .ok (.istore_n 2, 1) := by decide +kernel
theorem dX7_lift_58 : decode cX7_lift 58 = .ok (.aload_n 0, 1) := by decide +kernel
theorem dX7_lift_59 : decode cX7_lift 59 = .ok (.getfield 65, 3) := by decide +kernel
theorem dX7_lift_62 : decode cX7_lift 62 = .ok (.iload_n 1, 1) := by decide +kernel
theorem dX7_lift_63 : decode cX7_lift 63 = .ok (.iconst 1, 1) := by decide +kernel
theorem dX7_lift_64 : decode cX7_lift 64 = .ok (.bastore, 1) := by decide +kernel
theorem dX7_lift_65 : decode cX7_lift 65 = .ok (.iload_n 2, 1) := by decide +kernel
theorem dX7_lift_66 : decode cX7_lift 66 = .ok (.aload_n 0, 1) := by decide +kernel
theorem dX7_lift_67 : decode cX7_lift 67 = .ok (.invokevirtual 124, 3) := by decide +kernel
theorem dX7_lift_70 : decode cX7_lift 70 = .ok (.isub, 1) := by decide +kernel
theorem dX7_lift_71 : decode cX7_lift 71 = .ok (.ireturn, 1) := by decide +kernel
theorem dX7_isHidden_0 : decode cX7_isHidden 0 = .ok (.aload_n 0, 1) := by decide +kernel
theorem dX7_isHidden_1 : decode cX7_isHidden 1 = .ok (.iload_n 1, 1) := by decide +kernel
theorem dX7_isHidden_2 : decode cX7_isHidden 2 = .ok (.invokevirtual 100, 3) := by decide +kernel
theorem dX7_isHidden_5 : decode cX7_isHidden 5 = .ok (.ifCond .ne 15, 3) := by decide +kernel
theorem dX7_isHidden_8 : decode cX7_isHidden 8 = .ok (.aload_n 0, 1) := by decide +kernel
theorem dX7_isHidden_9 : decode cX7_isHidden 9 = .ok (.iload_n 1, 1) := by decide +kernel
theorem dX7_isHidden_10 : decode cX7_isHidden 10 = .ok (.invokevirtual 121, 3) := by decide +kernel
theorem dX7_isHidden_13 : decode cX7_isHidden 13 = .ok (.ifCond .eq 7, 3) := by decide +kernel
theorem dX7_isHidden_16 : decode cX7_isHidden 16 = .ok (.iconst 1, 1) := by decide +kernel
theorem dX7_isHidden_17 : decode cX7_isHidden 17 = .ok (.goto 4, 3) := by decide +kernel
theorem dX7_isHidden_20 : decode cX7_isHidden 20 = .ok (.iconst 0, 1) := by decide +kernel
theorem dX7_isHidden_21 : decode cX7_isHidden 21 = .ok (.ireturn, 1) := by decide +kernel
theorem dX7_hidden_0 : decode cX7_hidden 0 = .ok (.aload_n 0, 1) := by decide +kernel
theorem dX7_hidden_1 : decode cX7_hidden 1 = .ok (.invokevirtual 124, 3) := by decide +kernel
theorem dX7_hidden_4 : decode cX7_hidden 4 = .ok (.ireturn, 1) := by decide +kernel
theorem dX7_grows_0 : decode cX7_grows 0 = .ok (.iconst 1, 1) := by decide +kernel
theorem dX7_grows_1 : decode cX7_grows 1 = .ok (.istore_n 2, 1) := by decide +kernel
theorem dX7_grows_2 : decode cX7_grows 2 = .ok (.iload_n 2, 1) := by decide +kernel
theorem dX7_grows_3 : decode cX7_grows 3 = .ok (.ifCond .eq 103, 3) := by decide +kernel
theorem dX7_grows_6 : decode cX7_grows 6 = .ok (.iconst 0, 1) := by decide +kernel
theorem dX7_grows_7 : decode cX7_grows 7 = .ok (.istore_n 2, 1) := by decide +kernel
theorem dX7_grows_8 : decode cX7_grows 8 = .ok (.iconst 0, 1) := by decide +kernel
theorem dX7_grows_9 : decode cX7_grows 9 = .ok (.istore_n 3, 1) := by decide +kernel
theorem dX7_grows_10 : decode cX7_grows 10 = .ok (.iload_n 3, 1) := by decide +kernel
theorem dX7_grows_11 : decode cX7_grows 11 = .ok (.aload_n 0, 1) := by decide +kernel
theorem dX7_grows_12 : decode cX7_grows 12 = .ok (.getfield 128, 3) := by decide +kernel
theorem dX7_grows_15 : decode cX7_grows 15 = .ok (.if_icmp .ge 88, 3) := by decide +kernel
theorem dX7_grows_18 : decode cX7_grows 18 = .ok (.aload_n 0, 1) := by decide +kernel
theorem dX7_grows_19 : decode cX7_grows 19 = .ok (.getfield 69, 3) := by decide +kernel
theorem dX7_grows_22 : decode cX7_grows 22 = .ok (.bipush 40, 2) := by decide +kernel
theorem dX7_grows_24 : decode cX7_grows 24 = .ok (.iload_n 1, 1) := by decide +kernel
theorem dX7_grows_25 : decode cX7_grows 25 = .ok (.imul, 1) := by decide +kernel
theorem dX7_grows_26 : decode cX7_grows 26 = .ok (.aload_n 0, 1) := by decide +kernel
theorem dX7_grows_27 : decode cX7_grows 27 = .ok (.getfield 41, 3) := by decide +kernel
theorem dX7_grows_30 : decode cX7_grows 30 = .ok (.iload_n 3, 1) := by decide +kernel
theorem dX7_grows_31 : decode cX7_grows 31 = .ok (.iaload, 1) := by decide +kernel
theorem dX7_grows_32 : decode cX7_grows 32 = .ok (.iadd, 1) := by decide +kernel
theorem dX7_grows_33 : decode cX7_grows 33 = .ok (.baload, 1) := by decide +kernel
theorem dX7_grows_34 : decode cX7_grows 34 = .ok (.ifCond .eq 63, 3) := by decide +kernel
theorem dX7_grows_37 : decode cX7_grows 37 = .ok (.aload_n 0, 1) := by decide +kernel
theorem dX7_grows_38 : decode cX7_grows 38 = .ok (.getfield 69, 3) := by decide +kernel
theorem dX7_grows_41 : decode cX7_grows 41 = .ok (.bipush 40, 2) := by decide +kernel
theorem dX7_grows_43 : decode cX7_grows 43 = .ok (.iload_n 1, 1) := by decide +kernel
theorem dX7_grows_44 : decode cX7_grows 44 = .ok (.imul, 1) := by decide +kernel
theorem dX7_grows_45 : decode cX7_grows 45 = .ok (.aload_n 0, 1) := by decide +kernel
theorem dX7_grows_46 : decode cX7_grows 46 = .ok (.getfield 44, 3) := by decide +kernel
theorem dX7_grows_49 : decode cX7_grows 49 = .ok (.iload_n 3, 1) := by decide +kernel
theorem dX7_grows_50 : decode cX7_grows 50 = .ok (.iaload, 1) := by decide +kernel
theorem dX7_grows_51 : decode cX7_grows 51 = .ok (.iadd, 1) := by decide +kernel
theorem dX7_grows_52 : decode cX7_grows 52 = .ok (.baload, 1) := by decide +kernel
theorem dX7_grows_53 : decode cX7_grows 53 = .ok (.ifCond .eq 44, 3) := by decide +kernel
theorem dX7_grows_56 : decode cX7_grows 56 = .ok (.aload_n 0, 1) := by decide +kernel
theorem dX7_grows_57 : decode cX7_grows 57 = .ok (.getfield 69, 3) := by decide +kernel
theorem dX7_grows_60 : decode cX7_grows 60 = .ok (.bipush 40, 2) := by decide +kernel
theorem dX7_grows_62 : decode cX7_grows 62 = .ok (.iload_n 1, 1) := by decide +kernel
theorem dX7_grows_63 : decode cX7_grows 63 = .ok (.imul, 1) := by decide +kernel
theorem dX7_grows_64 : decode cX7_grows 64 = .ok (.aload_n 0, 1) := by decide +kernel
theorem dX7_grows_65 : decode cX7_grows 65 = .ok (.getfield 47, 3) := by decide +kernel
theorem dX7_grows_68 : decode cX7_grows 68 = .ok (.iload_n 3, 1) := by decide +kernel
theorem dX7_grows_69 : decode cX7_grows 69 = .ok (.iaload, 1) := by decide +kernel
theorem dX7_grows_70 : decode cX7_grows 70 = .ok (.iadd, 1) := by decide +kernel
theorem dX7_grows_71 : decode cX7_grows 71 = .ok (.baload, 1) := by decide +kernel
theorem dX7_grows_72 : decode cX7_grows 72 = .ok (.ifCond .eq 6, 3) := by decide +kernel
theorem dX7_grows_75 : decode cX7_grows 75 = .ok (.goto 22, 3) := by decide +kernel
theorem dX7_grows_78 : decode cX7_grows 78 = .ok (.aload_n 0, 1) := by decide +kernel
theorem dX7_grows_79 : decode cX7_grows 79 = .ok (.getfield 69, 3) := by decide +kernel
theorem dX7_grows_82 : decode cX7_grows 82 = .ok (.bipush 40, 2) := by decide +kernel
theorem dX7_grows_84 : decode cX7_grows 84 = .ok (.iload_n 1, 1) := by decide +kernel
theorem dX7_grows_85 : decode cX7_grows 85 = .ok (.imul, 1) := by decide +kernel
theorem dX7_grows_86 : decode cX7_grows 86 = .ok (.aload_n 0, 1) := by decide +kernel
theorem dX7_grows_87 : decode cX7_grows 87 = .ok (.getfield 47, 3) := by decide +kernel
theorem dX7_grows_90 : decode cX7_grows 90 = .ok (.iload_n 3, 1) := by decide +kernel
theorem dX7_grows_91 : decode cX7_grows 91 = .ok (.iaload, 1) := by decide +kernel
theorem dX7_grows_92 : decode cX7_grows 92 = .ok (.iadd, 1) := by decide +kernel
theorem dX7_grows_93 : decode cX7_grows 93 = .ok (.iconst 1, 1) := by decide +kernel
theorem dX7_grows_94 : decode cX7_grows 94 = .ok (.bastore, 1) := by decide +kernel
theorem dX7_grows_95 : decode cX7_grows 95 = .ok (.iconst 1, 1) := by decide +kernel
theorem dX7_grows_96 : decode cX7_grows 96 = .ok (.istore_n 2, 1) := by decide +kernel
theorem dX7_grows_97 : decode cX7_grows 97 = .ok (.iinc 3 1, 3) := by decide +kernel
theorem dX7_grows_100 : decode cX7_grows 100 = .ok (.goto (-90), 3) := by decide +kernel
theorem dX7_grows_103 : decode cX7_grows 103 = .ok (.goto (-101), 3) := by decide +kernel
theorem dX7_grows_106 : decode cX7_grows 106 = .ok (.return_, 1) := by decide +kernel
theorem dX7_addJoin_0 : decode cX7_addJoin 0 = .ok (.aload_n 0, 1) := by decide +kernel
theorem dX7_addJoin_1 : decode cX7_addJoin 1 = .ok (.iload_n 1, 1) := by decide +kernel
theorem dX7_addJoin_2 : decode cX7_addJoin 2 = .ok (.invokevirtual 100, 3) := by decide +kernel
theorem dX7_addJoin_5 : decode cX7_addJoin 5 = .ok (.ifCond .ne 19, 3) := by decide +kernel
theorem dX7_addJoin_8 : decode cX7_addJoin 8 = .ok (.aload_n 0, 1) := by decide +kernel
theorem dX7_addJoin_9 : decode cX7_addJoin 9 = .ok (.iload_n 2, 1) := by decide +kernel
theorem dX7_addJoin_10 : decode cX7_addJoin 10 = .ok (.invokevirtual 100, 3) := by decide +kernel
theorem dX7_addJoin_13 : decode cX7_addJoin 13 = .ok (.ifCond .ne 11, 3) := by decide +kernel
theorem dX7_addJoin_16 : decode cX7_addJoin 16 = .ok (.aload_n 0, 1) := by decide +kernel
theorem dX7_addJoin_17 : decode cX7_addJoin 17 = .ok (.iload_n 3, 1) := by decide +kernel
theorem dX7_addJoin_18 : decode cX7_addJoin 18 = .ok (.invokevirtual 100, 3) := by decide +kernel
theorem dX7_addJoin_21 : decode cX7_addJoin 21 = .ok (.ifCond .eq 5, 3) := by decide +kernel
theorem dX7_addJoin_24 : decode cX7_addJoin 24 = .ok (.iconst 0, 1) := by decide +kernel
theorem dX7_addJoin_25 : decode cX7_addJoin 25 = .ok (.ireturn, 1) := by decide +kernel
theorem dX7_addJoin_26 : decode cX7_addJoin 26 = .ok (.iload_n 1, 1) := by decide +kernel
theorem dX7_addJoin_27 : decode cX7_addJoin 27 = .ok (.iload_n 2, 1) := by decide +kernel
theorem dX7_addJoin_28 : decode cX7_addJoin 28 = .ok (.if_icmp .eq 13, 3) := by decide +kernel
theorem dX7_addJoin_31 : decode cX7_addJoin 31 = .ok (.iload_n 1, 1) := by decide +kernel
theorem dX7_addJoin_32 : decode cX7_addJoin 32 = .ok (.iload_n 3, 1) := by decide +kernel
theorem dX7_addJoin_33 : decode cX7_addJoin 33 = .ok (.if_icmp .eq 8, 3) := by decide +kernel
theorem dX7_addJoin_36 : decode cX7_addJoin 36 = .ok (.iload_n 2, 1) := by decide +kernel
theorem dX7_addJoin_37 : decode cX7_addJoin 37 = .ok (.iload_n 3, 1) := by decide +kernel
theorem dX7_addJoin_38 : decode cX7_addJoin 38 = .ok (.if_icmp .ne 9, 3) := by decide +kernel
theorem dX7_addJoin_41 : decode cX7_addJoin 41 = .ok (.aload_n 0, 1) := by decide +kernel
theorem dX7_addJoin_42 : decode cX7_addJoin 42 = .ok (.iconst 2, 1) := by decide +kernel
theorem dX7_addJoin_43 : decode cX7_addJoin 43 = .ok (.invokevirtual 92, 3) := by decide +kernel
theorem dX7_addJoin_46 : decode cX7_addJoin 46 = .ok (.ireturn, 1) := by decide +kernel
theorem dX7_addJoin_47 : decode cX7_addJoin 47 = .ok (.aload_n 0, 1) := by decide +kernel
theorem dX7_addJoin_48 : decode cX7_addJoin 48 = .ok (.getfield 128, 3) := by decide +kernel
theorem dX7_addJoin_51 : decode cX7_addJoin 51 = .ok (.bipush 10, 2) := by decide +kernel
theorem dX7_addJoin_53 : decode cX7_addJoin 53 = .ok (.if_icmp .ne 9, 3) := by decide +kernel
theorem dX7_addJoin_56 : decode cX7_addJoin 56 = .ok (.aload_n 0, 1) := by decide +kernel
theorem dX7_addJoin_57 : decode cX7_addJoin 57 = .ok (.iconst 3, 1) := by decide +kernel
theorem dX7_addJoin_58 : decode cX7_addJoin 58 = .ok (.invokevirtual 92, 3) := by decide +kernel
theorem dX7_addJoin_61 : decode cX7_addJoin 61 = .ok (.ireturn, 1) := by decide +kernel
theorem dX7_addJoin_62 : decode cX7_addJoin 62 = .ok (.aload_n 0, 1) := by decide +kernel
theorem dX7_addJoin_63 : decode cX7_addJoin 63 = .ok (.getfield 41, 3) := by decide +kernel
theorem dX7_addJoin_66 : decode cX7_addJoin 66 = .ok (.aload_n 0, 1) := by decide +kernel
theorem dX7_addJoin_67 : decode cX7_addJoin 67 = .ok (.getfield 128, 3) := by decide +kernel
theorem dX7_addJoin_70 : decode cX7_addJoin 70 = .ok (.iload_n 1, 1) := by decide +kernel
theorem dX7_addJoin_71 : decode cX7_addJoin 71 = .ok (.iastore, 1) := by decide +kernel
theorem dX7_addJoin_72 : decode cX7_addJoin 72 = .ok (.aload_n 0, 1) := by decide +kernel
theorem dX7_addJoin_73 : decode cX7_addJoin 73 = .ok (.getfield 44, 3) := by decide +kernel
theorem dX7_addJoin_76 : decode cX7_addJoin 76 = .ok (.aload_n 0, 1) := by decide +kernel
theorem dX7_addJoin_77 : decode cX7_addJoin 77 = .ok (.getfield 128, 3) := by decide +kernel
theorem dX7_addJoin_80 : decode cX7_addJoin 80 = .ok (.iload_n 2, 1) := by decide +kernel
theorem dX7_addJoin_81 : decode cX7_addJoin 81 = .ok (.iastore, 1) := by decide +kernel
theorem dX7_addJoin_82 : decode cX7_addJoin 82 = .ok (.aload_n 0, 1) := by decide +kernel
theorem dX7_addJoin_83 : decode cX7_addJoin 83 = .ok (.getfield 47, 3) := by decide +kernel
theorem dX7_addJoin_86 : decode cX7_addJoin 86 = .ok (.aload_n 0, 1) := by decide +kernel
theorem dX7_addJoin_87 : decode cX7_addJoin 87 = .ok (.getfield 128, 3) := by decide +kernel
theorem dX7_addJoin_90 : decode cX7_addJoin 90 = .ok (.iload_n 3, 1) := by decide +kernel
theorem dX7_addJoin_91 : decode cX7_addJoin 91 = .ok (.iastore, 1) := by decide +kernel
theorem dX7_addJoin_92 : decode cX7_addJoin 92 = .ok (.aload_n 0, 1) := by decide +kernel
theorem dX7_addJoin_93 : decode cX7_addJoin 93 = .ok (.dup, 1) := by decide +kernel
theorem dX7_addJoin_94 : decode cX7_addJoin 94 = .ok (.getfield 128, 3) := by decide +kernel
theorem dX7_addJoin_97 : decode cX7_addJoin 97 = .ok (.iconst 1, 1) := by decide +kernel
theorem dX7_addJoin_98 : decode cX7_addJoin 98 = .ok (.iadd, 1) := by decide +kernel
theorem dX7_addJoin_99 : decode cX7_addJoin 99 = .ok (.putfield 128, 3) := by decide +kernel
theorem dX7_addJoin_102 : decode cX7_addJoin 102 = .ok (.iconst 0, 1) := by decide +kernel
theorem dX7_addJoin_103 : decode cX7_addJoin 103 = .ok (.istore 4, 2) := by decide +kernel
theorem dX7_addJoin_105 : decode cX7_addJoin 105 = .ok (.iload 4, 2) := by decide +kernel
theorem dX7_addJoin_107 : decode cX7_addJoin 107 = .ok (.iconst 5, 1) := by decide +kernel
theorem dX7_addJoin_108 : decode cX7_addJoin 108 = .ok (.if_icmp .ge 15, 3) := by decide +kernel
theorem dX7_addJoin_111 : decode cX7_addJoin 111 = .ok (.aload_n 0, 1) := by decide +kernel
theorem dX7_addJoin_112 : decode cX7_addJoin 112 = .ok (.iload 4, 2) := by decide +kernel
theorem dX7_addJoin_114 : decode cX7_addJoin 114 = .ok (.invokevirtual 131, 3) := by decide +kernel
theorem dX7_addJoin_117 : decode cX7_addJoin 117 = .ok (.iinc 4 1, 3) := by decide +kernel
theorem dX7_addJoin_120 : decode cX7_addJoin 120 = .ok (.goto (-15), 3) := by decide +kernel
theorem dX7_addJoin_123 : decode cX7_addJoin 123 = .ok (.aload_n 0, 1) := by decide +kernel
theorem dX7_addJoin_124 : decode cX7_addJoin 124 = .ok (.getfield 128, 3) := by decide +kernel
theorem dX7_addJoin_127 : decode cX7_addJoin 127 = .ok (.iconst 1, 1) := by decide +kernel
theorem dX7_addJoin_128 : decode cX7_addJoin 128 = .ok (.isub, 1) := by decide +kernel
theorem dX7_addJoin_129 : decode cX7_addJoin 129 = .ok (.ireturn, 1) := by decide +kernel
theorem dX7_holds_0 : decode cX7_holds 0 = .ok (.aload_n 0, 1) := by decide +kernel
theorem dX7_holds_1 : decode cX7_holds 1 = .ok (.iload_n 1, 1) := by decide +kernel
theorem dX7_holds_2 : decode cX7_holds 2 = .ok (.invokevirtual 135, 3) := by decide +kernel
theorem dX7_holds_5 : decode cX7_holds 5 = .ok (.ifCond .eq 5, 3) := by decide +kernel
theorem dX7_holds_8 : decode cX7_holds 8 = .ok (.iconst 0, 1) := by decide +kernel
theorem dX7_holds_9 : decode cX7_holds 9 = .ok (.ireturn, 1) := by decide +kernel
theorem dX7_holds_10 : decode cX7_holds 10 = .ok (.aload_n 0, 1) := by decide +kernel
theorem dX7_holds_11 : decode cX7_holds 11 = .ok (.iload_n 2, 1) := by decide +kernel
theorem dX7_holds_12 : decode cX7_holds 12 = .ok (.iconst 0, 1) := by decide +kernel
theorem dX7_holds_13 : decode cX7_holds 13 = .ok (.aload_n 0, 1) := by decide +kernel
theorem dX7_holds_14 : decode cX7_holds 14 = .ok (.getfield 89, 3) := by decide +kernel
theorem dX7_holds_17 : decode cX7_holds 17 = .ok (.iconst 1, 1) := by decide +kernel
theorem dX7_holds_18 : decode cX7_holds 18 = .ok (.isub, 1) := by decide +kernel
theorem dX7_holds_19 : decode cX7_holds 19 = .ok (.invokestatic 85, 3) := by decide +kernel
theorem dX7_holds_22 : decode cX7_holds 22 = .ok (.ifCond .eq 7, 3) := by decide +kernel
theorem dX7_holds_25 : decode cX7_holds 25 = .ok (.iconst 0, 1) := by decide +kernel
theorem dX7_holds_26 : decode cX7_holds 26 = .ok (.goto 4, 3) := by decide +kernel
theorem dX7_holds_29 : decode cX7_holds 29 = .ok (.iconst 2, 1) := by decide +kernel
theorem dX7_holds_30 : decode cX7_holds 30 = .ok (.putfield 79, 3) := by decide +kernel
theorem dX7_holds_33 : decode cX7_holds 33 = .ok (.aload_n 0, 1) := by decide +kernel
theorem dX7_holds_34 : decode cX7_holds 34 = .ok (.getfield 79, 3) := by decide +kernel
theorem dX7_holds_37 : decode cX7_holds 37 = .ok (.ifCond .ne 21, 3) := by decide +kernel
theorem dX7_holds_40 : decode cX7_holds 40 = .ok (.aload_n 0, 1) := by decide +kernel
theorem dX7_holds_41 : decode cX7_holds 41 = .ok (.getfield 69, 3) := by decide +kernel
theorem dX7_holds_44 : decode cX7_holds 44 = .ok (.bipush 40, 2) := by decide +kernel
theorem dX7_holds_46 : decode cX7_holds 46 = .ok (.iload_n 1, 1) := by decide +kernel
theorem dX7_holds_47 : decode cX7_holds 47 = .ok (.imul, 1) := by decide +kernel
theorem dX7_holds_48 : decode cX7_holds 48 = .ok (.iload_n 2, 1) := by decide +kernel
theorem dX7_holds_49 : decode cX7_holds 49 = .ok (.iadd, 1) := by decide +kernel
theorem dX7_holds_50 : decode cX7_holds 50 = .ok (.baload, 1) := by decide +kernel
theorem dX7_holds_51 : decode cX7_holds 51 = .ok (.ifCond .eq 7, 3) := by decide +kernel
theorem dX7_holds_54 : decode cX7_holds 54 = .ok (.iconst 1, 1) := by decide +kernel
theorem dX7_holds_55 : decode cX7_holds 55 = .ok (.goto 4, 3) := by decide +kernel
theorem dX7_holds_58 : decode cX7_holds 58 = .ok (.iconst 0, 1) := by decide +kernel
theorem dX7_holds_59 : decode cX7_holds 59 = .ok (.ireturn, 1) := by decide +kernel
theorem dX7_holdsByLog_0 : decode cX7_holdsByLog 0 = .ok (.aload_n 0, 1) := by decide +kernel
theorem dX7_holdsByLog_1 : decode cX7_holdsByLog 1 = .ok (.iload_n 1, 1) := by decide +kernel
theorem dX7_holdsByLog_2 : decode cX7_holdsByLog 2 = .ok (.iload_n 2, 1) := by decide +kernel
theorem dX7_holdsByLog_3 : decode cX7_holdsByLog 3 = .ok (.invokevirtual 138, 3) := by decide +kernel
theorem dX7_holdsByLog_6 : decode cX7_holdsByLog 6 = .ok (.ireturn, 1) := by decide +kernel
theorem dX7_held_0 : decode cX7_held 0 = .ok (.aload_n 0, 1) := by decide +kernel
theorem dX7_held_1 : decode cX7_held 1 = .ok (.iload_n 1, 1) := by decide +kernel
theorem dX7_held_2 : decode cX7_held 2 = .ok (.invokevirtual 135, 3) := by decide +kernel
theorem dX7_held_5 : decode cX7_held 5 = .ok (.ifCond .eq 5, 3) := by decide +kernel
theorem dX7_held_8 : decode cX7_held 8 = .ok (.iconst 0, 1) := by decide +kernel
theorem dX7_held_9 : decode cX7_held 9 = .ok (.ireturn, 1) := by decide +kernel
theorem dX7_held_10 : decode cX7_held 10 = .ok (.iconst 0, 1) := by decide +kernel
theorem dX7_held_11 : decode cX7_held 11 = .ok (.istore_n 2, 1) := by decide +kernel
theorem dX7_held_12 : decode cX7_held 12 = .ok (.iconst 0, 1) := by decide +kernel
theorem dX7_held_13 : decode cX7_held 13 = .ok (.istore_n 3, 1) := by decide +kernel
theorem dX7_held_14 : decode cX7_held 14 = .ok (.iload_n 3, 1) := by decide +kernel
theorem dX7_held_15 : decode cX7_held 15 = .ok (.aload_n 0, 1) := by decide +kernel
theorem dX7_held_16 : decode cX7_held 16 = .ok (.getfield 89, 3) := by decide +kernel
theorem dX7_held_19 : decode cX7_held 19 = .ok (.if_icmp .ge 31, 3) := by decide +kernel
theorem dX7_held_22 : decode cX7_held 22 = .ok (.iload_n 2, 1) := by decide +kernel
theorem dX7_held_23 : decode cX7_held 23 = .ok (.aload_n 0, 1) := by decide +kernel
theorem dX7_held_24 : decode cX7_held 24 = .ok (.getfield 69, 3) := by decide +kernel
theorem dX7_held_27 : decode cX7_held 27 = .ok (.bipush 40, 2) := by decide +kernel
theorem dX7_held_29 : decode cX7_held 29 = .ok (.iload_n 1, 1) := by decide +kernel
theorem dX7_held_30 : decode cX7_held 30 = .ok (.imul, 1) := by decide +kernel
theorem dX7_held_31 : decode cX7_held 31 = .ok (.iload_n 3, 1) := by decide +kernel
theorem dX7_held_32 : decode cX7_held 32 = .ok (.iadd, 1) := by decide +kernel
theorem dX7_held_33 : decode cX7_held 33 = .ok (.baload, 1) := by decide +kernel
theorem dX7_held_34 : decode cX7_held 34 = .ok (.ifCond .eq 7, 3) := by decide +kernel
theorem dX7_held_37 : decode cX7_held 37 = .ok (.iconst 1, 1) := by decide +kernel
theorem dX7_held_38 : decode cX7_held 38 = .ok (.goto 4, 3) := by decide +kernel
theorem dX7_held_41 : decode cX7_held 41 = .ok (.iconst 0, 1) := by decide +kernel
theorem dX7_held_42 : decode cX7_held 42 = .ok (.iadd, 1) := by decide +kernel
theorem dX7_held_43 : decode cX7_held 43 = .ok (.istore_n 2, 1) := by decide +kernel
theorem dX7_held_44 : decode cX7_held 44 = .ok (.iinc 3 1, 3) := by decide +kernel
theorem dX7_held_47 : decode cX7_held 47 = .ok (.goto (-33), 3) := by decide +kernel
theorem dX7_held_50 : decode cX7_held 50 = .ok (.iload_n 2, 1) := by decide +kernel
theorem dX7_held_51 : decode cX7_held 51 = .ok (.ireturn, 1) := by decide +kernel
theorem dX7_given_0 : decode cX7_given 0 = .ok (.aload_n 0, 1) := by decide +kernel
theorem dX7_given_1 : decode cX7_given 1 = .ok (.iload_n 1, 1) := by decide +kernel
theorem dX7_given_2 : decode cX7_given 2 = .ok (.invokevirtual 135, 3) := by decide +kernel
theorem dX7_given_5 : decode cX7_given 5 = .ok (.ifCond .eq 7, 3) := by decide +kernel
theorem dX7_given_8 : decode cX7_given 8 = .ok (.iconst 0, 1) := by decide +kernel
theorem dX7_given_9 : decode cX7_given 9 = .ok (.goto 9, 3) := by decide +kernel
theorem dX7_given_12 : decode cX7_given 12 = .ok (.aload_n 0, 1) := by decide +kernel
theorem dX7_given_13 : decode cX7_given 13 = .ok (.getfield 62, 3) := by decide +kernel
theorem dX7_given_16 : decode cX7_given 16 = .ok (.iload_n 1, 1) := by decide +kernel
theorem dX7_given_17 : decode cX7_given 17 = .ok (.iaload, 1) := by decide +kernel
theorem dX7_given_18 : decode cX7_given 18 = .ok (.ireturn, 1) := by decide +kernel
theorem dX7_holders_0 : decode cX7_holders 0 = .ok (.aload_n 0, 1) := by decide +kernel
theorem dX7_holders_1 : decode cX7_holders 1 = .ok (.iload_n 1, 1) := by decide +kernel
theorem dX7_holders_2 : decode cX7_holders 2 = .ok (.invokevirtual 100, 3) := by decide +kernel
theorem dX7_holders_5 : decode cX7_holders 5 = .ok (.ifCond .eq 5, 3) := by decide +kernel
theorem dX7_holders_8 : decode cX7_holders 8 = .ok (.iconst 0, 1) := by decide +kernel
theorem dX7_holders_9 : decode cX7_holders 9 = .ok (.ireturn, 1) := by decide +kernel
theorem dX7_holders_10 : decode cX7_holders 10 = .ok (.iconst 0, 1) := by decide +kernel
theorem dX7_holders_11 : decode cX7_holders 11 = .ok (.istore_n 2, 1) := by decide +kernel
theorem dX7_holders_12 : decode cX7_holders 12 = .ok (.iconst 0, 1) := by decide +kernel
theorem dX7_holders_13 : decode cX7_holders 13 = .ok (.istore_n 3, 1) := by decide +kernel
theorem dX7_holders_14 : decode cX7_holders 14 = .ok (.iload_n 3, 1) := by decide +kernel
theorem dX7_holders_15 : decode cX7_holders 15 = .ok (.iconst 5, 1) := by decide +kernel
theorem dX7_holders_16 : decode cX7_holders 16 = .ok (.if_icmp .ge 31, 3) := by decide +kernel
theorem dX7_holders_19 : decode cX7_holders 19 = .ok (.iload_n 2, 1) := by decide +kernel
theorem dX7_holders_20 : decode cX7_holders 20 = .ok (.aload_n 0, 1) := by decide +kernel
theorem dX7_holders_21 : decode cX7_holders 21 = .ok (.getfield 69, 3) := by decide +kernel
theorem dX7_holders_24 : decode cX7_holders 24 = .ok (.bipush 40, 2) := by decide +kernel
theorem dX7_holders_26 : decode cX7_holders 26 = .ok (.iload_n 3, 1) := by decide +kernel
theorem dX7_holders_27 : decode cX7_holders 27 = .ok (.imul, 1) := by decide +kernel
theorem dX7_holders_28 : decode cX7_holders 28 = .ok (.iload_n 1, 1) := by decide +kernel
theorem dX7_holders_29 : decode cX7_holders 29 = .ok (.iadd, 1) := by decide +kernel
theorem dX7_holders_30 : decode cX7_holders 30 = .ok (.baload, 1) := by decide +kernel
theorem dX7_holders_31 : decode cX7_holders 31 = .ok (.ifCond .eq 7, 3) := by decide +kernel
theorem dX7_holders_34 : decode cX7_holders 34 = .ok (.iconst 1, 1) := by decide +kernel
theorem dX7_holders_35 : decode cX7_holders 35 = .ok (.goto 4, 3) := by decide +kernel
theorem dX7_holders_38 : decode cX7_holders 38 = .ok (.iconst 0, 1) := by decide +kernel
theorem dX7_holders_39 : decode cX7_holders 39 = .ok (.iadd, 1) := by decide +kernel
theorem dX7_holders_40 : decode cX7_holders 40 = .ok (.istore_n 2, 1) := by decide +kernel
theorem dX7_holders_41 : decode cX7_holders 41 = .ok (.iinc 3 1, 3) := by decide +kernel
theorem dX7_holders_44 : decode cX7_holders 44 = .ok (.goto (-30), 3) := by decide +kernel
theorem dX7_holders_47 : decode cX7_holders 47 = .ok (.iload_n 2, 1) := by decide +kernel
theorem dX7_holders_48 : decode cX7_holders 48 = .ok (.ireturn, 1) := by decide +kernel
theorem dX7_betrayed_0 : decode cX7_betrayed 0 = .ok (.iconst 0, 1) := by decide +kernel
theorem dX7_betrayed_1 : decode cX7_betrayed 1 = .ok (.istore_n 3, 1) := by decide +kernel
theorem dX7_betrayed_2 : decode cX7_betrayed 2 = .ok (.iload_n 3, 1) := by decide +kernel
theorem dX7_betrayed_3 : decode cX7_betrayed 3 = .ok (.aload_n 0, 1) := by decide +kernel
theorem dX7_betrayed_4 : decode cX7_betrayed 4 = .ok (.getfield 89, 3) := by decide +kernel
theorem dX7_betrayed_7 : decode cX7_betrayed 7 = .ok (.if_icmp .ge 39, 3) := by decide +kernel
theorem dX7_betrayed_10 : decode cX7_betrayed 10 = .ok (.aload_n 0, 1) := by decide +kernel
theorem dX7_betrayed_11 : decode cX7_betrayed 11 = .ok (.getfield 72, 3) := by decide +kernel
theorem dX7_betrayed_14 : decode cX7_betrayed 14 = .ok (.iload_n 3, 1) := by decide +kernel
theorem dX7_betrayed_15 : decode cX7_betrayed 15 = .ok (.iload_n 3, 1) := by decide +kernel
theorem dX7_betrayed_16 : decode cX7_betrayed 16 = .ok (.iload_n 2, 1) := by decide +kernel
theorem dX7_betrayed_17 : decode cX7_betrayed 17 = .ok (.if_icmp .eq 17, 3) := by decide +kernel
theorem dX7_betrayed_20 : decode cX7_betrayed 20 = .ok (.aload_n 0, 1) := by decide +kernel
theorem dX7_betrayed_21 : decode cX7_betrayed 21 = .ok (.getfield 69, 3) := by decide +kernel
theorem dX7_betrayed_24 : decode cX7_betrayed 24 = .ok (.bipush 40, 2) := by decide +kernel
theorem dX7_betrayed_26 : decode cX7_betrayed 26 = .ok (.iload_n 1, 1) := by decide +kernel
theorem dX7_betrayed_27 : decode cX7_betrayed 27 = .ok (.imul, 1) := by decide +kernel
theorem dX7_betrayed_28 : decode cX7_betrayed 28 = .ok (.iload_n 3, 1) := by decide +kernel
theorem dX7_betrayed_29 : decode cX7_betrayed 29 = .ok (.iadd, 1) := by decide +kernel
theorem dX7_betrayed_30 : decode cX7_betrayed 30 = .ok (.baload, 1) := by decide +kernel
theorem dX7_betrayed_31 : decode cX7_betrayed 31 = .ok (.ifCond .eq 7, 3) := by decide +kernel
theorem dX7_betrayed_34 : decode cX7_betrayed 34 = .ok (.iconst 1, 1) := by decide +kernel
theorem dX7_betrayed_35 : decode cX7_betrayed 35 = .ok (.goto 4, 3) := by decide +kernel
theorem dX7_betrayed_38 : decode cX7_betrayed 38 = .ok (.iconst 0, 1) := by decide +kernel
theorem dX7_betrayed_39 : decode cX7_betrayed 39 = .ok (.bastore, 1) := by decide +kernel
theorem dX7_betrayed_40 : decode cX7_betrayed 40 = .ok (.iinc 3 1, 3) := by decide +kernel
theorem dX7_betrayed_43 : decode cX7_betrayed 43 = .ok (.goto (-41), 3) := by decide +kernel
theorem dX7_betrayed_46 : decode cX7_betrayed 46 = .ok (.iconst 1, 1) := by decide +kernel
theorem dX7_betrayed_47 : decode cX7_betrayed 47 = .ok (.istore_n 3, 1) := by decide +kernel
theorem dX7_betrayed_48 : decode cX7_betrayed 48 = .ok (.iload_n 3, 1) := by decide +kernel
theorem dX7_betrayed_49 : decode cX7_betrayed 49 = .ok (.ifCond .eq 89, 3) := by decide +kernel
theorem dX7_betrayed_52 : decode cX7_betrayed 52 = .ok (.iconst 0, 1) := by decide +kernel
theorem dX7_betrayed_53 : decode cX7_betrayed 53 = .ok (.istore_n 3, 1) := by decide +kernel
theorem dX7_betrayed_54 : decode cX7_betrayed 54 = .ok (.iconst 0, 1) := by decide +kernel
theorem dX7_betrayed_55 : decode cX7_betrayed 55 = .ok (.istore 4, 2) := by decide +kernel
theorem dX7_betrayed_57 : decode cX7_betrayed 57 = .ok (.iload 4, 2) := by decide +kernel
theorem dX7_betrayed_59 : decode cX7_betrayed 59 = .ok (.aload_n 0, 1) := by decide +kernel
theorem dX7_betrayed_60 : decode cX7_betrayed 60 = .ok (.getfield 128, 3) := by decide +kernel
theorem dX7_betrayed_63 : decode cX7_betrayed 63 = .ok (.if_icmp .ge 72, 3) := by decide +kernel
theorem dX7_betrayed_66 : decode cX7_betrayed 66 = .ok (.aload_n 0, 1) := by decide +kernel
theorem dX7_betrayed_67 : decode cX7_betrayed 67 = .ok (.getfield 72, 3) := by decide +kernel
theorem dX7_betrayed_70 : decode cX7_betrayed 70 = .ok (.aload_n 0, 1) := by decide +kernel
theorem dX7_betrayed_71 : decode cX7_betrayed 71 = .ok (.getfield 41, 3) := by decide +kernel
theorem dX7_betrayed_74 : decode cX7_betrayed 74 = .ok (.iload 4, 2) := by decide +kernel
theorem dX7_betrayed_76 : decode cX7_betrayed 76 = .ok (.iaload, 1) := by decide +kernel
theorem dX7_betrayed_77 : decode cX7_betrayed 77 = .ok (.baload, 1) := by decide +kernel
theorem dX7_betrayed_78 : decode cX7_betrayed 78 = .ok (.ifCond .eq 51, 3) := by decide +kernel
theorem dX7_betrayed_81 : decode cX7_betrayed 81 = .ok (.aload_n 0, 1) := by decide +kernel
theorem dX7_betrayed_82 : decode cX7_betrayed 82 = .ok (.getfield 72, 3) := by decide +kernel
theorem dX7_betrayed_85 : decode cX7_betrayed 85 = .ok (.aload_n 0, 1) := by decide +kernel
theorem dX7_betrayed_86 : decode cX7_betrayed 86 = .ok (.getfield 44, 3) := by decide +kernel
theorem dX7_betrayed_89 : decode cX7_betrayed 89 = .ok (.iload 4, 2) := by decide +kernel
theorem dX7_betrayed_91 : decode cX7_betrayed 91 = .ok (.iaload, 1) := by decide +kernel
theorem dX7_betrayed_92 : decode cX7_betrayed 92 = .ok (.baload, 1) := by decide +kernel
theorem dX7_betrayed_93 : decode cX7_betrayed 93 = .ok (.ifCond .eq 36, 3) := by decide +kernel
theorem dX7_betrayed_96 : decode cX7_betrayed 96 = .ok (.aload_n 0, 1) := by decide +kernel
theorem dX7_betrayed_97 : decode cX7_betrayed 97 = .ok (.getfield 72, 3) := by decide +kernel
theorem dX7_betrayed_100 : decode cX7_betrayed 100 = .ok (.aload_n 0, 1) := by decide +kernel
theorem dX7_betrayed_101 : decode cX7_betrayed 101 = .ok (.getfield 47, 3) := by decide +kernel
theorem dX7_betrayed_104 : decode cX7_betrayed 104 = .ok (.iload 4, 2) := by decide +kernel
theorem dX7_betrayed_106 : decode cX7_betrayed 106 = .ok (.iaload, 1) := by decide +kernel
theorem dX7_betrayed_107 : decode cX7_betrayed 107 = .ok (.baload, 1) := by decide +kernel
theorem dX7_betrayed_108 : decode cX7_betrayed 108 = .ok (.ifCond .eq 6, 3) := by decide +kernel
theorem dX7_betrayed_111 : decode cX7_betrayed 111 = .ok (.goto 18, 3) := by decide +kernel
theorem dX7_betrayed_114 : decode cX7_betrayed 114 = .ok (.aload_n 0, 1) := by decide +kernel
theorem dX7_betrayed_115 : decode cX7_betrayed 115 = .ok (.getfield 72, 3) := by decide +kernel
theorem dX7_betrayed_118 : decode cX7_betrayed 118 = .ok (.aload_n 0, 1) := by decide +kernel
theorem dX7_betrayed_119 : decode cX7_betrayed 119 = .ok (.getfield 47, 3) := by decide +kernel
theorem dX7_betrayed_122 : decode cX7_betrayed 122 = .ok (.iload 4, 2) := by decide +kernel
theorem dX7_betrayed_124 : decode cX7_betrayed 124 = .ok (.iaload, 1) := by decide +kernel
theorem dX7_betrayed_125 : decode cX7_betrayed 125 = .ok (.iconst 1, 1) := by decide +kernel
theorem dX7_betrayed_126 : decode cX7_betrayed 126 = .ok (.bastore, 1) := by decide +kernel
theorem dX7_betrayed_127 : decode cX7_betrayed 127 = .ok (.iconst 1, 1) := by decide +kernel
theorem dX7_betrayed_128 : decode cX7_betrayed 128 = .ok (.istore_n 3, 1) := by decide +kernel
theorem dX7_betrayed_129 : decode cX7_betrayed 129 = .ok (.iinc 4 1, 3) := by decide +kernel
theorem dX7_betrayed_132 : decode cX7_betrayed 132 = .ok (.goto (-75), 3) := by decide +kernel
theorem dX7_betrayed_135 : decode cX7_betrayed 135 = .ok (.goto (-87), 3) := by decide +kernel
theorem dX7_betrayed_138 : decode cX7_betrayed 138 = .ok (.iconst 0, 1) := by decide +kernel
theorem dX7_betrayed_139 : decode cX7_betrayed 139 = .ok (.istore 4, 2) := by decide +kernel
theorem dX7_betrayed_141 : decode cX7_betrayed 141 = .ok (.iload 4, 2) := by decide +kernel
theorem dX7_betrayed_143 : decode cX7_betrayed 143 = .ok (.aload_n 0, 1) := by decide +kernel
theorem dX7_betrayed_144 : decode cX7_betrayed 144 = .ok (.getfield 89, 3) := by decide +kernel
theorem dX7_betrayed_147 : decode cX7_betrayed 147 = .ok (.if_icmp .ge 46, 3) := by decide +kernel
theorem dX7_betrayed_150 : decode cX7_betrayed 150 = .ok (.aload_n 0, 1) := by decide +kernel
theorem dX7_betrayed_151 : decode cX7_betrayed 151 = .ok (.getfield 72, 3) := by decide +kernel
theorem dX7_betrayed_154 : decode cX7_betrayed 154 = .ok (.iload 4, 2) := by decide +kernel
theorem dX7_betrayed_156 : decode cX7_betrayed 156 = .ok (.baload, 1) := by decide +kernel
theorem dX7_betrayed_157 : decode cX7_betrayed 157 = .ok (.ifCond .eq 30, 3) := by decide +kernel
theorem dX7_betrayed_160 : decode cX7_betrayed 160 = .ok (.aload_n 0, 1) := by decide +kernel
theorem dX7_betrayed_161 : decode cX7_betrayed 161 = .ok (.getfield 69, 3) := by decide +kernel
theorem dX7_betrayed_164 : decode cX7_betrayed 164 = .ok (.bipush 40, 2) := by decide +kernel
theorem dX7_betrayed_166 : decode cX7_betrayed 166 = .ok (.iload_n 1, 1) := by decide +kernel
theorem dX7_betrayed_167 : decode cX7_betrayed 167 = .ok (.imul, 1) := by decide +kernel
theorem dX7_betrayed_168 : decode cX7_betrayed 168 = .ok (.iload 4, 2) := by decide +kernel
theorem dX7_betrayed_170 : decode cX7_betrayed 170 = .ok (.iadd, 1) := by decide +kernel
theorem dX7_betrayed_171 : decode cX7_betrayed 171 = .ok (.baload, 1) := by decide +kernel
theorem dX7_betrayed_172 : decode cX7_betrayed 172 = .ok (.ifCond .ne 15, 3) := by decide +kernel
theorem dX7_betrayed_175 : decode cX7_betrayed 175 = .ok (.aload_n 0, 1) := by decide +kernel
theorem dX7_betrayed_176 : decode cX7_betrayed 176 = .ok (.iload 4, 2) := by decide +kernel
theorem dX7_betrayed_178 : decode cX7_betrayed 178 = .ok (.invokevirtual 121, 3) := by decide +kernel
theorem dX7_betrayed_181 : decode cX7_betrayed 181 = .ok (.ifCond .eq 6, 3) := by decide +kernel
theorem dX7_betrayed_184 : decode cX7_betrayed 184 = .ok (.iload 4, 2) := by decide +kernel
theorem dX7_betrayed_186 : decode cX7_betrayed 186 = .ok (.ireturn, 1) := by decide +kernel
theorem dX7_betrayed_187 : decode cX7_betrayed 187 = .ok (.iinc 4 1, 3) := by decide +kernel
theorem dX7_betrayed_190 : decode cX7_betrayed 190 = .ok (.goto (-49), 3) := by decide +kernel
theorem dX7_betrayed_193 : decode cX7_betrayed 193 = .ok (.iconst (-1), 1) := by decide +kernel
theorem dX7_betrayed_194 : decode cX7_betrayed 194 = .ok (.ireturn, 1) := by decide +kernel
theorem dX7_first_0 : decode cX7_first 0 = .ok (.aload_n 0, 1) := by decide +kernel
theorem dX7_first_1 : decode cX7_first 1 = .ok (.iload_n 2, 1) := by decide +kernel
theorem dX7_first_2 : decode cX7_first 2 = .ok (.invokevirtual 115, 3) := by decide +kernel
theorem dX7_first_5 : decode cX7_first 5 = .ok (.ifCond .eq 6, 3) := by decide +kernel
theorem dX7_first_8 : decode cX7_first 8 = .ok (.bipush 114, 2) := by decide +kernel
theorem dX7_first_10 : decode cX7_first 10 = .ok (.ireturn, 1) := by decide +kernel
theorem dX7_first_11 : decode cX7_first 11 = .ok (.aload_n 0, 1) := by decide +kernel
theorem dX7_first_12 : decode cX7_first 12 = .ok (.iload_n 2, 1) := by decide +kernel
theorem dX7_first_13 : decode cX7_first 13 = .ok (.invokevirtual 118, 3) := by decide +kernel
theorem dX7_first_16 : decode cX7_first 16 = .ok (.ifCond .eq 6, 3) := by decide +kernel
theorem dX7_first_19 : decode cX7_first 19 = .ok (.bipush 115, 2) := by decide +kernel
theorem dX7_first_21 : decode cX7_first 21 = .ok (.ireturn, 1) := by decide +kernel
theorem dX7_first_22 : decode cX7_first 22 = .ok (.aload_n 0, 1) := by decide +kernel
theorem dX7_first_23 : decode cX7_first 23 = .ok (.iload_n 1, 1) := by decide +kernel
theorem dX7_first_24 : decode cX7_first 24 = .ok (.iload_n 2, 1) := by decide +kernel
theorem dX7_first_25 : decode cX7_first 25 = .ok (.invokevirtual 141, 3) := by decide +kernel
theorem dX7_first_28 : decode cX7_first 28 = .ok (.ifCond .ge 8, 3) := by decide +kernel
theorem dX7_first_31 : decode cX7_first 31 = .ok (.bipush 45, 2) := by decide +kernel
theorem dX7_first_33 : decode cX7_first 33 = .ok (.goto 5, 3) := by decide +kernel
theorem dX7_first_36 : decode cX7_first 36 = .ok (.bipush 106, 2) := by decide +kernel
theorem dX7_first_38 : decode cX7_first 38 = .ok (.ireturn, 1) := by decide +kernel
theorem dX7_noReasons_0 : decode cX7_noReasons 0 = .ok (.aload_n 0, 1) := by decide +kernel
theorem dX7_noReasons_1 : decode cX7_noReasons 1 = .ok (.iload_n 1, 1) := by decide +kernel
theorem dX7_noReasons_2 : decode cX7_noReasons 2 = .ok (.invokevirtual 135, 3) := by decide +kernel
theorem dX7_noReasons_5 : decode cX7_noReasons 5 = .ok (.ifCond .eq 5, 3) := by decide +kernel
theorem dX7_noReasons_8 : decode cX7_noReasons 8 = .ok (.iconst 1, 1) := by decide +kernel
theorem dX7_noReasons_9 : decode cX7_noReasons 9 = .ok (.ireturn, 1) := by decide +kernel
theorem dX7_noReasons_10 : decode cX7_noReasons 10 = .ok (.aload_n 0, 1) := by decide +kernel
theorem dX7_noReasons_11 : decode cX7_noReasons 11 = .ok (.iload_n 2, 1) := by decide +kernel
theorem dX7_noReasons_12 : decode cX7_noReasons 12 = .ok (.iconst 0, 1) := by decide +kernel
theorem dX7_noReasons_13 : decode cX7_noReasons 13 = .ok (.aload_n 0, 1) := by decide +kernel
theorem dX7_noReasons_14 : decode cX7_noReasons 14 = .ok (.getfield 89, 3) := by decide +kernel
theorem dX7_noReasons_17 : decode cX7_noReasons 17 = .ok (.iconst 1, 1) := by decide +kernel
theorem dX7_noReasons_18 : decode cX7_noReasons 18 = .ok (.isub, 1) := by decide +kernel
theorem dX7_noReasons_19 : decode cX7_noReasons 19 = .ok (.invokestatic 85, 3) := by decide +kernel
theorem dX7_noReasons_22 : decode cX7_noReasons 22 = .ok (.ifCond .ne 7, 3) := by decide +kernel
theorem dX7_noReasons_25 : decode cX7_noReasons 25 = .ok (.iconst 2, 1) := by decide +kernel
theorem dX7_noReasons_26 : decode cX7_noReasons 26 = .ok (.goto 22, 3) := by decide +kernel
theorem dX7_noReasons_29 : decode cX7_noReasons 29 = .ok (.aload_n 0, 1) := by decide +kernel
theorem dX7_noReasons_30 : decode cX7_noReasons 30 = .ok (.getfield 69, 3) := by decide +kernel
theorem dX7_noReasons_33 : decode cX7_noReasons 33 = .ok (.bipush 40, 2) := by decide +kernel
theorem dX7_noReasons_35 : decode cX7_noReasons 35 = .ok (.iload_n 1, 1) := by decide +kernel
theorem dX7_noReasons_36 : decode cX7_noReasons 36 = .ok (.imul, 1) := by decide +kernel
theorem dX7_noReasons_37 : decode cX7_noReasons 37 = .ok (.iload_n 2, 1) := by decide +kernel
theorem dX7_noReasons_38 : decode cX7_noReasons 38 = .ok (.iadd, 1) := by decide +kernel
theorem dX7_noReasons_39 : decode cX7_noReasons 39 = .ok (.baload, 1) := by decide +kernel
theorem dX7_noReasons_40 : decode cX7_noReasons 40 = .ok (.ifCond .eq 7, 3) := by decide +kernel
theorem dX7_noReasons_43 : decode cX7_noReasons 43 = .ok (.iconst 3, 1) := by decide +kernel
theorem dX7_noReasons_44 : decode cX7_noReasons 44 = .ok (.goto 4, 3) := by decide +kernel
theorem dX7_noReasons_47 : decode cX7_noReasons 47 = .ok (.iconst 0, 1) := by decide +kernel
theorem dX7_noReasons_48 : decode cX7_noReasons 48 = .ok (.putfield 79, 3) := by decide +kernel
theorem dX7_noReasons_51 : decode cX7_noReasons 51 = .ok (.aload_n 0, 1) := by decide +kernel
theorem dX7_noReasons_52 : decode cX7_noReasons 52 = .ok (.getfield 79, 3) := by decide +kernel
theorem dX7_noReasons_55 : decode cX7_noReasons 55 = .ok (.ifCond .eq 7, 3) := by decide +kernel
theorem dX7_noReasons_58 : decode cX7_noReasons 58 = .ok (.iconst 1, 1) := by decide +kernel
theorem dX7_noReasons_59 : decode cX7_noReasons 59 = .ok (.goto 4, 3) := by decide +kernel
theorem dX7_noReasons_62 : decode cX7_noReasons 62 = .ok (.iconst 0, 1) := by decide +kernel
theorem dX7_noReasons_63 : decode cX7_noReasons 63 = .ok (.ireturn, 1) := by decide +kernel
theorem dX7_why_0 : decode cX7_why 0 = .ok (.aload_n 0, 1) := by decide +kernel
theorem dX7_why_1 : decode cX7_why 1 = .ok (.iload_n 1, 1) := by decide +kernel
theorem dX7_why_2 : decode cX7_why 2 = .ok (.iload_n 2, 1) := by decide +kernel
theorem dX7_why_3 : decode cX7_why 3 = .ok (.invokevirtual 145, 3) := by decide +kernel
theorem dX7_why_6 : decode cX7_why 6 = .ok (.ifCond .eq 8, 3) := by decide +kernel
theorem dX7_why_9 : decode cX7_why 9 = .ok (.bipush 45, 2) := by decide +kernel
theorem dX7_why_11 : decode cX7_why 11 = .ok (.goto 9, 3) := by decide +kernel
theorem dX7_why_14 : decode cX7_why 14 = .ok (.aload_n 0, 1) := by decide +kernel
theorem dX7_why_15 : decode cX7_why 15 = .ok (.iload_n 1, 1) := by decide +kernel
theorem dX7_why_16 : decode cX7_why 16 = .ok (.iload_n 2, 1) := by decide +kernel
theorem dX7_why_17 : decode cX7_why 17 = .ok (.invokevirtual 148, 3) := by decide +kernel
theorem dX7_why_20 : decode cX7_why 20 = .ok (.ireturn, 1) := by decide +kernel
theorem dX7_cause_0 : decode cX7_cause 0 = .ok (.aload_n 0, 1) := by decide +kernel
theorem dX7_cause_1 : decode cX7_cause 1 = .ok (.iload_n 2, 1) := by decide +kernel
theorem dX7_cause_2 : decode cX7_cause 2 = .ok (.invokevirtual 121, 3) := by decide +kernel
theorem dX7_cause_5 : decode cX7_cause 5 = .ok (.ifCond .eq 7, 3) := by decide +kernel
theorem dX7_cause_8 : decode cX7_cause 8 = .ok (.iload_n 2, 1) := by decide +kernel
theorem dX7_cause_9 : decode cX7_cause 9 = .ok (.goto 9, 3) := by decide +kernel
theorem dX7_cause_12 : decode cX7_cause 12 = .ok (.aload_n 0, 1) := by decide +kernel
theorem dX7_cause_13 : decode cX7_cause 13 = .ok (.iload_n 1, 1) := by decide +kernel
theorem dX7_cause_14 : decode cX7_cause 14 = .ok (.iload_n 2, 1) := by decide +kernel
theorem dX7_cause_15 : decode cX7_cause 15 = .ok (.invokevirtual 141, 3) := by decide +kernel
theorem dX7_cause_18 : decode cX7_cause 18 = .ok (.ireturn, 1) := by decide +kernel
theorem dX7_root_0 : decode cX7_root 0 = .ok (.aload_n 0, 1) := by decide +kernel
theorem dX7_root_1 : decode cX7_root 1 = .ok (.iload_n 1, 1) := by decide +kernel
theorem dX7_root_2 : decode cX7_root 2 = .ok (.iload_n 2, 1) := by decide +kernel
theorem dX7_root_3 : decode cX7_root 3 = .ok (.invokevirtual 145, 3) := by decide +kernel
theorem dX7_root_6 : decode cX7_root 6 = .ok (.ifCond .eq 6, 3) := by decide +kernel
theorem dX7_root_9 : decode cX7_root 9 = .ok (.bipush 45, 2) := by decide +kernel
theorem dX7_root_11 : decode cX7_root 11 = .ok (.ireturn, 1) := by decide +kernel
theorem dX7_root_12 : decode cX7_root 12 = .ok (.aload_n 0, 1) := by decide +kernel
theorem dX7_root_13 : decode cX7_root 13 = .ok (.iload_n 1, 1) := by decide +kernel
theorem dX7_root_14 : decode cX7_root 14 = .ok (.iload_n 2, 1) := by decide +kernel
theorem dX7_root_15 : decode cX7_root 15 = .ok (.invokevirtual 148, 3) := by decide +kernel
theorem dX7_root_18 : decode cX7_root 18 = .ok (.bipush 45, 2) := by decide +kernel
theorem dX7_root_20 : decode cX7_root 20 = .ok (.if_icmp .ne 11, 3) := by decide +kernel
theorem dX7_root_23 : decode cX7_root 23 = .ok (.aload_n 0, 1) := by decide +kernel
theorem dX7_root_24 : decode cX7_root 24 = .ok (.iconst 4, 1) := by decide +kernel
theorem dX7_root_25 : decode cX7_root 25 = .ok (.putfield 79, 3) := by decide +kernel
theorem dX7_root_28 : decode cX7_root 28 = .ok (.bipush 45, 2) := by decide +kernel
theorem dX7_root_30 : decode cX7_root 30 = .ok (.ireturn, 1) := by decide +kernel
theorem dX7_root_31 : decode cX7_root 31 = .ok (.aload_n 0, 1) := by decide +kernel
theorem dX7_root_32 : decode cX7_root 32 = .ok (.aload_n 0, 1) := by decide +kernel
theorem dX7_root_33 : decode cX7_root 33 = .ok (.iload_n 1, 1) := by decide +kernel
theorem dX7_root_34 : decode cX7_root 34 = .ok (.iload_n 2, 1) := by decide +kernel
theorem dX7_root_35 : decode cX7_root 35 = .ok (.invokevirtual 152, 3) := by decide +kernel
theorem dX7_root_38 : decode cX7_root 38 = .ok (.invokevirtual 118, 3) := by decide +kernel
theorem dX7_root_41 : decode cX7_root 41 = .ok (.ifCond .eq 8, 3) := by decide +kernel
theorem dX7_root_44 : decode cX7_root 44 = .ok (.bipush 115, 2) := by decide +kernel
theorem dX7_root_46 : decode cX7_root 46 = .ok (.goto 5, 3) := by decide +kernel
theorem dX7_root_49 : decode cX7_root 49 = .ok (.bipush 114, 2) := by decide +kernel
theorem dX7_root_51 : decode cX7_root 51 = .ok (.ireturn, 1) := by decide +kernel
theorem dX7_causes_0 : decode cX7_causes 0 = .ok (.aload_n 0, 1) := by decide +kernel
theorem dX7_causes_1 : decode cX7_causes 1 = .ok (.iload_n 1, 1) := by decide +kernel
theorem dX7_causes_2 : decode cX7_causes 2 = .ok (.iload_n 2, 1) := by decide +kernel
theorem dX7_causes_3 : decode cX7_causes 3 = .ok (.invokevirtual 145, 3) := by decide +kernel
theorem dX7_causes_6 : decode cX7_causes 6 = .ok (.ifCond .eq 5, 3) := by decide +kernel
theorem dX7_causes_9 : decode cX7_causes 9 = .ok (.iconst 0, 1) := by decide +kernel
theorem dX7_causes_10 : decode cX7_causes 10 = .ok (.ireturn, 1) := by decide +kernel
theorem dX7_causes_11 : decode cX7_causes 11 = .ok (.aload_n 0, 1) := by decide +kernel
theorem dX7_causes_12 : decode cX7_causes 12 = .ok (.iload_n 1, 1) := by decide +kernel
theorem dX7_causes_13 : decode cX7_causes 13 = .ok (.iload_n 2, 1) := by decide +kernel
theorem dX7_causes_14 : decode cX7_causes 14 = .ok (.invokevirtual 148, 3) := by decide +kernel
theorem dX7_causes_17 : decode cX7_causes 17 = .ok (.istore_n 3, 1) := by decide +kernel
theorem dX7_causes_18 : decode cX7_causes 18 = .ok (.iload_n 3, 1) := by decide +kernel
theorem dX7_causes_19 : decode cX7_causes 19 = .ok (.bipush 45, 2) := by decide +kernel
theorem dX7_causes_21 : decode cX7_causes 21 = .ok (.if_icmp .ne 5, 3) := by decide +kernel
theorem dX7_causes_24 : decode cX7_causes 24 = .ok (.iconst 0, 1) := by decide +kernel
theorem dX7_causes_25 : decode cX7_causes 25 = .ok (.ireturn, 1) := by decide +kernel
theorem dX7_causes_26 : decode cX7_causes 26 = .ok (.aload_n 0, 1) := by decide +kernel
theorem dX7_causes_27 : decode cX7_causes 27 = .ok (.iload_n 1, 1) := by decide +kernel
theorem dX7_causes_28 : decode cX7_causes 28 = .ok (.iload_n 2, 1) := by decide +kernel
theorem dX7_causes_29 : decode cX7_causes 29 = .ok (.invokevirtual 152, 3) := by decide +kernel
theorem dX7_causes_32 : decode cX7_causes 32 = .ok (.istore 4, 2) := by decide +kernel
theorem dX7_causes_34 : decode cX7_causes 34 = .ok (.iload_n 3, 1) := by decide +kernel
theorem dX7_causes_35 : decode cX7_causes 35 = .ok (.bipush 106, 2) := by decide +kernel
theorem dX7_causes_37 : decode cX7_causes 37 = .ok (.if_icmp .ne 7, 3) := by decide +kernel
theorem dX7_causes_40 : decode cX7_causes 40 = .ok (.iconst 1, 1) := by decide +kernel
theorem dX7_causes_41 : decode cX7_causes 41 = .ok (.goto 4, 3) := by decide +kernel
theorem dX7_causes_44 : decode cX7_causes 44 = .ok (.iconst 0, 1) := by decide +kernel
theorem dX7_causes_45 : decode cX7_causes 45 = .ok (.aload_n 0, 1) := by decide +kernel
theorem dX7_causes_46 : decode cX7_causes 46 = .ok (.iload 4, 2) := by decide +kernel
theorem dX7_causes_48 : decode cX7_causes 48 = .ok (.invokevirtual 115, 3) := by decide +kernel
theorem dX7_causes_51 : decode cX7_causes 51 = .ok (.ifCond .eq 7, 3) := by decide +kernel
theorem dX7_causes_54 : decode cX7_causes 54 = .ok (.iconst 1, 1) := by decide +kernel
theorem dX7_causes_55 : decode cX7_causes 55 = .ok (.goto 4, 3) := by decide +kernel
theorem dX7_causes_58 : decode cX7_causes 58 = .ok (.iconst 0, 1) := by decide +kernel
theorem dX7_causes_59 : decode cX7_causes 59 = .ok (.iadd, 1) := by decide +kernel
theorem dX7_causes_60 : decode cX7_causes 60 = .ok (.aload_n 0, 1) := by decide +kernel
theorem dX7_causes_61 : decode cX7_causes 61 = .ok (.iload 4, 2) := by decide +kernel
theorem dX7_causes_63 : decode cX7_causes 63 = .ok (.invokevirtual 118, 3) := by decide +kernel
theorem dX7_causes_66 : decode cX7_causes 66 = .ok (.ifCond .eq 7, 3) := by decide +kernel
theorem dX7_causes_69 : decode cX7_causes 69 = .ok (.iconst 1, 1) := by decide +kernel
theorem dX7_causes_70 : decode cX7_causes 70 = .ok (.goto 4, 3) := by decide +kernel
theorem dX7_causes_73 : decode cX7_causes 73 = .ok (.iconst 0, 1) := by decide +kernel
theorem dX7_causes_74 : decode cX7_causes 74 = .ok (.iadd, 1) := by decide +kernel
theorem dX7_causes_75 : decode cX7_causes 75 = .ok (.ireturn, 1) := by decide +kernel
theorem dX7_request_0 : decode cX7_request 0 = .ok (.aload_n 0, 1) := by decide +kernel
theorem dX7_request_1 : decode cX7_request 1 = .ok (.iload_n 1, 1) := by decide +kernel
theorem dX7_request_2 : decode cX7_request 2 = .ok (.invokevirtual 135, 3) := by decide +kernel
theorem dX7_request_5 : decode cX7_request 5 = .ok (.ifCond .eq 5, 3) := by decide +kernel
theorem dX7_request_8 : decode cX7_request 8 = .ok (.iconst 0, 1) := by decide +kernel
theorem dX7_request_9 : decode cX7_request 9 = .ok (.ireturn, 1) := by decide +kernel
theorem dX7_request_10 : decode cX7_request 10 = .ok (.iload_n 2, 1) := by decide +kernel
theorem dX7_request_11 : decode cX7_request 11 = .ok (.iconst 0, 1) := by decide +kernel
theorem dX7_request_12 : decode cX7_request 12 = .ok (.aload_n 0, 1) := by decide +kernel
theorem dX7_request_13 : decode cX7_request 13 = .ok (.getfield 82, 3) := by decide +kernel
theorem dX7_request_16 : decode cX7_request 16 = .ok (.iconst 1, 1) := by decide +kernel
theorem dX7_request_17 : decode cX7_request 17 = .ok (.isub, 1) := by decide +kernel
theorem dX7_request_18 : decode cX7_request 18 = .ok (.invokestatic 85, 3) := by decide +kernel
theorem dX7_request_21 : decode cX7_request 21 = .ok (.ifCond .ne 9, 3) := by decide +kernel
theorem dX7_request_24 : decode cX7_request 24 = .ok (.aload_n 0, 1) := by decide +kernel
theorem dX7_request_25 : decode cX7_request 25 = .ok (.iconst 2, 1) := by decide +kernel
theorem dX7_request_26 : decode cX7_request 26 = .ok (.invokevirtual 92, 3) := by decide +kernel
theorem dX7_request_29 : decode cX7_request 29 = .ok (.ireturn, 1) := by decide +kernel
theorem dX7_request_30 : decode cX7_request 30 = .ok (.aload_n 0, 1) := by decide +kernel
theorem dX7_request_31 : decode cX7_request 31 = .ok (.getfield 59, 3) := by decide +kernel
theorem dX7_request_34 : decode cX7_request 34 = .ok (.iload_n 1, 1) := by decide +kernel
theorem dX7_request_35 : decode cX7_request 35 = .ok (.iaload, 1) := by decide +kernel
theorem dX7_request_36 : decode cX7_request 36 = .ok (.bipush 100, 2) := by decide +kernel
theorem dX7_request_38 : decode cX7_request 38 = .ok (.if_icmp .le 9, 3) := by decide +kernel
theorem dX7_request_41 : decode cX7_request 41 = .ok (.aload_n 0, 1) := by decide +kernel
theorem dX7_request_42 : decode cX7_request 42 = .ok (.iconst 3, 1) := by decide +kernel
theorem dX7_request_43 : decode cX7_request 43 = .ok (.invokevirtual 92, 3) := by decide +kernel
theorem dX7_request_46 : decode cX7_request 46 = .ok (.ireturn, 1) := by decide +kernel
theorem dX7_request_47 : decode cX7_request 47 = .ok (.aload_n 0, 1) := by decide +kernel
theorem dX7_request_48 : decode cX7_request 48 = .ok (.getfield 155, 3) := by decide +kernel
theorem dX7_request_51 : decode cX7_request 51 = .ok (.bipush 20, 2) := by decide +kernel
theorem dX7_request_53 : decode cX7_request 53 = .ok (.if_icmp .ne 9, 3) := by decide +kernel
theorem dX7_request_56 : decode cX7_request 56 = .ok (.aload_n 0, 1) := by decide +kernel
theorem dX7_request_57 : decode cX7_request 57 = .ok (.iconst 4, 1) := by decide +kernel
theorem dX7_request_58 : decode cX7_request 58 = .ok (.invokevirtual 92, 3) := by decide +kernel
theorem dX7_request_61 : decode cX7_request 61 = .ok (.ireturn, 1) := by decide +kernel
theorem dX7_request_62 : decode cX7_request 62 = .ok (.iconst 0, 1) := by decide +kernel
theorem dX7_request_63 : decode cX7_request 63 = .ok (.istore_n 3, 1) := by decide +kernel
theorem dX7_request_64 : decode cX7_request 64 = .ok (.iload_n 3, 1) := by decide +kernel
theorem dX7_request_65 : decode cX7_request 65 = .ok (.aload_n 0, 1) := by decide +kernel
theorem dX7_request_66 : decode cX7_request 66 = .ok (.getfield 155, 3) := by decide +kernel
theorem dX7_request_69 : decode cX7_request 69 = .ok (.if_icmp .ge 46, 3) := by decide +kernel
theorem dX7_request_72 : decode cX7_request 72 = .ok (.aload_n 0, 1) := by decide +kernel
theorem dX7_request_73 : decode cX7_request 73 = .ok (.getfield 50, 3) := by decide +kernel
theorem dX7_request_76 : decode cX7_request 76 = .ok (.iload_n 3, 1) := by decide +kernel
theorem dX7_request_77 : decode cX7_request 77 = .ok (.iaload, 1) := by decide +kernel
theorem dX7_request_78 : decode cX7_request 78 = .ok (.iload_n 1, 1) := by decide +kernel
theorem dX7_request_79 : decode cX7_request 79 = .ok (.if_icmp .ne 30, 3) := by decide +kernel
theorem dX7_request_82 : decode cX7_request 82 = .ok (.aload_n 0, 1) := by decide +kernel
theorem dX7_request_83 : decode cX7_request 83 = .ok (.getfield 53, 3) := by decide +kernel
theorem dX7_request_86 : decode cX7_request 86 = .ok (.iload_n 3, 1) := by decide +kernel
theorem dX7_request_87 : decode cX7_request 87 = .ok (.iaload, 1) := by decide +kernel
theorem dX7_request_88 : decode cX7_request 88 = .ok (.iload_n 2, 1) := by decide +kernel
theorem dX7_request_89 : decode cX7_request 89 = .ok (.if_icmp .ne 20, 3) := by decide +kernel
theorem dX7_request_92 : decode cX7_request 92 = .ok (.aload_n 0, 1) := by decide +kernel
theorem dX7_request_93 : decode cX7_request 93 = .ok (.getfield 75, 3) := by decide +kernel
theorem dX7_request_96 : decode cX7_request 96 = .ok (.iload_n 3, 1) := by decide +kernel
theorem dX7_request_97 : decode cX7_request 97 = .ok (.caload, 1) := by decide +kernel
theorem dX7_request_98 : decode cX7_request 98 = .ok (.bipush 119, 2) := by decide +kernel
theorem dX7_request_100 : decode cX7_request 100 = .ok (.if_icmp .ne 9, 3) := by decide +kernel
theorem dX7_request_103 : decode cX7_request 103 = .ok (.aload_n 0, 1) := by decide +kernel
theorem dX7_request_104 : decode cX7_request 104 = .ok (.iconst 4, 1) := by decide +kernel
theorem dX7_request_105 : decode cX7_request 105 = .ok (.invokevirtual 92, 3) := by decide +kernel
theorem dX7_request_108 : decode cX7_request 108 = .ok (.ireturn, 1) := by decide +kernel
theorem dX7_request_109 : decode cX7_request 109 = .ok (.iinc 3 1, 3) := by decide +kernel
theorem dX7_request_112 : decode cX7_request 112 = .ok (.goto (-48), 3) := by decide +kernel
theorem dX7_request_115 : decode cX7_request 115 = .ok (.aload_n 0, 1) := by decide +kernel
theorem dX7_request_116 : decode cX7_request 116 = .ok (.getfield 50, 3) := by decide +kernel
theorem dX7_request_119 : decode cX7_request 119 = .ok (.aload_n 0, 1) := by decide +kernel
theorem dX7_request_120 : decode cX7_request 120 = .ok (.getfield 155, 3) := by decide +kernel
theorem dX7_request_123 : decode cX7_request 123 = .ok (.iload_n 1, 1) := by decide +kernel
theorem dX7_request_124 : decode cX7_request 124 = .ok (.iastore, 1) := by decide +kernel
theorem dX7_request_125 : decode cX7_request 125 = .ok (.aload_n 0, 1) := by decide +kernel
theorem dX7_request_126 : decode cX7_request 126 = .ok (.getfield 53, 3) := by decide +kernel
theorem dX7_request_129 : decode cX7_request 129 = .ok (.aload_n 0, 1) := by decide +kernel
theorem dX7_request_130 : decode cX7_request 130 = .ok (.getfield 155, 3) := by decide +kernel
theorem dX7_request_133 : decode cX7_request 133 = .ok (.iload_n 2, 1) := by decide +kernel
theorem dX7_request_134 : decode cX7_request 134 = .ok (.iastore, 1) := by decide +kernel
theorem dX7_request_135 : decode cX7_request 135 = .ok (.aload_n 0, 1) := by decide +kernel
theorem dX7_request_136 : decode cX7_request 136 = .ok (.getfield 56, 3) := by decide +kernel
theorem dX7_request_139 : decode cX7_request 139 = .ok (.aload_n 0, 1) := by decide +kernel
theorem dX7_request_140 : decode cX7_request 140 = .ok (.getfield 155, 3) := by decide +kernel
theorem dX7_request_143 : decode cX7_request 143 = .ok (.aload_n 0, 1) := by decide +kernel
theorem dX7_request_144 : decode cX7_request 144 = .ok (.getfield 106, 3) := by decide +kernel
theorem dX7_request_147 : decode cX7_request 147 = .ok (.iastore, 1) := by decide +kernel
theorem dX7_request_148 : decode cX7_request 148 = .ok (.aload_n 0, 1) := by decide +kernel
theorem dX7_request_149 : decode cX7_request 149 = .ok (.getfield 75, 3) := by decide +kernel
theorem dX7_request_152 : decode cX7_request 152 = .ok (.aload_n 0, 1) := by decide +kernel
theorem dX7_request_153 : decode cX7_request 153 = .ok (.getfield 155, 3) := by decide +kernel
theorem dX7_request_156 : decode cX7_request 156 = .ok (.bipush 119, 2) := by decide +kernel
theorem dX7_request_158 : decode cX7_request 158 = .ok (.castore, 1) := by decide +kernel
theorem dX7_request_159 : decode cX7_request 159 = .ok (.aload_n 0, 1) := by decide +kernel
theorem dX7_request_160 : decode cX7_request 160 = .ok (.dup, 1) := by decide +kernel
theorem dX7_request_161 : decode cX7_request 161 = .ok (.getfield 155, 3) := by decide +kernel
theorem dX7_request_164 : decode cX7_request 164 = .ok (.dup_x1, 1) := by decide +kernel
theorem dX7_request_165 : decode cX7_request 165 = .ok (.iconst 1, 1) := by decide +kernel
theorem dX7_request_166 : decode cX7_request 166 = .ok (.iadd, 1) := by decide +kernel
theorem dX7_request_167 : decode cX7_request 167 = .ok (.putfield 155, 3) := by decide +kernel
theorem dX7_request_170 : decode cX7_request 170 = .ok (.ireturn, 1) := by decide +kernel
theorem dX7_noRequest_0 : decode cX7_noRequest 0 = .ok (.aload_n 0, 1) := by decide +kernel
theorem dX7_noRequest_1 : decode cX7_noRequest 1 = .ok (.iload_n 1, 1) := by decide +kernel
theorem dX7_noRequest_2 : decode cX7_noRequest 2 = .ok (.iconst 0, 1) := by decide +kernel
theorem dX7_noRequest_3 : decode cX7_noRequest 3 = .ok (.aload_n 0, 1) := by decide +kernel
theorem dX7_noRequest_4 : decode cX7_noRequest 4 = .ok (.getfield 155, 3) := by decide +kernel
theorem dX7_noRequest_7 : decode cX7_noRequest 7 = .ok (.iconst 1, 1) := by decide +kernel
theorem dX7_noRequest_8 : decode cX7_noRequest 8 = .ok (.isub, 1) := by decide +kernel
theorem dX7_noRequest_9 : decode cX7_noRequest 9 = .ok (.invokestatic 85, 3) := by decide +kernel
theorem dX7_noRequest_12 : decode cX7_noRequest 12 = .ok (.ifCond .eq 7, 3) := by decide +kernel
theorem dX7_noRequest_15 : decode cX7_noRequest 15 = .ok (.iconst 0, 1) := by decide +kernel
theorem dX7_noRequest_16 : decode cX7_noRequest 16 = .ok (.goto 4, 3) := by decide +kernel
theorem dX7_noRequest_19 : decode cX7_noRequest 19 = .ok (.iconst 1, 1) := by decide +kernel
theorem dX7_noRequest_20 : decode cX7_noRequest 20 = .ok (.putfield 79, 3) := by decide +kernel
theorem dX7_noRequest_23 : decode cX7_noRequest 23 = .ok (.aload_n 0, 1) := by decide +kernel
theorem dX7_noRequest_24 : decode cX7_noRequest 24 = .ok (.getfield 79, 3) := by decide +kernel
theorem dX7_noRequest_27 : decode cX7_noRequest 27 = .ok (.ifCond .eq 7, 3) := by decide +kernel
theorem dX7_noRequest_30 : decode cX7_noRequest 30 = .ok (.iconst 1, 1) := by decide +kernel
theorem dX7_noRequest_31 : decode cX7_noRequest 31 = .ok (.goto 4, 3) := by decide +kernel
theorem dX7_noRequest_34 : decode cX7_noRequest 34 = .ok (.iconst 0, 1) := by decide +kernel
theorem dX7_noRequest_35 : decode cX7_noRequest 35 = .ok (.ireturn, 1) := by decide +kernel
theorem dX7_state_0 : decode cX7_state 0 = .ok (.aload_n 0, 1) := by decide +kernel
theorem dX7_state_1 : decode cX7_state 1 = .ok (.iload_n 1, 1) := by decide +kernel
theorem dX7_state_2 : decode cX7_state 2 = .ok (.invokevirtual 158, 3) := by decide +kernel
theorem dX7_state_5 : decode cX7_state 5 = .ok (.ifCond .eq 8, 3) := by decide +kernel
theorem dX7_state_8 : decode cX7_state 8 = .ok (.bipush 119, 2) := by decide +kernel
theorem dX7_state_10 : decode cX7_state 10 = .ok (.goto 9, 3) := by decide +kernel
theorem dX7_state_13 : decode cX7_state 13 = .ok (.aload_n 0, 1) := by decide +kernel
theorem dX7_state_14 : decode cX7_state 14 = .ok (.getfield 75, 3) := by decide +kernel
theorem dX7_state_17 : decode cX7_state 17 = .ok (.iload_n 1, 1) := by decide +kernel
theorem dX7_state_18 : decode cX7_state 18 = .ok (.caload, 1) := by decide +kernel
theorem dX7_state_19 : decode cX7_state 19 = .ok (.ireturn, 1) := by decide +kernel
theorem dX7_answer_0 : decode cX7_answer 0 = .ok (.aload_n 0, 1) := by decide +kernel
theorem dX7_answer_1 : decode cX7_answer 1 = .ok (.iload_n 1, 1) := by decide +kernel
theorem dX7_answer_2 : decode cX7_answer 2 = .ok (.invokevirtual 158, 3) := by decide +kernel
theorem dX7_answer_5 : decode cX7_answer 5 = .ok (.ifCond .eq 5, 3) := by decide +kernel
theorem dX7_answer_8 : decode cX7_answer 8 = .ok (.iconst 0, 1) := by decide +kernel
theorem dX7_answer_9 : decode cX7_answer 9 = .ok (.ireturn, 1) := by decide +kernel
theorem dX7_answer_10 : decode cX7_answer 10 = .ok (.aload_n 0, 1) := by decide +kernel
theorem dX7_answer_11 : decode cX7_answer 11 = .ok (.getfield 75, 3) := by decide +kernel
theorem dX7_answer_14 : decode cX7_answer 14 = .ok (.iload_n 1, 1) := by decide +kernel
theorem dX7_answer_15 : decode cX7_answer 15 = .ok (.caload, 1) := by decide +kernel
theorem dX7_answer_16 : decode cX7_answer 16 = .ok (.bipush 119, 2) := by decide +kernel
theorem dX7_answer_18 : decode cX7_answer 18 = .ok (.if_icmp .eq 9, 3) := by decide +kernel
theorem dX7_answer_21 : decode cX7_answer 21 = .ok (.aload_n 0, 1) := by decide +kernel
theorem dX7_answer_22 : decode cX7_answer 22 = .ok (.iconst 2, 1) := by decide +kernel
theorem dX7_answer_23 : decode cX7_answer 23 = .ok (.invokevirtual 92, 3) := by decide +kernel
theorem dX7_answer_26 : decode cX7_answer 26 = .ok (.ireturn, 1) := by decide +kernel
theorem dX7_answer_27 : decode cX7_answer 27 = .ok (.aload_n 0, 1) := by decide +kernel
theorem dX7_answer_28 : decode cX7_answer 28 = .ok (.getfield 50, 3) := by decide +kernel
theorem dX7_answer_31 : decode cX7_answer 31 = .ok (.iload_n 1, 1) := by decide +kernel
theorem dX7_answer_32 : decode cX7_answer 32 = .ok (.iaload, 1) := by decide +kernel
theorem dX7_answer_33 : decode cX7_answer 33 = .ok (.istore_n 2, 1) := by decide +kernel
theorem dX7_answer_34 : decode cX7_answer 34 = .ok (.iconst 0, 1) := by decide +kernel
theorem dX7_answer_35 : decode cX7_answer 35 = .ok (.istore_n 3, 1) := by decide +kernel
theorem dX7_answer_36 : decode cX7_answer 36 = .ok (.iconst 0, 1) := by decide +kernel
theorem dX7_answer_37 : decode cX7_answer 37 = .ok (.istore 4, 2) := by decide +kernel
theorem dX7_answer_39 : decode cX7_answer 39 = .ok (.iload 4, 2) := by decide +kernel
theorem dX7_answer_41 : decode cX7_answer 41 = .ok (.aload_n 0, 1) := by decide +kernel
theorem dX7_answer_42 : decode cX7_answer 42 = .ok (.getfield 89, 3) := by decide +kernel
theorem dX7_answer_45 : decode cX7_answer 45 = .ok (.if_icmp .ge 76, 3) := by decide +kernel
theorem dX7_answer_48 : decode cX7_answer 48 = .ok (.aload_n 0, 1) := by decide +kernel
theorem dX7_answer_49 : decode cX7_answer 49 = .ok (.getfield 13, 3) := by decide +kernel
theorem dX7_answer_52 : decode cX7_answer 52 = .ok (.iload 4, 2) := by decide +kernel
theorem dX7_answer_54 : decode cX7_answer 54 = .ok (.iaload, 1) := by decide +kernel
theorem dX7_answer_55 : decode cX7_answer 55 = .ok (.aload_n 0, 1) := by decide +kernel
theorem dX7_answer_56 : decode cX7_answer 56 = .ok (.getfield 53, 3) := by decide +kernel
theorem dX7_answer_59 : decode cX7_answer 59 = .ok (.iload_n 1, 1) := by decide +kernel
theorem dX7_answer_60 : decode cX7_answer 60 = .ok (.iaload, 1) := by decide +kernel
theorem dX7_answer_61 : decode cX7_answer 61 = .ok (.if_icmp .ne 54, 3) := by decide +kernel
theorem dX7_answer_64 : decode cX7_answer 64 = .ok (.aload_n 0, 1) := by decide +kernel
theorem dX7_answer_65 : decode cX7_answer 65 = .ok (.getfield 69, 3) := by decide +kernel
theorem dX7_answer_68 : decode cX7_answer 68 = .ok (.bipush 40, 2) := by decide +kernel
theorem dX7_answer_70 : decode cX7_answer 70 = .ok (.iload_n 2, 1) := by decide +kernel
theorem dX7_answer_71 : decode cX7_answer 71 = .ok (.imul, 1) := by decide +kernel
theorem dX7_answer_72 : decode cX7_answer 72 = .ok (.iload 4, 2) := by decide +kernel
theorem dX7_answer_74 : decode cX7_answer 74 = .ok (.iadd, 1) := by decide +kernel
theorem dX7_answer_75 : decode cX7_answer 75 = .ok (.baload, 1) := by decide +kernel
theorem dX7_answer_76 : decode cX7_answer 76 = .ok (.ifCond .ne 39, 3) := by decide +kernel
theorem dX7_answer_79 : decode cX7_answer 79 = .ok (.aload_n 0, 1) := by decide +kernel
theorem dX7_answer_80 : decode cX7_answer 80 = .ok (.iload_n 2, 1) := by decide +kernel
theorem dX7_answer_81 : decode cX7_answer 81 = .ok (.iload 4, 2) := by decide +kernel
theorem dX7_answer_83 : decode cX7_answer 83 = .ok (.invokevirtual 148, 3) := by decide +kernel
theorem dX7_answer_86 : decode cX7_answer 86 = .ok (.bipush 45, 2) := by decide +kernel
theorem dX7_answer_88 : decode cX7_answer 88 = .ok (.if_icmp .eq 6, 3) := by decide +kernel
theorem dX7_answer_91 : decode cX7_answer 91 = .ok (.goto 24, 3) := by decide +kernel
theorem dX7_answer_94 : decode cX7_answer 94 = .ok (.aload_n 0, 1) := by decide +kernel
theorem dX7_answer_95 : decode cX7_answer 95 = .ok (.getfield 69, 3) := by decide +kernel
theorem dX7_answer_98 : decode cX7_answer 98 = .ok (.bipush 40, 2) := by decide +kernel
theorem dX7_answer_100 : decode cX7_answer 100 = .ok (.iload_n 2, 1) := by decide +kernel
theorem dX7_answer_101 : decode cX7_answer 101 = .ok (.imul, 1) := by decide +kernel
theorem dX7_answer_102 : decode cX7_answer 102 = .ok (.iload 4, 2) := by decide +kernel
theorem dX7_answer_104 : decode cX7_answer 104 = .ok (.iadd, 1) := by decide +kernel
theorem dX7_answer_105 : decode cX7_answer 105 = .ok (.iconst 1, 1) := by decide +kernel
theorem dX7_answer_106 : decode cX7_answer 106 = .ok (.bastore, 1) := by decide +kernel
theorem dX7_answer_107 : decode cX7_answer 107 = .ok (.aload_n 0, 1) := by decide +kernel
theorem dX7_answer_108 : decode cX7_answer 108 = .ok (.iload_n 2, 1) := by decide +kernel
theorem dX7_answer_109 : decode cX7_answer 109 = .ok (.invokevirtual 131, 3) := by decide +kernel
theorem dX7_answer_112 : decode cX7_answer 112 = .ok (.iinc 3 1, 3) := by decide +kernel
theorem dX7_answer_115 : decode cX7_answer 115 = .ok (.iinc 4 1, 3) := by decide +kernel
theorem dX7_answer_118 : decode cX7_answer 118 = .ok (.goto (-79), 3) := by decide +kernel
theorem dX7_answer_121 : decode cX7_answer 121 = .ok (.aload_n 0, 1) := by decide +kernel
theorem dX7_answer_122 : decode cX7_answer 122 = .ok (.getfield 75, 3) := by decide +kernel
theorem dX7_answer_125 : decode cX7_answer 125 = .ok (.iload_n 1, 1) := by decide +kernel
theorem dX7_answer_126 : decode cX7_answer 126 = .ok (.bipush 97, 2) := by decide +kernel
theorem dX7_answer_128 : decode cX7_answer 128 = .ok (.castore, 1) := by decide +kernel
theorem dX7_answer_129 : decode cX7_answer 129 = .ok (.aload_n 0, 1) := by decide +kernel
theorem dX7_answer_130 : decode cX7_answer 130 = .ok (.getfield 62, 3) := by decide +kernel
theorem dX7_answer_133 : decode cX7_answer 133 = .ok (.iload_n 2, 1) := by decide +kernel
theorem dX7_answer_134 : decode cX7_answer 134 = .ok (.dup2, 1) := by decide +kernel
theorem dX7_answer_135 : decode cX7_answer 135 = .ok (.iaload, 1) := by decide +kernel
theorem dX7_answer_136 : decode cX7_answer 136 = .ok (.iload_n 3, 1) := by decide +kernel
theorem dX7_answer_137 : decode cX7_answer 137 = .ok (.iadd, 1) := by decide +kernel
theorem dX7_answer_138 : decode cX7_answer 138 = .ok (.iastore, 1) := by decide +kernel
theorem dX7_answer_139 : decode cX7_answer 139 = .ok (.aload_n 0, 1) := by decide +kernel
theorem dX7_answer_140 : decode cX7_answer 140 = .ok (.getfield 59, 3) := by decide +kernel
theorem dX7_answer_143 : decode cX7_answer 143 = .ok (.iload_n 2, 1) := by decide +kernel
theorem dX7_answer_144 : decode cX7_answer 144 = .ok (.dup2, 1) := by decide +kernel
theorem dX7_answer_145 : decode cX7_answer 145 = .ok (.iaload, 1) := by decide +kernel
theorem dX7_answer_146 : decode cX7_answer 146 = .ok (.aload_n 0, 1) := by decide +kernel
theorem dX7_answer_147 : decode cX7_answer 147 = .ok (.getfield 7, 3) := by decide +kernel
theorem dX7_answer_150 : decode cX7_answer 150 = .ok (.iload_n 3, 1) := by decide +kernel
theorem dX7_answer_151 : decode cX7_answer 151 = .ok (.imul, 1) := by decide +kernel
theorem dX7_answer_152 : decode cX7_answer 152 = .ok (.iadd, 1) := by decide +kernel
theorem dX7_answer_153 : decode cX7_answer 153 = .ok (.iastore, 1) := by decide +kernel
theorem dX7_answer_154 : decode cX7_answer 154 = .ok (.aload_n 0, 1) := by decide +kernel
theorem dX7_answer_155 : decode cX7_answer 155 = .ok (.dup, 1) := by decide +kernel
theorem dX7_answer_156 : decode cX7_answer 156 = .ok (.getfield 161, 3) := by decide +kernel
theorem dX7_answer_159 : decode cX7_answer 159 = .ok (.aload_n 0, 1) := by decide +kernel
theorem dX7_answer_160 : decode cX7_answer 160 = .ok (.getfield 7, 3) := by decide +kernel
theorem dX7_answer_163 : decode cX7_answer 163 = .ok (.iload_n 3, 1) := by decide +kernel
theorem dX7_answer_164 : decode cX7_answer 164 = .ok (.imul, 1) := by decide +kernel
theorem dX7_answer_165 : decode cX7_answer 165 = .ok (.i2l, 1) := by decide +kernel
theorem dX7_answer_166 : decode cX7_answer 166 = .ok (.ladd, 1) := by decide +kernel
theorem dX7_answer_167 : decode cX7_answer 167 = .ok (.putfield 161, 3) := by decide +kernel
theorem dX7_answer_170 : decode cX7_answer 170 = .ok (.iload_n 3, 1) := by decide +kernel
theorem dX7_answer_171 : decode cX7_answer 171 = .ok (.ireturn, 1) := by decide +kernel
theorem dX7_withdraw_0 : decode cX7_withdraw 0 = .ok (.aload_n 0, 1) := by decide +kernel
theorem dX7_withdraw_1 : decode cX7_withdraw 1 = .ok (.iload_n 1, 1) := by decide +kernel
theorem dX7_withdraw_2 : decode cX7_withdraw 2 = .ok (.invokevirtual 158, 3) := by decide +kernel
theorem dX7_withdraw_5 : decode cX7_withdraw 5 = .ok (.ifCond .eq 5, 3) := by decide +kernel
theorem dX7_withdraw_8 : decode cX7_withdraw 8 = .ok (.iconst 0, 1) := by decide +kernel
theorem dX7_withdraw_9 : decode cX7_withdraw 9 = .ok (.ireturn, 1) := by decide +kernel
theorem dX7_withdraw_10 : decode cX7_withdraw 10 = .ok (.aload_n 0, 1) := by decide +kernel
theorem dX7_withdraw_11 : decode cX7_withdraw 11 = .ok (.getfield 75, 3) := by decide +kernel
theorem dX7_withdraw_14 : decode cX7_withdraw 14 = .ok (.iload_n 1, 1) := by decide +kernel
theorem dX7_withdraw_15 : decode cX7_withdraw 15 = .ok (.caload, 1) := by decide +kernel
theorem dX7_withdraw_16 : decode cX7_withdraw 16 = .ok (.bipush 119, 2) := by decide +kernel
theorem dX7_withdraw_18 : decode cX7_withdraw 18 = .ok (.if_icmp .eq 9, 3) := by decide +kernel
theorem dX7_withdraw_21 : decode cX7_withdraw 21 = .ok (.aload_n 0, 1) := by decide +kernel
theorem dX7_withdraw_22 : decode cX7_withdraw 22 = .ok (.iconst 2, 1) := by decide +kernel
theorem dX7_withdraw_23 : decode cX7_withdraw 23 = .ok (.invokevirtual 92, 3) := by decide +kernel
theorem dX7_withdraw_26 : decode cX7_withdraw 26 = .ok (.ireturn, 1) := by decide +kernel
theorem dX7_withdraw_27 : decode cX7_withdraw 27 = .ok (.aload_n 0, 1) := by decide +kernel
theorem dX7_withdraw_28 : decode cX7_withdraw 28 = .ok (.getfield 75, 3) := by decide +kernel
theorem dX7_withdraw_31 : decode cX7_withdraw 31 = .ok (.iload_n 1, 1) := by decide +kernel
theorem dX7_withdraw_32 : decode cX7_withdraw 32 = .ok (.bipush 120, 2) := by decide +kernel
theorem dX7_withdraw_34 : decode cX7_withdraw 34 = .ok (.castore, 1) := by decide +kernel
theorem dX7_withdraw_35 : decode cX7_withdraw 35 = .ok (.iconst 0, 1) := by decide +kernel
theorem dX7_withdraw_36 : decode cX7_withdraw 36 = .ok (.istore_n 2, 1) := by decide +kernel
theorem dX7_withdraw_37 : decode cX7_withdraw 37 = .ok (.iconst 0, 1) := by decide +kernel
theorem dX7_withdraw_38 : decode cX7_withdraw 38 = .ok (.istore_n 3, 1) := by decide +kernel
theorem dX7_withdraw_39 : decode cX7_withdraw 39 = .ok (.iload_n 3, 1) := by decide +kernel
theorem dX7_withdraw_40 : decode cX7_withdraw 40 = .ok (.aload_n 0, 1) := by decide +kernel
theorem dX7_withdraw_41 : decode cX7_withdraw 41 = .ok (.getfield 155, 3) := by decide +kernel
theorem dX7_withdraw_44 : decode cX7_withdraw 44 = .ok (.if_icmp .ge 28, 3) := by decide +kernel
theorem dX7_withdraw_47 : decode cX7_withdraw 47 = .ok (.iload_n 2, 1) := by decide +kernel
theorem dX7_withdraw_48 : decode cX7_withdraw 48 = .ok (.aload_n 0, 1) := by decide +kernel
theorem dX7_withdraw_49 : decode cX7_withdraw 49 = .ok (.getfield 75, 3) := by decide +kernel
theorem dX7_withdraw_52 : decode cX7_withdraw 52 = .ok (.iload_n 3, 1) := by decide +kernel
theorem dX7_withdraw_53 : decode cX7_withdraw 53 = .ok (.caload, 1) := by decide +kernel
theorem dX7_withdraw_54 : decode cX7_withdraw 54 = .ok (.bipush 119, 2) := by decide +kernel
theorem dX7_withdraw_56 : decode cX7_withdraw 56 = .ok (.if_icmp .ne 7, 3) := by decide +kernel
theorem dX7_withdraw_59 : decode cX7_withdraw 59 = .ok (.iconst 1, 1) := by decide +kernel
theorem dX7_withdraw_60 : decode cX7_withdraw 60 = .ok (.goto 4, 3) := by decide +kernel
theorem dX7_withdraw_63 : decode cX7_withdraw 63 = .ok (.iconst 0, 1) := by decide +kernel
theorem dX7_withdraw_64 : decode cX7_withdraw 64 = .ok (.iadd, 1) := by decide +kernel
theorem dX7_withdraw_65 : decode cX7_withdraw 65 = .ok (.istore_n 2, 1) := by decide +kernel
theorem dX7_withdraw_66 : decode cX7_withdraw 66 = .ok (.iinc 3 1, 3) := by decide +kernel
theorem dX7_withdraw_69 : decode cX7_withdraw 69 = .ok (.goto (-30), 3) := by decide +kernel
theorem dX7_withdraw_72 : decode cX7_withdraw 72 = .ok (.iload_n 2, 1) := by decide +kernel
theorem dX7_withdraw_73 : decode cX7_withdraw 73 = .ok (.ireturn, 1) := by decide +kernel
theorem dX7_setPrice_0 : decode cX7_setPrice 0 = .ok (.iload_n 1, 1) := by decide +kernel
theorem dX7_setPrice_1 : decode cX7_setPrice 1 = .ok (.iconst 0, 1) := by decide +kernel
theorem dX7_setPrice_2 : decode cX7_setPrice 2 = .ok (.bipush 99, 2) := by decide +kernel
theorem dX7_setPrice_4 : decode cX7_setPrice 4 = .ok (.invokestatic 85, 3) := by decide +kernel
theorem dX7_setPrice_7 : decode cX7_setPrice 7 = .ok (.ifCond .ne 9, 3) := by decide +kernel
theorem dX7_setPrice_10 : decode cX7_setPrice 10 = .ok (.aload_n 0, 1) := by decide +kernel
theorem dX7_setPrice_11 : decode cX7_setPrice 11 = .ok (.iconst 1, 1) := by decide +kernel
theorem dX7_setPrice_12 : decode cX7_setPrice 12 = .ok (.invokevirtual 92, 3) := by decide +kernel
theorem dX7_setPrice_15 : decode cX7_setPrice 15 = .ok (.ireturn, 1) := by decide +kernel
theorem dX7_setPrice_16 : decode cX7_setPrice 16 = .ok (.aload_n 0, 1) := by decide +kernel
theorem dX7_setPrice_17 : decode cX7_setPrice 17 = .ok (.iconst 0, 1) := by decide +kernel
theorem dX7_setPrice_18 : decode cX7_setPrice 18 = .ok (.putfield 79, 3) := by decide +kernel
theorem dX7_setPrice_21 : decode cX7_setPrice 21 = .ok (.aload_n 0, 1) := by decide +kernel
theorem dX7_setPrice_22 : decode cX7_setPrice 22 = .ok (.getfield 7, 3) := by decide +kernel
theorem dX7_setPrice_25 : decode cX7_setPrice 25 = .ok (.istore_n 2, 1) := by decide +kernel
theorem dX7_setPrice_26 : decode cX7_setPrice 26 = .ok (.aload_n 0, 1) := by decide +kernel
theorem dX7_setPrice_27 : decode cX7_setPrice 27 = .ok (.iload_n 1, 1) := by decide +kernel
theorem dX7_setPrice_28 : decode cX7_setPrice 28 = .ok (.putfield 7, 3) := by decide +kernel
theorem dX7_setPrice_31 : decode cX7_setPrice 31 = .ok (.iload_n 2, 1) := by decide +kernel
theorem dX7_setPrice_32 : decode cX7_setPrice 32 = .ok (.ireturn, 1) := by decide +kernel
theorem dX7_owed_0 : decode cX7_owed 0 = .ok (.aload_n 0, 1) := by decide +kernel
theorem dX7_owed_1 : decode cX7_owed 1 = .ok (.iload_n 1, 1) := by decide +kernel
theorem dX7_owed_2 : decode cX7_owed 2 = .ok (.invokevirtual 135, 3) := by decide +kernel
theorem dX7_owed_5 : decode cX7_owed 5 = .ok (.ifCond .eq 7, 3) := by decide +kernel
theorem dX7_owed_8 : decode cX7_owed 8 = .ok (.iconst 0, 1) := by decide +kernel
theorem dX7_owed_9 : decode cX7_owed 9 = .ok (.goto 9, 3) := by decide +kernel
theorem dX7_owed_12 : decode cX7_owed 12 = .ok (.aload_n 0, 1) := by decide +kernel
theorem dX7_owed_13 : decode cX7_owed 13 = .ok (.getfield 59, 3) := by decide +kernel
theorem dX7_owed_16 : decode cX7_owed 16 = .ok (.iload_n 1, 1) := by decide +kernel
theorem dX7_owed_17 : decode cX7_owed 17 = .ok (.iaload, 1) := by decide +kernel
theorem dX7_owed_18 : decode cX7_owed 18 = .ok (.ireturn, 1) := by decide +kernel
theorem dX7_pay_0 : decode cX7_pay 0 = .ok (.aload_n 0, 1) := by decide +kernel
theorem dX7_pay_1 : decode cX7_pay 1 = .ok (.iload_n 1, 1) := by decide +kernel
theorem dX7_pay_2 : decode cX7_pay 2 = .ok (.invokevirtual 135, 3) := by decide +kernel
theorem dX7_pay_5 : decode cX7_pay 5 = .ok (.ifCond .eq 5, 3) := by decide +kernel
theorem dX7_pay_8 : decode cX7_pay 8 = .ok (.iconst 0, 1) := by decide +kernel
theorem dX7_pay_9 : decode cX7_pay 9 = .ok (.ireturn, 1) := by decide +kernel
theorem dX7_pay_10 : decode cX7_pay 10 = .ok (.iload_n 2, 1) := by decide +kernel
theorem dX7_pay_11 : decode cX7_pay 11 = .ok (.iconst 1, 1) := by decide +kernel
theorem dX7_pay_12 : decode cX7_pay 12 = .ok (.aload_n 0, 1) := by decide +kernel
theorem dX7_pay_13 : decode cX7_pay 13 = .ok (.getfield 59, 3) := by decide +kernel
theorem dX7_pay_16 : decode cX7_pay 16 = .ok (.iload_n 1, 1) := by decide +kernel
theorem dX7_pay_17 : decode cX7_pay 17 = .ok (.iaload, 1) := by decide +kernel
theorem dX7_pay_18 : decode cX7_pay 18 = .ok (.invokestatic 85, 3) := by decide +kernel
theorem dX7_pay_21 : decode cX7_pay 21 = .ok (.ifCond .ne 9, 3) := by decide +kernel
theorem dX7_pay_24 : decode cX7_pay 24 = .ok (.aload_n 0, 1) := by decide +kernel
theorem dX7_pay_25 : decode cX7_pay 25 = .ok (.iconst 1, 1) := by decide +kernel
theorem dX7_pay_26 : decode cX7_pay 26 = .ok (.invokevirtual 92, 3) := by decide +kernel
theorem dX7_pay_29 : decode cX7_pay 29 = .ok (.ireturn, 1) := by decide +kernel
theorem dX7_pay_30 : decode cX7_pay 30 = .ok (.aload_n 0, 1) := by decide +kernel
theorem dX7_pay_31 : decode cX7_pay 31 = .ok (.getfield 59, 3) := by decide +kernel
theorem dX7_pay_34 : decode cX7_pay 34 = .ok (.iload_n 1, 1) := by decide +kernel
theorem dX7_pay_35 : decode cX7_pay 35 = .ok (.dup2, 1) := by decide +kernel
theorem dX7_pay_36 : decode cX7_pay 36 = .ok (.iaload, 1) := by decide +kernel
theorem dX7_pay_37 : decode cX7_pay 37 = .ok (.iload_n 2, 1) := by decide +kernel
theorem dX7_pay_38 : decode cX7_pay 38 = .ok (.isub, 1) := by decide +kernel
theorem dX7_pay_39 : decode cX7_pay 39 = .ok (.iastore, 1) := by decide +kernel
theorem dX7_pay_40 : decode cX7_pay 40 = .ok (.aload_n 0, 1) := by decide +kernel
theorem dX7_pay_41 : decode cX7_pay 41 = .ok (.getfield 59, 3) := by decide +kernel
theorem dX7_pay_44 : decode cX7_pay 44 = .ok (.iload_n 1, 1) := by decide +kernel
theorem dX7_pay_45 : decode cX7_pay 45 = .ok (.iaload, 1) := by decide +kernel
theorem dX7_pay_46 : decode cX7_pay 46 = .ok (.ireturn, 1) := by decide +kernel
theorem dX7_lateOnes_0 : decode cX7_lateOnes 0 = .ok (.iconst 0, 1) := by decide +kernel
theorem dX7_lateOnes_1 : decode cX7_lateOnes 1 = .ok (.istore_n 1, 1) := by decide +kernel
theorem dX7_lateOnes_2 : decode cX7_lateOnes 2 = .ok (.iconst 0, 1) := by decide +kernel
theorem dX7_lateOnes_3 : decode cX7_lateOnes 3 = .ok (.istore_n 2, 1) := by decide +kernel
theorem dX7_lateOnes_4 : decode cX7_lateOnes 4 = .ok (.iload_n 2, 1) := by decide +kernel
theorem dX7_lateOnes_5 : decode cX7_lateOnes 5 = .ok (.aload_n 0, 1) := by decide +kernel
theorem dX7_lateOnes_6 : decode cX7_lateOnes 6 = .ok (.getfield 155, 3) := by decide +kernel
theorem dX7_lateOnes_9 : decode cX7_lateOnes 9 = .ok (.if_icmp .ge 44, 3) := by decide +kernel
theorem dX7_lateOnes_12 : decode cX7_lateOnes 12 = .ok (.iload_n 1, 1) := by decide +kernel
theorem dX7_lateOnes_13 : decode cX7_lateOnes 13 = .ok (.aload_n 0, 1) := by decide +kernel
theorem dX7_lateOnes_14 : decode cX7_lateOnes 14 = .ok (.getfield 75, 3) := by decide +kernel
theorem dX7_lateOnes_17 : decode cX7_lateOnes 17 = .ok (.iload_n 2, 1) := by decide +kernel
theorem dX7_lateOnes_18 : decode cX7_lateOnes 18 = .ok (.caload, 1) := by decide +kernel
theorem dX7_lateOnes_19 : decode cX7_lateOnes 19 = .ok (.bipush 119, 2) := by decide +kernel
theorem dX7_lateOnes_21 : decode cX7_lateOnes 21 = .ok (.if_icmp .ne 23, 3) := by decide +kernel
theorem dX7_lateOnes_24 : decode cX7_lateOnes 24 = .ok (.aload_n 0, 1) := by decide +kernel
theorem dX7_lateOnes_25 : decode cX7_lateOnes 25 = .ok (.getfield 106, 3) := by decide +kernel
theorem dX7_lateOnes_28 : decode cX7_lateOnes 28 = .ok (.aload_n 0, 1) := by decide +kernel
theorem dX7_lateOnes_29 : decode cX7_lateOnes 29 = .ok (.getfield 56, 3) := by decide +kernel
theorem dX7_lateOnes_32 : decode cX7_lateOnes 32 = .ok (.iload_n 2, 1) := by decide +kernel
theorem dX7_lateOnes_33 : decode cX7_lateOnes 33 = .ok (.iaload, 1) := by decide +kernel
theorem dX7_lateOnes_34 : decode cX7_lateOnes 34 = .ok (.isub, 1) := by decide +kernel
theorem dX7_lateOnes_35 : decode cX7_lateOnes 35 = .ok (.bipush 20, 2) := by decide +kernel
theorem dX7_lateOnes_37 : decode cX7_lateOnes 37 = .ok (.if_icmp .le 7, 3) := by decide +kernel
theorem dX7_lateOnes_40 : decode cX7_lateOnes 40 = .ok (.iconst 1, 1) := by decide +kernel
theorem dX7_lateOnes_41 : decode cX7_lateOnes 41 = .ok (.goto 4, 3) := by decide +kernel
theorem dX7_lateOnes_44 : decode cX7_lateOnes 44 = .ok (.iconst 0, 1) := by decide +kernel
theorem dX7_lateOnes_45 : decode cX7_lateOnes 45 = .ok (.iadd, 1) := by decide +kernel
theorem dX7_lateOnes_46 : decode cX7_lateOnes 46 = .ok (.istore_n 1, 1) := by decide +kernel
theorem dX7_lateOnes_47 : decode cX7_lateOnes 47 = .ok (.iinc 2 1, 3) := by decide +kernel
theorem dX7_lateOnes_50 : decode cX7_lateOnes 50 = .ok (.goto (-46), 3) := by decide +kernel
theorem dX7_lateOnes_53 : decode cX7_lateOnes 53 = .ok (.iload_n 1, 1) := by decide +kernel
theorem dX7_lateOnes_54 : decode cX7_lateOnes 54 = .ok (.ireturn, 1) := by decide +kernel
theorem dX7_pass_0 : decode cX7_pass 0 = .ok (.iload_n 1, 1) := by decide +kernel
theorem dX7_pass_1 : decode cX7_pass 1 = .ok (.iconst 1, 1) := by decide +kernel
theorem dX7_pass_2 : decode cX7_pass 2 = .ok (.bipush 90, 2) := by decide +kernel
theorem dX7_pass_4 : decode cX7_pass 4 = .ok (.invokestatic 85, 3) := by decide +kernel
theorem dX7_pass_7 : decode cX7_pass 7 = .ok (.ifCond .eq 15, 3) := by decide +kernel
theorem dX7_pass_10 : decode cX7_pass 10 = .ok (.aload_n 0, 1) := by decide +kernel
theorem dX7_pass_11 : decode cX7_pass 11 = .ok (.getfield 106, 3) := by decide +kernel
theorem dX7_pass_14 : decode cX7_pass 14 = .ok (.iload_n 1, 1) := by decide +kernel
theorem dX7_pass_15 : decode cX7_pass 15 = .ok (.iadd, 1) := by decide +kernel
theorem dX7_pass_16 : decode cX7_pass 16 = .ok (.sipush 9999, 3) := by decide +kernel
theorem dX7_pass_19 : decode cX7_pass 19 = .ok (.if_icmp .le 9, 3) := by decide +kernel
theorem dX7_pass_22 : decode cX7_pass 22 = .ok (.aload_n 0, 1) := by decide +kernel
theorem dX7_pass_23 : decode cX7_pass 23 = .ok (.iconst 1, 1) := by decide +kernel
theorem dX7_pass_24 : decode cX7_pass 24 = .ok (.invokevirtual 92, 3) := by decide +kernel
theorem dX7_pass_27 : decode cX7_pass 27 = .ok (.ireturn, 1) := by decide +kernel
theorem dX7_pass_28 : decode cX7_pass 28 = .ok (.aload_n 0, 1) := by decide +kernel
theorem dX7_pass_29 : decode cX7_pass 29 = .ok (.iconst 0, 1) := by decide +kernel
theorem dX7_pass_30 : decode cX7_pass 30 = .ok (.putfield 79, 3) := by decide +kernel
theorem dX7_pass_33 : decode cX7_pass 33 = .ok (.aload_n 0, 1) := by decide +kernel
theorem dX7_pass_34 : decode cX7_pass 34 = .ok (.invokevirtual 165, 3) := by decide +kernel
theorem dX7_pass_37 : decode cX7_pass 37 = .ok (.istore_n 2, 1) := by decide +kernel
theorem dX7_pass_38 : decode cX7_pass 38 = .ok (.aload_n 0, 1) := by decide +kernel
theorem dX7_pass_39 : decode cX7_pass 39 = .ok (.dup, 1) := by decide +kernel
theorem dX7_pass_40 : decode cX7_pass 40 = .ok (.getfield 106, 3) := by decide +kernel
theorem dX7_pass_43 : decode cX7_pass 43 = .ok (.iload_n 1, 1) := by decide +kernel
theorem dX7_pass_44 : decode cX7_pass 44 = .ok (.iadd, 1) := by decide +kernel
theorem dX7_pass_45 : decode cX7_pass 45 = .ok (.putfield 106, 3) := by decide +kernel
theorem dX7_pass_48 : decode cX7_pass 48 = .ok (.aload_n 0, 1) := by decide +kernel
theorem dX7_pass_49 : decode cX7_pass 49 = .ok (.invokevirtual 165, 3) := by decide +kernel
theorem dX7_pass_52 : decode cX7_pass 52 = .ok (.iload_n 2, 1) := by decide +kernel
theorem dX7_pass_53 : decode cX7_pass 53 = .ok (.isub, 1) := by decide +kernel
theorem dX7_pass_54 : decode cX7_pass 54 = .ok (.ireturn, 1) := by decide +kernel
theorem dX7_day_0 : decode cX7_day 0 = .ok (.aload_n 0, 1) := by decide +kernel
theorem dX7_day_1 : decode cX7_day 1 = .ok (.getfield 106, 3) := by decide +kernel
theorem dX7_day_4 : decode cX7_day 4 = .ok (.ireturn, 1) := by decide +kernel
theorem dX7_late_0 : decode cX7_late 0 = .ok (.aload_n 0, 1) := by decide +kernel
theorem dX7_late_1 : decode cX7_late 1 = .ok (.invokevirtual 165, 3) := by decide +kernel
theorem dX7_late_4 : decode cX7_late 4 = .ok (.ireturn, 1) := by decide +kernel
theorem dX7_fees_0 : decode cX7_fees 0 = .ok (.aload_n 0, 1) := by decide +kernel
theorem dX7_fees_1 : decode cX7_fees 1 = .ok (.getfield 161, 3) := by decide +kernel
theorem dX7_fees_4 : decode cX7_fees 4 = .ok (.lreturn, 1) := by decide +kernel
theorem dX7_answeredShare_0 : decode cX7_answeredShare 0 = .ok (.iconst 0, 1) := by decide +kernel
theorem dX7_answeredShare_1 : decode cX7_answeredShare 1 = .ok (.istore_n 1, 1) := by decide +kernel
theorem dX7_answeredShare_2 : decode cX7_answeredShare 2 = .ok (.iconst 0, 1) := by decide +kernel
theorem dX7_answeredShare_3 : decode cX7_answeredShare 3 = .ok (.istore_n 2, 1) := by decide +kernel
theorem dX7_answeredShare_4 : decode cX7_answeredShare 4 = .ok (.iload_n 2, 1) := by decide +kernel
theorem dX7_answeredShare_5 : decode cX7_answeredShare 5 = .ok (.aload_n 0, 1) := by decide +kernel
theorem dX7_answeredShare_6 : decode cX7_answeredShare 6 = .ok (.getfield 155, 3) := by decide +kernel
theorem dX7_answeredShare_9 : decode cX7_answeredShare 9 = .ok (.if_icmp .ge 28, 3) := by decide +kernel
theorem dX7_answeredShare_12 : decode cX7_answeredShare 12 = .ok (.iload_n 1, 1) := by decide +kernel
theorem dX7_answeredShare_13 : decode cX7_answeredShare 13 = .ok (.aload_n 0, 1) := by decide +kernel
theorem dX7_answeredShare_14 : decode cX7_answeredShare 14 = .ok (.getfield 75, 3) := by decide +kernel
theorem dX7_answeredShare_17 : decode cX7_answeredShare 17 = .ok (.iload_n 2, 1) := by decide +kernel
theorem dX7_answeredShare_18 : decode cX7_answeredShare 18 = .ok (.caload, 1) := by decide +kernel
theorem dX7_answeredShare_19 : decode cX7_answeredShare 19 = .ok (.bipush 97, 2) := by decide +kernel
theorem dX7_answeredShare_21 : decode cX7_answeredShare 21 = .ok (.if_icmp .ne 7, 3) := by decide +kernel
theorem dX7_answeredShare_24 : decode cX7_answeredShare 24 = .ok (.iconst 1, 1) := by decide +kernel
theorem dX7_answeredShare_25 : decode cX7_answeredShare 25 = .ok (.goto 4, 3) := by decide +kernel
theorem dX7_answeredShare_28 : decode cX7_answeredShare 28 = .ok (.iconst 0, 1) := by decide +kernel
theorem dX7_answeredShare_29 : decode cX7_answeredShare 29 = .ok (.iadd, 1) := by decide +kernel
theorem dX7_answeredShare_30 : decode cX7_answeredShare 30 = .ok (.istore_n 1, 1) := by decide +kernel
theorem dX7_answeredShare_31 : decode cX7_answeredShare 31 = .ok (.iinc 2 1, 3) := by decide +kernel
theorem dX7_answeredShare_34 : decode cX7_answeredShare 34 = .ok (.goto (-30), 3) := by decide +kernel
theorem dX7_answeredShare_37 : decode cX7_answeredShare 37 = .ok (.aload_n 0, 1) := by decide +kernel
theorem dX7_answeredShare_38 : decode cX7_answeredShare 38 = .ok (.aload_n 0, 1) := by decide +kernel
theorem dX7_answeredShare_39 : decode cX7_answeredShare 39 = .ok (.getfield 155, 3) := by decide +kernel
theorem dX7_answeredShare_42 : decode cX7_answeredShare 42 = .ok (.ifCond .ne 7, 3) := by decide +kernel
theorem dX7_answeredShare_45 : decode cX7_answeredShare 45 = .ok (.iconst 1, 1) := by decide +kernel
theorem dX7_answeredShare_46 : decode cX7_answeredShare 46 = .ok (.goto 4, 3) := by decide +kernel
theorem dX7_answeredShare_49 : decode cX7_answeredShare 49 = .ok (.iconst 0, 1) := by decide +kernel
theorem dX7_answeredShare_50 : decode cX7_answeredShare 50 = .ok (.putfield 79, 3) := by decide +kernel
theorem dX7_answeredShare_53 : decode cX7_answeredShare 53 = .ok (.aload_n 0, 1) := by decide +kernel
theorem dX7_answeredShare_54 : decode cX7_answeredShare 54 = .ok (.getfield 155, 3) := by decide +kernel
theorem dX7_answeredShare_57 : decode cX7_answeredShare 57 = .ok (.ifCond .ne 7, 3) := by decide +kernel
theorem dX7_answeredShare_60 : decode cX7_answeredShare 60 = .ok (.fconst 0, 1) := by decide +kernel
theorem dX7_answeredShare_61 : decode cX7_answeredShare 61 = .ok (.goto 11, 3) := by decide +kernel
theorem dX7_answeredShare_64 : decode cX7_answeredShare 64 = .ok (.iload_n 1, 1) := by decide +kernel
theorem dX7_answeredShare_65 : decode cX7_answeredShare 65 = .ok (.i2f, 1) := by decide +kernel
theorem dX7_answeredShare_66 : decode cX7_answeredShare 66 = .ok (.aload_n 0, 1) := by decide +kernel
theorem dX7_answeredShare_67 : decode cX7_answeredShare 67 = .ok (.getfield 155, 3) := by decide +kernel
theorem dX7_answeredShare_70 : decode cX7_answeredShare 70 = .ok (.i2f, 1) := by decide +kernel
theorem dX7_answeredShare_71 : decode cX7_answeredShare 71 = .ok (.fdiv, 1) := by decide +kernel
theorem dX7_answeredShare_72 : decode cX7_answeredShare 72 = .ok (.freturn, 1) := by decide +kernel
end
section
section VXA
def vy_Q (Qc : Array Value → State → Outcome → State → Prop) (XC : String → State → State → Prop) (mc ms : Nat) (free : Addr → Prop) : Array Value → State → Outcome → State → Prop := fun a st o t =>
  (Qc a st o t ∧ ∃ L, FrameEnd st o t L 0 0 ∧ ∀ q ∈ L, free q.base) ∨ ∃ q, o = .threw q ∧ vx_T XC st q t mc ms free
def vy_Met (l : Launch) (y : MethodName) (ws : List Cond) (rm : Room) (Pc : Array Value → State → Prop) (Qc : Array Value → State → Outcome → State → Prop) (XC : String → State → State → Prop) (mc ms : Nat) (free : Addr → Prop) : Prop :=
  MetFree l y (headSpec ws rm) Pc (fun _ _ _ _ _ => True) (vy_Q Qc XC mc ms free)
section Payer
variable {l : Launch} {R : Room} {p : Program} {e : Env} {below : List Frame} {s : State} {sargs : Array Value} {y : MethodName} {len W9 : Nat}
theorem vy_back {ws : List Cond} {rm : Room} {Pc : Array Value → State → Prop} {Qc : Array Value → State → Outcome → State → Prop} {XC : String → State → State → Prop} {mc ms : Nat} {free : Addr → Prop} {bytes : ByteArray} {maxL : Nat} {ret : Option FieldType}
    (hM : vy_Met l y ws rm Pc Qc XC mc ms free) (hblind : FrameBlind Pc) (hrc : rm.cells = mc) (hrs : rm.slots = ms)
    (hframes : rm.frames + 1 ≤ R.frames) (hlocals : W9 + (maxL + 11) + rm.locals ≤ R.locals)
    (hws : ∀ w ∈ ws, ∀ a' U, s.WarmedH U.vm → w.before a' U = true) (hcode : Cond.code y bytes maxL ret ∈ ws) (hinit : ∀ a' U, s.WarmedH U.vm → (Cond.initialized y.cls).before a' U = true) :
    vx_Back l R p e below s sargs y len W9 (PreOf R mc ms Pc) (PostOf Qc 0 0 free) (vx_Post XC mc ms free) := by
  intro m meth c A g ig mk a X hg hsize hdg hW hn hp
  have h1 : (headSpec ws rm).pre.before a A.U = true := atoms_intro fun w hw => hws w hw _ _ X.warmed
  have h2 : (Cond.code y bytes maxL ret).before a A.U = true := hws _ hcode _ _ X.warmed
  have h3 : (Cond.initialized y.cls).before a A.U = true := hinit _ _ X.warmed
  have h4 : A.cells + (headSpec ws rm).room.cells ≤ R.cells := by rw [show (headSpec ws rm).room.cells = mc from hrc]; exact hp.1
  have h5 : A.slots + (headSpec ws rm).room.slots ≤ R.slots := by rw [show (headSpec ws rm).room.slots = ms from hrs]; exact hp.2.1
  have hPc : Pc a (A.U.calling g mk a) := hblind _ _ _ _ hp.2.2
  obtain ⟨U, Ls, c0, s0⟩ := A
  dsimp only [Pt.U, Pt.locs, Pt.cells, Pt.slots] at h1 h2 h3 h4 h5 X hn hPc ⊢
  obtain ⟨methY, cY, hmY, hcY, -, hlY, -, -, -, -⟩ := Cond.code_spec hn h2
  obtain ⟨kY, hkY, -⟩ := className_of_methodNamed hn
  have hinitY : kY.init = .initialized := Cond.initialized_spec (findClass_of_methodNamed hn) hkY h3
  have h : At U g.method c below := by rw [hg]; exact X.here
  have hlocals9 : W9 + (maxL + 11) + (headSpec ws rm).room.locals ≤ R.locals := hlocals
  have happ : (headSpec ws rm).appliesLoose y e.platform (U.calling g mk a) = true :=
    Spec.appliesLoose_calling (g := g) h hdg hn hkY hinitY
      (X.room_calling (g := g) (R' := (headSpec ws rm).room) hsize hmY hcY hframes (by rw [hlY]; omega) h4 h5) h1
  obtain ⟨mid, hmid⟩ := h.above
  have hfr : (U.setTop g).frames = (.java g :: mid) ++ below := by rw [State.frames_setTop' g h.top, hmid]; rfl
  obtain ⟨o, s₂, hsteps, -, hend, hq⟩ := Steps.callFree hM p X.admits X.cas X.clock (acts := []) hfr happ hPc trivial
  have hq' : vy_Q Qc XC mc ms free a (U.calling g mk a) o s₂ := hq
  rw [State.frames_setTop' g h.top] at hend
  obtain ⟨g₀, hg0⟩ := Option.isSome_iff_exists.mp h.top
  obtain ⟨r, hr⟩ := State.topJava?_eq_some.mp hg0
  have hr' : (({ U with heap := s₂.heap, slotsUsed := s₂.slotsUsed } : State).setVm s₂.vm).frames = .java g₀ :: r := hr
  rcases hq' with ⟨hqc, L, hfe, hL⟩ | ⟨q, rfl, E, ce, L, hx, hce, hcv, hcl, hW₂, hsm, hL⟩
  · obtain ⟨⟨v, rfl⟩, hW₂, e2, q2, q3, q4, q5, q6⟩ := id hfe
    have e3 : s₂ = ({ (U.calling g mk a).setFrames s₂.frames with heap := s₂.heap, slotsUsed := s₂.slotsUsed } : State).setVm s₂.vm := by
      have : s₂ = ({ s₂ with vm := (U.calling g mk a).vm } : State).setVm s₂.vm := rfl
      rw [e2] at this
      exact this
    obtain ⟨c₂, i₂, len₂, hc₂, hd₂, hf₂⟩ := hend
    have hW' : U.WarmedH s₂.vm := hW₂
    have hcc : c₂ = c := by
      have h1 : s₂.code? g.method = U.code? g.method := by
        rw [State.code?_eq, State.code?_eq, hW'.alike.method?]
      exact Option.some.inj (hc₂.symm.trans (h1.trans h.code))
    subst hcc
    have hlen : len₂ = len := by rw [hdg] at hd₂; cases hd₂; rfl
    subst hlen
    have hs₂ : s₂ = (({ U with heap := s₂.heap, slotsUsed := s₂.slotsUsed } : State).setVm s₂.vm).setTop { g with pc := g.pc + len₂, stack := v.toList ++ g.stack } := by
      refine e3.trans ?_
      rw [hf₂, State.calling_eq h.top, State.setFrames_setFrames, State.setTop_of_frames _ hr', hr]
      rfl
    have hsame : U.sameButNew ({ U with heap := s₂.heap, slotsUsed := s₂.slotsUsed } : State) L 0 0 := by
      refine ⟨?_, q2, q3, q4, q5, q6⟩
      obtain ⟨t, ht, -⟩ := State.frames_cons hr
      show ({ U with heap := s₂.heap, slotsUsed := s₂.slotsUsed } : State) = { U.setFrames U.frames with heap := s₂.heap, slotsUsed := s₂.slotsUsed }
      rw [State.setFrames_self ht]
    subst hg
    refine Or.inl ⟨v, ⟨(({ U with heap := s₂.heap, slotsUsed := s₂.slotsUsed } : State).setVm s₂.vm), Ls ++ L, c0 + 0, s0 + 0⟩,
      ⟨X.admits, X.cas, X.clock, X.frames, X.room, X.hears, X.method, X.code, (X.here.setHeapUsed s₂.heap s₂.slotsUsed).setVm hW'.alike, X.tail, State.WarmedH.trans X.warmed hW', X.limits, X.bytes, X.same.trans (hsame.setVm s.vm)⟩,
      ⟨g, mk, s₂, L, rfl, rfl, hqc, rfl, hL, rfl, rfl⟩, ?_⟩
    show Steps p.tables e below _ ((({ U with heap := s₂.heap, slotsUsed := s₂.slotsUsed } : State).setVm s₂.vm).setTop { g with pc := g.pc + len₂, stack := v.toList ++ g.stack })
    rw [← hs₂]
    exact hsteps
  · obtain ⟨e2, q2, q3, q4, q5, q6⟩ := id hsm
    have e3 : s₂ = ({ (U.calling g mk a).setFrames s₂.frames with heap := s₂.heap, slotsUsed := s₂.slotsUsed } : State).setVm s₂.vm := by
      have : s₂ = ({ s₂ with vm := (U.calling g mk a).vm } : State).setVm s₂.vm := rfl
      rw [e2] at this
      exact this
    have hf₂ : s₂.frames = .throwing q :: .java g :: U.frames.tail := hend
    have hW' : U.WarmedH s₂.vm := hW₂
    have hs₂ : s₂ = ((({ U with heap := s₂.heap, slotsUsed := s₂.slotsUsed } : State).setVm s₂.vm).setTop g).pushFrame (.throwing q) := by
      refine e3.trans ?_
      rw [hf₂, State.calling_eq h.top, State.setFrames_setFrames, State.pushFrame, State.frames_setTop _ hr', State.setTop_of_frames _ hr', State.setFrames_setFrames, hr]
      rfl
    have hsame : U.sameButNew ({ U with heap := s₂.heap, slotsUsed := s₂.slotsUsed } : State) L mc ms := by
      refine ⟨?_, q2, q3, q4, q5, q6⟩
      obtain ⟨t, ht, -⟩ := State.frames_cons hr
      show ({ U with heap := s₂.heap, slotsUsed := s₂.slotsUsed } : State) = { U.setFrames U.frames with heap := s₂.heap, slotsUsed := s₂.slotsUsed }
      rw [State.setFrames_self ht]
    subst hg
    refine Or.inr ⟨q, ⟨(({ U with heap := s₂.heap, slotsUsed := s₂.slotsUsed } : State).setVm s₂.vm), Ls ++ L, c0 + mc, s0 + ms⟩,
      ⟨X.admits, X.cas, X.clock, X.frames, X.room, X.hears, X.method, X.code, (X.here.setHeapUsed s₂.heap s₂.slotsUsed).setVm hW'.alike, X.tail, State.WarmedH.trans X.warmed hW', X.limits, X.bytes, X.same.trans (hsame.setVm s.vm)⟩,
      ⟨g, mk, s₂, L, E, ce, rfl, rfl, hx, hce, hcv, hcl, rfl, hL, rfl, rfl⟩, ?_⟩
    show Steps p.tables e below _ (((({ U with heap := s₂.heap, slotsUsed := s₂.slotsUsed } : State).setVm s₂.vm).setTop g).pushFrame (.throwing q))
    rw [← hs₂]
    exact hsteps
end Payer
section Calls
variable {p : Program} {l : Launch} {e : Env} {R : Room} {s : State} {m : MethodId} {args : Array Value} {below : List Frame} {meth : Method} {c : Code} {T : State} {locs : List Loc} {cells slots : Nat}
end Calls
def vy_Run (p : Program) (l : Launch) (e : Env) (R : Room) (s : State) (m : MethodId) (args : Array Value) (below : List Frame) (meth : Method) (c : Code) (H : Heap) (locs : List Loc) (cells slots mc ms : Nat) (g : JFrame) (rest : List Value) (Qa : State → Outcome → State → Prop) (XC : String → State → State → Prop) (free : Addr → Prop) : Prop :=
  ∀ T : State, T.heap = H → Stand p l e R s m args below meth c T locs cells slots →
    (∃ (v : Option Value) (st₀ t T' : State) (L : List Loc), st₀.heap = H ∧ Stand p l e R s m args below meth c T' (locs ++ L) cells slots ∧ (∀ q ∈ L, free q.base) ∧ T'.heap = t.heap ∧ T'.vm = t.vm ∧ Qa st₀ (.returned v) t ∧
      Goes p e below T g T' { g with pc := g.pc + 3, stack := v.toList ++ rest }) ∨
    (∃ (q : Addr) (st₀ t T' : State) (L : List Loc) (E : String) (ce : Cell), st₀.heap = H ∧ Stand p l e R s m args below meth c T' (locs ++ L) (cells + mc) (slots + ms) ∧ (∀ z ∈ L, free z.base) ∧ T'.heap = t.heap ∧ T'.vm = t.vm ∧ XC E st₀ t ∧ t.heap[q]? = some ce ∧ ce.vm = .none ∧ s.vm.findClass E = some ce.cls ∧
      Steps p.tables e below (T.setTop g) ((T'.setTop { g with stack := rest }).pushFrame (.throwing q)))
section Runs
variable {p : Program} {l : Launch} {e : Env} {R : Room} {s : State} {m : MethodId} {args : Array Value} {below : List Frame} {meth : Method} {c : Code} {H : Heap} {locs : List Loc} {cells slots : Nat}
variable {y : MethodName} {bytes cc : ByteArray} {maxL nL mc ms n index : Nat} {ret : Option FieldType} {ws : List Cond} {rm : Room} {Pc : Array Value → State → Prop} {Qc : Array Value → State → Outcome → State → Prop} {XC : String → State → State → Prop} {free : Addr → Prop} {Ts : List Cond} {own C : String} {b : Addr} {As rest : List Value} {g : JFrame}
theorem vy_callBack (cb : CallB R s args own index y bytes maxL ret ws rm mc ms n) (hM : vy_Met l y ws rm Pc Qc XC mc ms free) (hbl : FrameBlind Pc) : vx_Back l R p e below s args y 3 8 (PreOf R mc ms Pc) (PostOf Qc 0 0 free) (vx_Post XC mc ms free) := by
  obtain ⟨hrc, hrs, hfr, hlo, hws, hcw, -, hini, -⟩ := cb
  exact vy_back (bytes := bytes) (maxL := maxL) (ret := ret) hM hbl hrc hrs hfr hlo hws hcw (fun a' U hW => word_at hW (Or.inl (by first | rfl | simp [Cond.onTables, Cond.keeps, Cond.steady])) hini)
theorem vy_runV (S : CallFix p m c cc nL s args Ts own) (hM : vy_Met l y ws rm Pc Qc XC mc ms free) (cw : CallW R s args own C index y bytes maxL ret ws rm mc ms n) (hp : PreV s H C b Pc As)
    (hg : g.method = m) (hn : As.length = n) (hsize : g.locals.size = nL) (hstack : g.stack = As.reverse ++ .ref b :: rest) (hW : 2 * g.monitorRoom + (rest.map fun v => v.category).sum ≤ 8) (hdg : decode cc g.pc = .ok (.invokevirtual index, 3)) (hf : cells + mc ≤ R.cells ∧ slots + ms ≤ R.slots) :
    vy_Run p l e R s m args below meth c H locs cells slots mc ms g rest (Qc (Value.ref b :: As).toArray) XC free := by
  have hK : vx_Back l R p e below s args y 3 8 (PreOf R mc ms Pc) (PostOf Qc 0 0 free) (vx_Post XC mc ms free) := vy_callBack cw.1 hM hp.1
  obtain ⟨⟨-, -, -, -, -, -, hcode, -, hy, hlen, hl⟩, hin, hse⟩ := cw
  obtain ⟨hx, hb, hml, ho, -⟩ := S
  obtain ⟨-, ⟨cellB, hcB, hoB, hclB⟩, hPc⟩ := hp
  intro T hT X
  rcases vx_callV X hx (C := C) (bytes := bytes) (maxL := maxL) (ret := ret) ho hl hin hse hcode hy hK (by rw [hT]; exact hcB) hoB hclB hg (hsize.trans hml.symm) (argsL := As) (rest := rest) (fun sig h => hn.trans (hlen sig h)) hstack hW (by rw [hb]; exact hdg)
    (fun vm₁ hW₁ => ⟨hf.1, hf.2, hPc (T.setVm vm₁) hT hW₁⟩) with ⟨v, vm₁, ⟨U', l2, c2, s2⟩, hW₁, X', ⟨g', mk, t, L, e1, e2, hq, h1, hL, h2, h3⟩, st⟩ | ⟨q, vm₁, ⟨U', l2, c2, s2⟩, hW₁, X', ⟨g', mk, t, L, E, ce, e1, e2, hq, hce, hcv, hcl, h1, hL, h2, h3⟩, st⟩
  · dsimp only [Pt.U, Pt.locs, Pt.cells, Pt.slots] at X' e1 e2 h1 h2 h3 st
    subst h1; subst h2; subst h3
    exact Or.inl ⟨v, (T.setVm vm₁).calling g' mk (Value.ref b :: As).toArray, t, U', L, hT, X', hL, e1, e2, hq, st⟩
  · dsimp only [Pt.U, Pt.locs, Pt.cells, Pt.slots] at X' e1 e2 h1 h2 h3 st hcl
    subst h1; subst h2; subst h3
    exact Or.inr ⟨q, (T.setVm vm₁).calling g' mk (Value.ref b :: As).toArray, t, U', L, E, ce, hT, X', hL, e1, e2, hq, hce, hcv, vx_cls hW₁ hcl, st⟩
theorem vy_runS (S : CallFix p m c cc nL s args Ts own) (hM : vy_Met l y ws rm Pc Qc XC mc ms free) (cw : CallB R s args own index y bytes maxL ret ws rm mc ms n ∧ (Cond.static y).before args s = true) (hp : PreS s H Pc As)
    (hg : g.method = m) (hn : As.length = n) (hsize : g.locals.size = nL) (hstack : g.stack = As.reverse ++ rest) (hW : 2 * g.monitorRoom + (rest.map fun v => v.category).sum ≤ 8) (hdg : decode cc g.pc = .ok (.invokestatic index, 3)) (hf : cells + mc ≤ R.cells ∧ slots + ms ≤ R.slots) :
    vy_Run p l e R s m args below meth c H locs cells slots mc ms g rest (Qc As.toArray) XC free := by
  have hK : vx_Back l R p e below s args y 3 8 (PreOf R mc ms Pc) (PostOf Qc 0 0 free) (vx_Post XC mc ms free) := vy_callBack cw.1 hM hp.1
  obtain ⟨⟨-, -, -, -, -, -, hcode, hini, hy, hlen, hl⟩, hstt⟩ := cw
  obtain ⟨hx, hb, hml, ho, -⟩ := S
  intro T hT X
  rcases vx_callS X hx (bytes := bytes) (maxL := maxL) (ret := ret) ho hl hstt hini hcode hy hK hg (hsize.trans hml.symm) (argsL := As) (rest := rest) (fun sig h => hn.trans (hlen sig h)) hstack hW (by rw [hb]; exact hdg)
    (fun vm₁ hW₁ => ⟨hf.1, hf.2, hp.2 (T.setVm vm₁) hT hW₁⟩) with ⟨v, vm₁, ⟨U', l2, c2, s2⟩, hW₁, X', ⟨g', mk, t, L, e1, e2, hq, h1, hL, h2, h3⟩, st⟩ | ⟨q, vm₁, ⟨U', l2, c2, s2⟩, hW₁, X', ⟨g', mk, t, L, E, ce, e1, e2, hq, hce, hcv, hcl, h1, hL, h2, h3⟩, st⟩
  · dsimp only [Pt.U, Pt.locs, Pt.cells, Pt.slots] at X' e1 e2 h1 h2 h3 st
    subst h1; subst h2; subst h3
    exact Or.inl ⟨v, (T.setVm vm₁).calling g' mk As.toArray, t, U', L, hT, X', hL, e1, e2, hq, st⟩
  · dsimp only [Pt.U, Pt.locs, Pt.cells, Pt.slots] at X' e1 e2 h1 h2 h3 st hcl
    subst h1; subst h2; subst h3
    exact Or.inr ⟨q, (T.setVm vm₁).calling g' mk As.toArray, t, U', L, E, ce, hT, X', hL, e1, e2, hq, hce, hcv, vx_cls hW₁ hcl, st⟩
end Runs
section Rows
variable {p : Program} {l : Launch} {e : Env} {R : Room} {s : State} {m : MethodId} {args : Array Value} {below : List Frame} {meth : Method} {c : Code} {H : Heap} {locs : List Loc} {cells slots : Nat} {Q : State → Prop}
variable {mc ms : Nat} {free : Addr → Prop} {A0 A1 : Nat → Prop} {H0 : Heap} {a : Array Value} {pc : Nat} {ls : Array Slot} {st0 rest : List Value}
theorem vy_calli {S SX : Type} {post : Int32 → S → Prop} {px : SX → Prop} {B : S → State → Prop} {BX : String → SX → State → Prop} {AX : Nat → Prop} (hr : vy_Run p l e R s m args below meth c H locs cells slots mc ms (F0 m pc ls st0) rest (va_Qi post B A1 a) (vx_X px BX AX) free) (hS : va_S A0 H0 H locs) (hA : ∀ q, q < H.size → A1 q → A0 q) (hf : ∀ q, free q → A0 q) (hAX : ∀ q, q < H.size → AX q → A0 q)
    (kx : ∀ (E : String) (ce : Cell) (q9 : Addr) (u : SX) (t : State) (H1 : Heap) (locs1 : List Loc), t.heap = H1 → s.vm.Alike t.vm → px u → BX E u t → H.size ≤ H1.size → (∀ q : Nat, q < H.size → ¬ AX q → H1[q]? = H[q]?) → va_S A0 H0 H1 locs1 → H1[q9]? = some ce → ce.vm = .none → s.vm.findClass E = some ce.cls → vx_W p l e R s m args below meth c H1 locs1 (cells + mc) (slots + ms) Q (F0 m pc ls rest) q9)
    (kk : ∀ (r : Int32) (u : S) (t : State) (H1 : Heap) (locs1 : List Loc), t.heap = H1 → s.vm.Alike t.vm → post r u → B u t → H.size ≤ H1.size → (∀ q : Nat, q < H.size → ¬ A1 q → H1[q]? = H[q]?) → va_S A0 H0 H1 locs1 → W p l e R s m args below meth c H1 locs1 cells slots Q (F0 m (pc + 3) ls (.int r :: rest))) : W p l e R s m args below meth c H locs cells slots Q (F0 m pc ls st0) := by
  intro T hT X
  rcases hr T hT X with ⟨v, st₀, t, T', L, h0, X', hL, e1, e2, ⟨⟨r, u, hv, hp, hb⟩, hF⟩, st⟩ | ⟨q, st₀, t, T', L, E, ce, h0, X', hL, e1, e2, ⟨u, hp, hb, hF⟩, hce, hcv, hcl, st⟩
  · cases hv
    obtain ⟨k1, k2, k3⟩ := vx_keep h0 e1 hS hA hf hL hF
    obtain ⟨t2, a1, b1⟩ := kk r u t T'.heap (locs ++ L) e1.symm (by rw [← e2]; exact X'.warmed.alike) hp hb k1 k2 k3 T' rfl X'
    exact ⟨t2, st t2 a1, b1⟩
  · obtain ⟨k1, k2, k3⟩ := vx_keep h0 e1 hS hAX hf hL hF
    obtain ⟨t2, a1, b1⟩ := kx E ce q u t T'.heap (locs ++ L) e1.symm (by rw [← e2]; exact X'.warmed.alike) hp hb k1 k2 k3 (by rw [e1]; exact hce) hcv hcl T' rfl X'
    exact ⟨t2, st.trans a1, b1⟩
theorem vy_calll {S SX : Type} {post : Int64 → S → Prop} {px : SX → Prop} {B : S → State → Prop} {BX : String → SX → State → Prop} {AX : Nat → Prop} (hr : vy_Run p l e R s m args below meth c H locs cells slots mc ms (F0 m pc ls st0) rest (va_Ql post B A1 a) (vx_X px BX AX) free) (hS : va_S A0 H0 H locs) (hA : ∀ q, q < H.size → A1 q → A0 q) (hf : ∀ q, free q → A0 q) (hAX : ∀ q, q < H.size → AX q → A0 q)
    (kx : ∀ (E : String) (ce : Cell) (q9 : Addr) (u : SX) (t : State) (H1 : Heap) (locs1 : List Loc), t.heap = H1 → s.vm.Alike t.vm → px u → BX E u t → H.size ≤ H1.size → (∀ q : Nat, q < H.size → ¬ AX q → H1[q]? = H[q]?) → va_S A0 H0 H1 locs1 → H1[q9]? = some ce → ce.vm = .none → s.vm.findClass E = some ce.cls → vx_W p l e R s m args below meth c H1 locs1 (cells + mc) (slots + ms) Q (F0 m pc ls rest) q9)
    (kk : ∀ (r : Int64) (u : S) (t : State) (H1 : Heap) (locs1 : List Loc), t.heap = H1 → s.vm.Alike t.vm → post r u → B u t → H.size ≤ H1.size → (∀ q : Nat, q < H.size → ¬ A1 q → H1[q]? = H[q]?) → va_S A0 H0 H1 locs1 → W p l e R s m args below meth c H1 locs1 cells slots Q (F0 m (pc + 3) ls (.long r :: rest))) : W p l e R s m args below meth c H locs cells slots Q (F0 m pc ls st0) := by
  intro T hT X
  rcases hr T hT X with ⟨v, st₀, t, T', L, h0, X', hL, e1, e2, ⟨⟨r, u, hv, hp, hb⟩, hF⟩, st⟩ | ⟨q, st₀, t, T', L, E, ce, h0, X', hL, e1, e2, ⟨u, hp, hb, hF⟩, hce, hcv, hcl, st⟩
  · cases hv
    obtain ⟨k1, k2, k3⟩ := vx_keep h0 e1 hS hA hf hL hF
    obtain ⟨t2, a1, b1⟩ := kk r u t T'.heap (locs ++ L) e1.symm (by rw [← e2]; exact X'.warmed.alike) hp hb k1 k2 k3 T' rfl X'
    exact ⟨t2, st t2 a1, b1⟩
  · obtain ⟨k1, k2, k3⟩ := vx_keep h0 e1 hS hAX hf hL hF
    obtain ⟨t2, a1, b1⟩ := kx E ce q u t T'.heap (locs ++ L) e1.symm (by rw [← e2]; exact X'.warmed.alike) hp hb k1 k2 k3 (by rw [e1]; exact hce) hcv hcl T' rfl X'
    exact ⟨t2, st.trans a1, b1⟩
theorem vy_callf {S SX : Type} {post : UInt32 → S → Prop} {px : SX → Prop} {B : S → State → Prop} {BX : String → SX → State → Prop} {AX : Nat → Prop} (hr : vy_Run p l e R s m args below meth c H locs cells slots mc ms (F0 m pc ls st0) rest (va_Qf post B A1 a) (vx_X px BX AX) free) (hS : va_S A0 H0 H locs) (hA : ∀ q, q < H.size → A1 q → A0 q) (hf : ∀ q, free q → A0 q) (hAX : ∀ q, q < H.size → AX q → A0 q)
    (kx : ∀ (E : String) (ce : Cell) (q9 : Addr) (u : SX) (t : State) (H1 : Heap) (locs1 : List Loc), t.heap = H1 → s.vm.Alike t.vm → px u → BX E u t → H.size ≤ H1.size → (∀ q : Nat, q < H.size → ¬ AX q → H1[q]? = H[q]?) → va_S A0 H0 H1 locs1 → H1[q9]? = some ce → ce.vm = .none → s.vm.findClass E = some ce.cls → vx_W p l e R s m args below meth c H1 locs1 (cells + mc) (slots + ms) Q (F0 m pc ls rest) q9)
    (kk : ∀ (r : UInt32) (u : S) (t : State) (H1 : Heap) (locs1 : List Loc), t.heap = H1 → s.vm.Alike t.vm → post r u → B u t → H.size ≤ H1.size → (∀ q : Nat, q < H.size → ¬ A1 q → H1[q]? = H[q]?) → va_S A0 H0 H1 locs1 → W p l e R s m args below meth c H1 locs1 cells slots Q (F0 m (pc + 3) ls (.float r :: rest))) : W p l e R s m args below meth c H locs cells slots Q (F0 m pc ls st0) := by
  intro T hT X
  rcases hr T hT X with ⟨v, st₀, t, T', L, h0, X', hL, e1, e2, ⟨⟨r, u, hv, hp, hb⟩, hF⟩, st⟩ | ⟨q, st₀, t, T', L, E, ce, h0, X', hL, e1, e2, ⟨u, hp, hb, hF⟩, hce, hcv, hcl, st⟩
  · cases hv
    obtain ⟨k1, k2, k3⟩ := vx_keep h0 e1 hS hA hf hL hF
    obtain ⟨t2, a1, b1⟩ := kk r u t T'.heap (locs ++ L) e1.symm (by rw [← e2]; exact X'.warmed.alike) hp hb k1 k2 k3 T' rfl X'
    exact ⟨t2, st t2 a1, b1⟩
  · obtain ⟨k1, k2, k3⟩ := vx_keep h0 e1 hS hAX hf hL hF
    obtain ⟨t2, a1, b1⟩ := kx E ce q u t T'.heap (locs ++ L) e1.symm (by rw [← e2]; exact X'.warmed.alike) hp hb k1 k2 k3 (by rw [e1]; exact hce) hcv hcl T' rfl X'
    exact ⟨t2, st.trans a1, b1⟩
theorem vy_callv {S SX : Type} {post : S → Prop} {px : SX → Prop} {B : S → State → Prop} {BX : String → SX → State → Prop} {AX : Nat → Prop} (hr : vy_Run p l e R s m args below meth c H locs cells slots mc ms (F0 m pc ls st0) rest (va_Qv post B A1 a) (vx_X px BX AX) free) (hS : va_S A0 H0 H locs) (hA : ∀ q, q < H.size → A1 q → A0 q) (hf : ∀ q, free q → A0 q) (hAX : ∀ q, q < H.size → AX q → A0 q)
    (kx : ∀ (E : String) (ce : Cell) (q9 : Addr) (u : SX) (t : State) (H1 : Heap) (locs1 : List Loc), t.heap = H1 → s.vm.Alike t.vm → px u → BX E u t → H.size ≤ H1.size → (∀ q : Nat, q < H.size → ¬ AX q → H1[q]? = H[q]?) → va_S A0 H0 H1 locs1 → H1[q9]? = some ce → ce.vm = .none → s.vm.findClass E = some ce.cls → vx_W p l e R s m args below meth c H1 locs1 (cells + mc) (slots + ms) Q (F0 m pc ls rest) q9)
    (kk : ∀ (u : S) (t : State) (H1 : Heap) (locs1 : List Loc), t.heap = H1 → s.vm.Alike t.vm → post u → B u t → H.size ≤ H1.size → (∀ q : Nat, q < H.size → ¬ A1 q → H1[q]? = H[q]?) → va_S A0 H0 H1 locs1 → W p l e R s m args below meth c H1 locs1 cells slots Q (F0 m (pc + 3) ls (rest))) : W p l e R s m args below meth c H locs cells slots Q (F0 m pc ls st0) := by
  intro T hT X
  rcases hr T hT X with ⟨v, st₀, t, T', L, h0, X', hL, e1, e2, ⟨⟨u, hv, hp, hb⟩, hF⟩, st⟩ | ⟨q, st₀, t, T', L, E, ce, h0, X', hL, e1, e2, ⟨u, hp, hb, hF⟩, hce, hcv, hcl, st⟩
  · cases hv
    obtain ⟨k1, k2, k3⟩ := vx_keep h0 e1 hS hA hf hL hF
    obtain ⟨t2, a1, b1⟩ := kk u t T'.heap (locs ++ L) e1.symm (by rw [← e2]; exact X'.warmed.alike) hp hb k1 k2 k3 T' rfl X'
    exact ⟨t2, st t2 a1, b1⟩
  · obtain ⟨k1, k2, k3⟩ := vx_keep h0 e1 hS hAX hf hL hF
    obtain ⟨t2, a1, b1⟩ := kx E ce q u t T'.heap (locs ++ L) e1.symm (by rw [← e2]; exact X'.warmed.alike) hp hb k1 k2 k3 (by rw [e1]; exact hce) hcv hcl T' rfl X'
    exact ⟨t2, st.trans a1, b1⟩
end Rows
section Ends
variable {p : Program} {l : Launch} {e : Env} {R : Room} {s : State} {m : MethodId} {args : Array Value} {below : List Frame} {meth : Method} {c : Code} {H : Heap} {locs : List Loc} {cells slots : Nat} {Q : State → Prop}
variable {mc ms : Nat} {free : Addr → Prop} {A0 A1 : Nat → Prop} {H0 : Heap} {a : Array Value} {ls : Array Slot} {st0 rest : List Value}
variable {Qc : Array Value → State → Outcome → State → Prop} {XC : String → State → State → Prop}
def vy_MQ (below : List Frame) (Qc : Array Value → State → Outcome → State → Prop) (XC : String → State → State → Prop) (a : Array Value) (s : State) (mc ms : Nat) (free : Addr → Prop) : State → Prop := fun t =>
  ∃ o, t.status = .running ∧ Ended t below o ∧ vy_Q Qc XC mc ms free a s o t
theorem vy_ret {g : JFrame} {mc ms : Nat} (k : W p l e R s m args below meth c H locs cells slots (MQ below Qc args s 0 0 free) g) : W p l e R s m args below meth c H locs cells slots (vy_MQ below Qc XC args s mc ms free) g := by
  intro T hT X
  obtain ⟨t, a1, o, b1, b2, b3, b4⟩ := k T hT X
  exact ⟨t, a1, o, b1, b2, Or.inl ⟨b3, b4⟩⟩
theorem vy_out {pc : Nat} {E : String} {ce : Cell} {q : Addr} {mc ms : Nat} (hout : ∀ x ∈ c.exceptionTable.toList, covers x pc = false) (hlocks : meth.locks = false) (hcell : H[q]? = some ce) (hv : ce.vm = .none) (hcl : s.vm.findClass E = some ce.cls)
    (hx : ∀ t : State, t.heap = H → s.vm.Alike t.vm → XC E s t) (hf : ∀ z ∈ locs, free z.base) (hc : cells ≤ mc) (hs : slots ≤ ms) :
    vx_W p l e R s m args below meth c H locs cells slots (vy_MQ below Qc XC args s mc ms free) (F0 m pc ls rest) q := by
  intro T hT X
  obtain ⟨st1, hrun, hend, hW, hsm⟩ := X.leaveThrown q (g := F0 m pc ls rest) rfl rfl rfl hout hlocks
  have hcell9 : (T.setFrames (.throwing q :: below)).heap[q]? = some ce := by
    show T.heap[q]? = some ce
    rw [hT]; exact hcell
  exact ⟨_, st1, .threw q, hrun, hend, Or.inr ⟨q, rfl, E, ce, locs, hx _ hT hW.alike, hcell9, hv, hcl, hW, hsm.mono hc hs, hf⟩⟩
theorem vy_throwS {cc : ByteArray} {pc : Nat} (hexec : p.tables.exec = Jvm.exec) (hb : c.code = cc) (hl : l.stackTraces = false) {own cls text : String} {names : List String} {ik is ic mc ms sa : Nat} {A : Nat → Prop}
    (hown : s.vm.findClass own = some m.cls) (hcls : Bundle.fit cls = true) (hnames : ∀ n ∈ names, Bundle.fit n = true)
    (hk : (Cond.classLink own ik cls).before args s = true) (hini : (Cond.initialized cls).before args s = true) (hstr : vk_R own is text sa s) (hat : ∀ w ∈ vx_atS own ic cls names, w.before args s = true)
    (hgood : ∀ w ∈ Cond.classLink own ik cls :: Cond.initialized cls :: vx_atS own ic cls names, vx_ot w = true)
    (hU : vx_Zq Bundle.tN "UNASSIGNED_STACK" Bundle.steD A s s.heap) (hN : vx_Zq Bundle.tN "SUPPRESSED_SENTINEL" Bundle.listD A s s.heap) (hS : va_S A s.heap H locs) (hsize : ls.size = c.maxLocals)
    (d0 : decode cc pc = .ok (.new ik, 3)) (d3 : decode cc (pc + 3) = .ok (.dup, 1)) (d4 : decode cc (pc + 4) = .ok (.ldc is, 2)) (d6 : decode cc (pc + 6) = .ok (.invokespecial ic, 3)) (d9 : decode cc (pc + 9) = .ok (.athrow, 1))
    (hout : ∀ x ∈ c.exceptionTable.toList, covers x (pc + 9) = false)
    (hRframes : names.length + 3 < R.frames) (hRlocals : (rest.map fun v => v.category).sum + (13 * (names.length + 1) + 43) ≤ R.locals) (hRcells : cells + 1 ≤ R.cells) (hRslots : slots + 6 ≤ R.slots) (hlocks : meth.locks = false)
    (hx : ∀ t : State, s.vm.Alike t.vm → H.size ≤ t.heap.size → (∀ q : Nat, q < H.size → t.heap[q]? = H[q]?) → XC cls s t)
    (hf : ∀ z ∈ locs, free z.base) (hc : cells + 1 ≤ mc) (hs : slots + 6 ≤ ms) :
    W p l e R s m args below meth c H locs cells slots (vy_MQ below Qc XC args s mc ms free) (F0 m pc ls rest) := by
  intro T hT X
  have htr : e.platform.stackTraces = false := (show e.platform.stackTraces = l.stackTraces by rw [X.admits.platform]).trans hl
  have Y := vx_rebase X (R' := { frames := R.frames, locals := R.locals, cells := 1, slots := 6 }) (Nat.le_refl _) (Nat.le_refl _) hRcells hRslots
  obtain ⟨s', hA⟩ : ∃ z, z = (T.setVm s.vm).setFrames (.invoking m args :: below) := ⟨_, rfl⟩
  rw [← hA] at Y
  have hvm : s'.vm = s.vm := by rw [hA]; rfl
  have hhp : s'.heap = H := by rw [hA]; exact hT
  have hW0 : s.WarmedH s'.vm := by rw [hvm]; exact State.WarmedH.refl s
  have hat' : ∀ w ∈ vx_atS own ic cls names, w.before args s' = true := fun w hw => vx_ot_at hW0 hvm.symm (hgood w (List.mem_cons_of_mem _ (List.mem_cons_of_mem _ hw))) (hat w hw)
  have hk' : (Cond.classLink own ik cls).before args s' = true := vx_ot_at hW0 hvm.symm (hgood _ List.mem_cons_self) hk
  have hini' : (Cond.initialized cls).before args s' = true := vx_ot_at hW0 hvm.symm (hgood _ (List.mem_cons_of_mem _ List.mem_cons_self)) hini
  have hU' : vx_Zq Bundle.tN "UNASSIGNED_STACK" Bundle.steD A s' s'.heap := by rw [hhp]; exact vx_Zq.moved hW0.alike (hU.kept hS.2.1)
  have hN' : vx_Zq Bundle.tN "SUPPRESSED_SENTINEL" Bundle.listD A s' s'.heap := by rw [hhp]; exact vx_Zq.moved hW0.alike (hN.kept hS.2.1)
  have h : ∀ w ∈ Bundle.ownAtoms own ic cls names, w.before args s' = true := vx_own hat' (vx_isRefq hU'.1) (vx_isRefq hN'.1) hU'.2.word hN'.2.word
  have hown' : s'.vm.findClass own = some m.cls := by rw [hvm]; exact hown
  have hins : (Cond.instantiable cls 6).before args s' = true := h _ (by simp [Bundle.ownAtoms])
  obtain ⟨vm₁, cX, kX, hfX, hkX, -, -, X₁, st1⟩ := Y.newCold hexec (own := own) (C := cls) (index := ik) (n := 6) hown' hk' hins hini'
    (g := F0 m pc ls rest) rfl (by rw [hb]; exact d0) (Nat.le_refl _) (Nat.le_refl _)
  generalize hT1 : (T.setVm vm₁).pushCell { cls := cX, slots := kX.instanceTypes.map defaultValue, vm := .none } = T1 at X₁ st1
  have hcat : (Value.ref T.heap.size).category = 1 := rfl
  have hcellA : T1.heap[T.heap.size]? = some (freshCell cX kX) := by rw [← hT1]; exact State.heap_pushCell_size _ _
  have d3' : decode c.code (pc + 3) = .ok (.dup, 1) := by rw [hb]; exact d3
  have d4' : decode c.code (pc + 4) = .ok (.ldc is, 2) := by rw [hb]; exact d4
  have hstr' : vk_R own is text sa s' := vk_R.warm hW0 hstr
  obtain ⟨U, hsteps, hrun, hend, hW, hsame, ce, hce, hO⟩ := X₁.ctorThrowS hexec htr (own := own) (cls := cls) (names := names) (ic := ic) hown' hcls hnames h (fun x hx => nomatch hx) hfX hkX hcellA (by rw [hhp, hT]; exact Nat.le_refl _) (msg := .ref sa) rfl
    (g := { method := m, pc := pc + 6, locals := ls, stack := .ref sa :: .ref T.heap.size :: .ref T.heap.size :: rest, locked := none }) rfl hsize rfl rfl (rest := rest) rfl
    (by rw [hb]; exact d6) (by rw [hb]; exact d9) hout hRframes (by simp only [List.map_cons, List.sum_cons, hcat]; omega) hlocks
  obtain ⟨f1, f2⟩ := vx_frame hsame
  rw [hhp] at f1 f2
  have hWs : s.WarmedH U.vm := State.WarmedH.trans hW0 hW
  have hcl : s.vm.findClass cls = some ce.cls := by
    have h9 := hO.cls
    rw [hvm] at h9
    exact h9
  have hall : s.sameButNew ({ U with vm := s.vm } : State) locs mc ms := by
    subst hA
    obtain ⟨e1, e2⟩ := hsame
    rw [State.setFrames_setFrames] at e1
    have h2 : (T.setVm s.vm).sameButNew ({ U with vm := s.vm } : State) [] (0 + 1) (0 + 6) := ⟨e1, e2⟩
    have h3 := X.same.trans h2
    rw [List.append_nil] at h3
    exact h3.mono hc hs
  refine ⟨U, ?_, .threw T.heap.size, hrun, hend, Or.inr ⟨T.heap.size, rfl, cls, ce, locs, hx U hWs.alike f1 (fun q hq => f2 q hq (fun z hz => nomatch hz)), hce, hO.vm, hcl, hWs, hall, hf⟩⟩
  refine st1 _ ?_
  show Steps p.tables e below (T1.setTop { method := m, pc := pc + 3, locals := ls, stack := .ref T.heap.size :: rest, locked := none }) _
  jvm_step X₁.here [X₁.here.top, hexec, d3', Value.category]
  exact X₁.ldcString hexec (own := own) (text := text) (index := is) (a := sa) hown' hstr'.1 hstr'.2
    (g := { method := m, pc := pc + 4, locals := ls, stack := .ref T.heap.size :: .ref T.heap.size :: rest, locked := none }) rfl d4' _ hsteps
theorem vy_throwSW {cc : ByteArray} {pc : Nat} (hexec : p.tables.exec = Jvm.exec) (hb : c.code = cc) (hl : l.stackTraces = false) {own cls text : String} {names : List String} {ik is ic mc ms sa : Nat} {A : Nat → Prop}
    (hown : s.vm.findClass own = some m.cls) (hcls : Bundle.fit cls = true) (hnames : ∀ n ∈ names, Bundle.fit n = true)
    (hk : (Cond.classLink own ik cls).before args s = true) (hini : (Cond.initialized cls).before args s = true) (hstr : vk_R own is text sa s) (hat : ∀ w ∈ vx_atS own ic cls names, w.before args s = true)
    (hgood : ∀ w ∈ Cond.classLink own ik cls :: Cond.initialized cls :: vx_atS own ic cls names, vx_ot w = true)
    (hU : vx_Zq Bundle.tN "UNASSIGNED_STACK" Bundle.steD A s s.heap) (hN : vx_Zq Bundle.tN "SUPPRESSED_SENTINEL" Bundle.listD A s s.heap) (hS : va_S A s.heap H locs) (hsize : ls.size = c.maxLocals)
    (d0 : decode cc pc = .ok (.new ik, 3)) (d3 : decode cc (pc + 3) = .ok (.dup, 1)) (d4 : decode cc (pc + 4) = .ok (.ldc_w is, 3)) (d7 : decode cc (pc + 7) = .ok (.invokespecial ic, 3)) (d10 : decode cc (pc + 10) = .ok (.athrow, 1))
    (hout : ∀ x ∈ c.exceptionTable.toList, covers x (pc + 10) = false)
    (hRframes : names.length + 3 < R.frames) (hRlocals : (rest.map fun v => v.category).sum + (13 * (names.length + 1) + 43) ≤ R.locals) (hRcells : cells + 1 ≤ R.cells) (hRslots : slots + 6 ≤ R.slots) (hlocks : meth.locks = false)
    (hx : ∀ t : State, s.vm.Alike t.vm → H.size ≤ t.heap.size → (∀ q : Nat, q < H.size → t.heap[q]? = H[q]?) → XC cls s t)
    (hf : ∀ z ∈ locs, free z.base) (hc : cells + 1 ≤ mc) (hs : slots + 6 ≤ ms) :
    W p l e R s m args below meth c H locs cells slots (vy_MQ below Qc XC args s mc ms free) (F0 m pc ls rest) := by
  intro T hT X
  have htr : e.platform.stackTraces = false := (show e.platform.stackTraces = l.stackTraces by rw [X.admits.platform]).trans hl
  have Y := vx_rebase X (R' := { frames := R.frames, locals := R.locals, cells := 1, slots := 6 }) (Nat.le_refl _) (Nat.le_refl _) hRcells hRslots
  obtain ⟨s', hA⟩ : ∃ z, z = (T.setVm s.vm).setFrames (.invoking m args :: below) := ⟨_, rfl⟩
  rw [← hA] at Y
  have hvm : s'.vm = s.vm := by rw [hA]; rfl
  have hhp : s'.heap = H := by rw [hA]; exact hT
  have hW0 : s.WarmedH s'.vm := by rw [hvm]; exact State.WarmedH.refl s
  have hat' : ∀ w ∈ vx_atS own ic cls names, w.before args s' = true := fun w hw => vx_ot_at hW0 hvm.symm (hgood w (List.mem_cons_of_mem _ (List.mem_cons_of_mem _ hw))) (hat w hw)
  have hk' : (Cond.classLink own ik cls).before args s' = true := vx_ot_at hW0 hvm.symm (hgood _ List.mem_cons_self) hk
  have hini' : (Cond.initialized cls).before args s' = true := vx_ot_at hW0 hvm.symm (hgood _ (List.mem_cons_of_mem _ List.mem_cons_self)) hini
  have hU' : vx_Zq Bundle.tN "UNASSIGNED_STACK" Bundle.steD A s' s'.heap := by rw [hhp]; exact vx_Zq.moved hW0.alike (hU.kept hS.2.1)
  have hN' : vx_Zq Bundle.tN "SUPPRESSED_SENTINEL" Bundle.listD A s' s'.heap := by rw [hhp]; exact vx_Zq.moved hW0.alike (hN.kept hS.2.1)
  have h : ∀ w ∈ Bundle.ownAtoms own ic cls names, w.before args s' = true := vx_own hat' (vx_isRefq hU'.1) (vx_isRefq hN'.1) hU'.2.word hN'.2.word
  have hown' : s'.vm.findClass own = some m.cls := by rw [hvm]; exact hown
  have hins : (Cond.instantiable cls 6).before args s' = true := h _ (by simp [Bundle.ownAtoms])
  obtain ⟨vm₁, cX, kX, hfX, hkX, -, -, X₁, st1⟩ := Y.newCold hexec (own := own) (C := cls) (index := ik) (n := 6) hown' hk' hins hini'
    (g := F0 m pc ls rest) rfl (by rw [hb]; exact d0) (Nat.le_refl _) (Nat.le_refl _)
  generalize hT1 : (T.setVm vm₁).pushCell { cls := cX, slots := kX.instanceTypes.map defaultValue, vm := .none } = T1 at X₁ st1
  have hcat : (Value.ref T.heap.size).category = 1 := rfl
  have hcellA : T1.heap[T.heap.size]? = some (freshCell cX kX) := by rw [← hT1]; exact State.heap_pushCell_size _ _
  have d3' : decode c.code (pc + 3) = .ok (.dup, 1) := by rw [hb]; exact d3
  have d4' : decode c.code (pc + 4) = .ok (.ldc_w is, 3) := by rw [hb]; exact d4
  have hstr' : vk_R own is text sa s' := vk_R.warm hW0 hstr
  obtain ⟨U, hsteps, hrun, hend, hW, hsame, ce, hce, hO⟩ := X₁.ctorThrowS hexec htr (own := own) (cls := cls) (names := names) (ic := ic) hown' hcls hnames h (fun x hx => nomatch hx) hfX hkX hcellA (by rw [hhp, hT]; exact Nat.le_refl _) (msg := .ref sa) rfl
    (g := { method := m, pc := pc + 7, locals := ls, stack := .ref sa :: .ref T.heap.size :: .ref T.heap.size :: rest, locked := none }) rfl hsize rfl rfl (rest := rest) rfl
    (by rw [hb]; exact d7) (by rw [hb]; exact d10) hout hRframes (by simp only [List.map_cons, List.sum_cons, hcat]; omega) hlocks
  obtain ⟨f1, f2⟩ := vx_frame hsame
  rw [hhp] at f1 f2
  have hWs : s.WarmedH U.vm := State.WarmedH.trans hW0 hW
  have hcl : s.vm.findClass cls = some ce.cls := by
    have h9 := hO.cls
    rw [hvm] at h9
    exact h9
  have hall : s.sameButNew ({ U with vm := s.vm } : State) locs mc ms := by
    subst hA
    obtain ⟨e1, e2⟩ := hsame
    rw [State.setFrames_setFrames] at e1
    have h2 : (T.setVm s.vm).sameButNew ({ U with vm := s.vm } : State) [] (0 + 1) (0 + 6) := ⟨e1, e2⟩
    have h3 := X.same.trans h2
    rw [List.append_nil] at h3
    exact h3.mono hc hs
  refine ⟨U, ?_, .threw T.heap.size, hrun, hend, Or.inr ⟨T.heap.size, rfl, cls, ce, locs, hx U hWs.alike f1 (fun q hq => f2 q hq (fun z hz => nomatch hz)), hce, hO.vm, hcl, hWs, hall, hf⟩⟩
  refine st1 _ ?_
  show Steps p.tables e below (T1.setTop { method := m, pc := pc + 3, locals := ls, stack := .ref T.heap.size :: rest, locked := none }) _
  jvm_step X₁.here [X₁.here.top, hexec, d3', Value.category]
  exact X₁.ldcStringW hexec (own := own) (text := text) (index := is) (a := sa) hown' hstr'.1 hstr'.2
    (g := { method := m, pc := pc + 4, locals := ls, stack := .ref T.heap.size :: .ref T.heap.size :: rest, locked := none }) rfl d4' _ hsteps
end Ends
section Bodies
variable {l : Launch}
theorem vy_ofW {y : MethodName} {ws ws' : List Cond} {rm : Room} {Pc : Array Value → State → Prop} {Qc : Array Value → State → Outcome → State → Prop} {XC : String → State → State → Prop} {mc ms : Nat} {free : Addr → Prop} {cc : ByteArray} {maxL : Nat} {ret : Option FieldType}
    (hy : plainName y.cls = true) (hw : ws = Cond.code y cc maxL ret :: ws')
    (body : ∀ p e s m args below meth c s₁, BodyLoose p l y (headSpec ws rm) cc maxL ret e s m args below meth c s₁ → c.maxLocals = maxL → (∀ x ∈ c.exceptionTable.toList, False) → Pc args s →
      W p l e (headSpec ws rm).room s m args below meth c s.heap [] 0 0 (vy_MQ below Qc XC args s mc ms free) (entryFrame m args maxL)) : vy_Met l y ws rm Pc Qc XC mc ms free := by
  refine MetFree.of_bodyS (code := cc) (maxLocals := maxL) (ret := ret) hy ?_ ?_
  · intro args s m h hn
    obtain ⟨meth, c, h1, h2, h3, h4, h5, h6, -, -⟩ := Cond.code_spec hn (atoms_spec (ws := ws) h _ (by rw [hw]; exact List.mem_cons_self))
    exact ⟨meth, c, h1, h2, h3, h4, h5, h6⟩
  · intro p e s m args below meth c s₁ B hml hP _
    have hh0 : s₁.heap = s.heap := by rw [B.state]; rfl
    have ht : ∀ x ∈ c.exceptionTable.toList, False := by
      obtain ⟨meth9, c9, h1, h2, -, -, -, -, h7, -⟩ := Cond.code_spec B.named (atoms_spec (ws := ws) B.pre _ (by rw [hw]; exact List.mem_cons_self))
      cases Option.some.inj (h1.symm.trans B.method)
      cases Option.some.inj (h2.symm.trans (Stand.of_body B).code)
      intro x hx
      rw [Array.isEmpty_iff.mp h7] at hx
      cases hx
    obtain ⟨t, a1, o, b1, b2, b3⟩ := body p e s m args below meth c s₁ B hml ht hP s₁ hh0 (Stand.of_body B)
    exact ⟨t, o, a1, b1, b2, b3⟩
end Bodies
end VXA
end
section
/-! the rules: one instruction each, over (pc, locals, stack, world) -/
abbrev gG : Type := va_G × ClassId × ClassId × ClassId × ClassId × ClassId
def gTy (G : gG) : List (ClassId × FieldType) := [(G.2.1, .int), (G.2.2.1, .long), (G.2.2.2.1, .boolean), (G.2.2.2.2.1, .char), (G.2.2.2.2.2, .double)]
def WG : List Cond := lw_tbl.filter goodWord
theorem mW {w : Cond} (i : Nat) (h : lw_tbl[i]? = some w) (g : goodWord w = true) : w ∈ WG := List.mem_filter.mpr ⟨List.mem_of_getElem? h, g⟩
theorem mWs {ws : List Cond} (h : ∀ w ∈ ws, w ∈ lw_tbl) (g : ws.all goodWord = true) : ∀ w ∈ ws, w ∈ WG := fun w hw => List.mem_filter.mpr ⟨h w hw, List.all_eq_true.mp g w hw⟩
theorem mG {ws : List Cond} (h : ∀ w ∈ ws, w ∈ WG) : GoodIn WG ws := fun w hw => ⟨h w hw, good_of_word (List.mem_filter.mp (h w hw)).2⟩
def eStr : List (String × Nat × String) := [("Archivepress$Lines", 30, "there are 8 documents"), ("Archivepress", 248, "there is no such document"), ("Archivepress", 261, "a value is not between 0 and 9999"), ("Archivepress$Lines", 38, "there are 40 lines"), ("Archivepress", 251, "there is no such line"), ("Archivepress", 265, "the second one is less than the first one"), ("Archivepress", 267, "the last day is not between today and 9999"), ("Archivepress$Rules", 27, "there are 8 rules"), ("Archivepress", 263, "an index is not between 0 and 39"), ("Archivepress$Spans", 34, "there are 12 spans"), ("Archivepress", 115, "there is no such span"), ("Archivepress", 129, "the span was lifted or has ended"), ("Archivepress", 144, "two of the lines are the same"), ("Archivepress$Joins", 24, "there are 10 joins"), ("Archivepress", 257, "there is no such asker"), ("Archivepress", 259, "the asker holds the line"), ("Archivepress", 183, "the line is not withheld"), ("Archivepress", 195, "the asker owes more than 100"), ("Archivepress", 201, "a request of this asker for this document waits"), ("Archivepress$Requests", 31, "there are 20 requests"), ("Archivepress", 253, "there is no such request"), ("Archivepress", 255, "the request does not wait"), ("Archivepress", 225, "the price is not between 0 and 99"), ("Archivepress", 227, "the sum is not between 1 and what the asker owes"), ("Archivepress", 229, "the days are not between 1 and 90"), ("Archivepress", 231, "the day would be greater than 9999"), ("Archivepress", 243, "there are no requests")]
def eNest : List (String × Nat × MethodName × String) := [("Archivepress", 11, ⟨"Archivepress$Lines", "<init>", "()V"⟩, "Archivepress"), ("Archivepress", 18, ⟨"Archivepress$Rules", "<init>", "()V"⟩, "Archivepress"), ("Archivepress", 25, ⟨"Archivepress$Spans", "<init>", "()V"⟩, "Archivepress"), ("Archivepress", 32, ⟨"Archivepress$Joins", "<init>", "()V"⟩, "Archivepress"), ("Archivepress", 39, ⟨"Archivepress$Log", "<init>", "()V"⟩, "Archivepress"), ("Archivepress", 46, ⟨"Archivepress$Requests", "<init>", "()V"⟩, "Archivepress"), ("Archivepress$Joins", 29, ⟨"Archivepress", "bitOf", "(I)J"⟩, "Archivepress"), ("Archivepress$Log", 22, ⟨"Archivepress", "bitOf", "(I)J"⟩, "Archivepress")]
def eCast : List (String × String) := [("java/lang/IllegalStateException", "java/lang/IllegalStateException"), ("java/lang/IllegalArgumentException", "java/lang/IllegalArgumentException"), ("java/lang/IndexOutOfBoundsException", "java/lang/IndexOutOfBoundsException"), ("java/lang/UnsupportedOperationException", "java/lang/UnsupportedOperationException"), ("java/util/NoSuchElementException", "java/util/NoSuchElementException")]
def eDecl : List MethodName := [⟨"java/lang/RuntimeException", "<init>", "(Ljava/lang/String;)V"⟩, ⟨"java/lang/Exception", "<init>", "(Ljava/lang/String;)V"⟩, ⟨"java/lang/Throwable", "<init>", "(Ljava/lang/String;)V"⟩]
def eNc : List (String × String) := [("java/lang/IllegalStateException", "java/lang/IllegalArgumentException"), ("java/lang/IllegalStateException", "java/lang/IndexOutOfBoundsException"), ("java/lang/IllegalStateException", "java/lang/UnsupportedOperationException"), ("java/lang/IllegalStateException", "java/util/NoSuchElementException"), ("java/lang/IllegalArgumentException", "java/lang/IllegalStateException"), ("java/lang/IllegalArgumentException", "java/lang/IndexOutOfBoundsException"), ("java/lang/IllegalArgumentException", "java/lang/UnsupportedOperationException"), ("java/lang/IllegalArgumentException", "java/util/NoSuchElementException"), ("java/lang/IndexOutOfBoundsException", "java/lang/IllegalStateException"), ("java/lang/IndexOutOfBoundsException", "java/lang/IllegalArgumentException"), ("java/lang/IndexOutOfBoundsException", "java/lang/UnsupportedOperationException"), ("java/lang/IndexOutOfBoundsException", "java/util/NoSuchElementException"), ("java/lang/UnsupportedOperationException", "java/lang/IllegalStateException"), ("java/lang/UnsupportedOperationException", "java/lang/IllegalArgumentException"), ("java/lang/UnsupportedOperationException", "java/lang/IndexOutOfBoundsException"), ("java/lang/UnsupportedOperationException", "java/util/NoSuchElementException"), ("java/util/NoSuchElementException", "java/lang/IllegalStateException"), ("java/util/NoSuchElementException", "java/lang/IllegalArgumentException"), ("java/util/NoSuchElementException", "java/lang/IndexOutOfBoundsException"), ("java/util/NoSuchElementException", "java/lang/UnsupportedOperationException")]
/-- a field of an own class, linked from the class own at the index -/
def fkP (own : String) (index : Nat) (Cn : String) (T : u_T) (N ci k : Nat) : Prop := (∀ w ∈ u_ws Cn T N, w ∈ WG) ∧ vwCl[ci]? = some (Cn, T, N) ∧ k < N ∧ Cond.fieldLink own index Cn (T k).2.1 (T k).2.2.1 ∈ WG ∧ (T k).1 = Cn
def fpP (T : u_T) (N : Nat) (ty : Nat → FieldType) : Prop := (∀ k, k < N → parseFieldDescriptor (T k).2.2.1 = some (ty k)) ∧ ∀ a, a < N → ∀ b, b < N → a ≠ b → (T a).2.1 ≠ (T b).2.1
/-- a call's link: from the class own, at the index -/
def lkP (own : String) (index : Nat) (y : MethodName) (n : Nat) : Prop := Cond.methodLink own index y ∈ WG ∧ Cond.initialized y.cls ∈ WG ∧ (y.cls ≠ "java/lang/invoke/MethodHandle" ∧ y.cls ≠ "java/lang/invoke/VarHandle" ∧ (parseMethodDescriptor y.desc).map (fun d => d.parameters.length) = some n)
def lkN (own : String) (index : Nat) (y : MethodName) (n : Nat) : Prop := (own, index, y, "Archivepress") ∈ eNest ∧ Cond.initialized y.cls ∈ WG ∧ (y.cls ≠ "java/lang/invoke/MethodHandle" ∧ y.cls ≠ "java/lang/invoke/VarHandle" ∧ (parseMethodDescriptor y.desc).map (fun d => d.parameters.length) = some n)
/-- what a throw needs of the tables -/
def thP (own : String) (ik ic : Nat) (cls : String) : Prop := Cond.classLink own ik cls ∈ WG ∧ Cond.initialized cls ∈ WG ∧ (∀ w ∈ (vx_atS own ic cls ["java/lang/RuntimeException", "java/lang/Exception"]).filter goodWord, w ∈ WG) ∧ (∀ w ∈ (vx_atS own ic cls ["java/lang/RuntimeException", "java/lang/Exception"]).filter (fun w => !goodWord w), w ∈ Cond.castable cls cls :: eDecl.map Cond.declares) ∧ (cls, cls) ∈ eCast ∧ (∀ w ∈ Cond.classLink own ik cls :: Cond.initialized cls :: vx_atS own ic cls ["java/lang/RuntimeException", "java/lang/Exception"], vx_ot w = true) ∧ Bundle.fit cls = true
end
section
theorem inW0 : ∀ w ∈ u_ws RX0 TX0 3, w ∈ WG := mWs (by decide +kernel) (by decide +kernel)
theorem fpW0 : fpP TX0 3 tyX0 := ⟨tyX0_ok, nmX0⟩
theorem inW1 : ∀ w ∈ u_ws RX1 TX1 6, w ∈ WG := mWs (by decide +kernel) (by decide +kernel)
theorem fpW1 : fpP TX1 6 tyX1 := ⟨tyX1_ok, nmX1⟩
theorem inW2 : ∀ w ∈ u_ws RX2 TX2 3, w ∈ WG := mWs (by decide +kernel) (by decide +kernel)
theorem fpW2 : fpP TX2 3 tyX2 := ⟨tyX2_ok, nmX2⟩
theorem inW3 : ∀ w ∈ u_ws RX3 TX3 5, w ∈ WG := mWs (by decide +kernel) (by decide +kernel)
theorem fpW3 : fpP TX3 5 tyX3 := ⟨tyX3_ok, nmX3⟩
theorem inW4 : ∀ w ∈ u_ws RX4 TX4 4, w ∈ WG := mWs (by decide +kernel) (by decide +kernel)
theorem fpW4 : fpP TX4 4 tyX4 := ⟨tyX4_ok, nmX4⟩
theorem inW5 : ∀ w ∈ u_ws RX5 TX5 6, w ∈ WG := mWs (by decide +kernel) (by decide +kernel)
theorem fpW5 : fpP TX5 6 tyX5 := ⟨tyX5_ok, nmX5⟩
theorem inW6 : ∀ w ∈ u_ws RX6 TX6 11, w ∈ WG := mWs (by decide +kernel) (by decide +kernel)
theorem fpW6 : fpP TX6 11 tyX6 := ⟨tyX6_ok, nmX6⟩
theorem inW7 : ∀ w ∈ u_ws RX7 TX7 31, w ∈ WG := mWs (by decide +kernel) (by decide +kernel)
theorem fpW7 : fpP TX7 31 tyX7 := ⟨tyX7_ok, nmX7⟩
theorem lg_J13_314 : Cond.constantLong RJ13 314 (6148914691236517205) ∈ WG := mW 580 (by decide +kernel) rfl
theorem lg_J13_316 : Cond.constantLong RJ13 316 (3689348814741910323) ∈ WG := mW 581 (by decide +kernel) rfl
theorem lg_J13_318 : Cond.constantLong RJ13 318 (1085102592571150095) ∈ WG := mW 582 (by decide +kernel) rfl
theorem lk_L_7 : lkP RL 7 yX6_addDocument 0 := ⟨mW 285 (by decide +kernel) rfl, mW 36 (by decide +kernel) rfl, (by decide +kernel)⟩
theorem lk_L_51 : lkP RL 51 yX6_addJoin 3 := ⟨mW 516 (by decide +kernel) rfl, mW 36 (by decide +kernel) rfl, (by decide +kernel)⟩
theorem lk_L_15 : lkP RL 15 yX6_addLine 2 := ⟨mW 368 (by decide +kernel) rfl, mW 36 (by decide +kernel) rfl, (by decide +kernel)⟩
theorem lk_L_36 : lkP RL 36 yX6_addRule 3 := ⟨mW 452 (by decide +kernel) rfl, mW 36 (by decide +kernel) rfl, (by decide +kernel)⟩
theorem lk_L_40 : lkP RL 40 yX6_addSpan 4 := ⟨mW 475 (by decide +kernel) rfl, mW 36 (by decide +kernel) rfl, (by decide +kernel)⟩
theorem lk_L_91 : lkP RL 91 yX6_answer 1 := ⟨mW 704 (by decide +kernel) rfl, mW 36 (by decide +kernel) rfl, (by decide +kernel)⟩
theorem lk_L_109 : lkP RL 109 yX6_answeredShare 0 := ⟨mW 775 (by decide +kernel) rfl, mW 36 (by decide +kernel) rfl, (by decide +kernel)⟩
theorem lk_L_79 : lkP RL 79 yX6_causes 2 := ⟨mW 645 (by decide +kernel) rfl, mW 36 (by decide +kernel) rfl, (by decide +kernel)⟩
theorem lk_L_26 : lkP RL 26 yX6_documentOf 1 := ⟨mW 431 (by decide +kernel) rfl, mW 36 (by decide +kernel) rfl, (by decide +kernel)⟩
theorem lk_L_64 : lkP RL 64 yX6_given 1 := ⟨mW 586 (by decide +kernel) rfl, mW 36 (by decide +kernel) rfl, (by decide +kernel)⟩
theorem lk_L_61 : lkP RL 61 yX6_held 1 := ⟨mW 573 (by decide +kernel) rfl, mW 36 (by decide +kernel) rfl, (by decide +kernel)⟩
theorem lk_L_67 : lkP RL 67 yX6_holders 1 := ⟨mW 593 (by decide +kernel) rfl, mW 36 (by decide +kernel) rfl, (by decide +kernel)⟩
theorem lk_L_54 : lkP RL 54 yX6_holds 2 := ⟨mW 546 (by decide +kernel) rfl, mW 36 (by decide +kernel) rfl, (by decide +kernel)⟩
theorem lk_L_58 : lkP RL 58 yX6_holdsByLog 2 := ⟨mW 561 (by decide +kernel) rfl, mW 36 (by decide +kernel) rfl, (by decide +kernel)⟩
theorem lk_L_30 : lkP RL 30 yX6_indexOf 1 := ⟨mW 438 (by decide +kernel) rfl, mW 36 (by decide +kernel) rfl, (by decide +kernel)⟩
theorem lk_L_47 : lkP RL 47 yX6_isHidden 1 := ⟨mW 509 (by decide +kernel) rfl, mW 36 (by decide +kernel) rfl, (by decide +kernel)⟩
theorem lk_L_113 : lkP RL 113 yX6_init 0 := ⟨mW 55 (by decide +kernel) rfl, mW 36 (by decide +kernel) rfl, (by decide +kernel)⟩
theorem lk_L_116 : lkP RL 116 yX7_init 0 := ⟨mW 782 (by decide +kernel) rfl, mW 43 (by decide +kernel) rfl, (by decide +kernel)⟩
theorem lk_L_117 : lkP RL 117 yL_addDocument 2 := ⟨mW 281 (by decide +kernel) rfl, mW 35 (by decide +kernel) rfl, (by decide +kernel)⟩
theorem lk_L_122 : lkP RL 122 yX7_addDocument 0 := ⟨mW 884 (by decide +kernel) rfl, mW 43 (by decide +kernel) rfl, (by decide +kernel)⟩
theorem lk_L_123 : lkP RL 123 yX7_thrown 0 := ⟨mW 880 (by decide +kernel) rfl, mW 43 (by decide +kernel) rfl, (by decide +kernel)⟩
theorem lk_L_126 : lkP RL 126 yL_addLine 4 := ⟨mW 363 (by decide +kernel) rfl, mW 35 (by decide +kernel) rfl, (by decide +kernel)⟩
theorem lk_L_129 : lkP RL 129 yX7_addLine 2 := ⟨mW 892 (by decide +kernel) rfl, mW 43 (by decide +kernel) rfl, (by decide +kernel)⟩
theorem lk_L_130 : lkP RL 130 yL_rescan 4 := ⟨mW 416 (by decide +kernel) rfl, mW 35 (by decide +kernel) rfl, (by decide +kernel)⟩
theorem lk_L_132 : lkP RL 132 yX7_rescan 2 := ⟨mW 903 (by decide +kernel) rfl, mW 43 (by decide +kernel) rfl, (by decide +kernel)⟩
theorem lk_L_133 : lkP RL 133 yL_documentOf 3 := ⟨mW 428 (by decide +kernel) rfl, mW 35 (by decide +kernel) rfl, (by decide +kernel)⟩
theorem lk_L_136 : lkP RL 136 yX7_documentOf 1 := ⟨mW 911 (by decide +kernel) rfl, mW 43 (by decide +kernel) rfl, (by decide +kernel)⟩
theorem lk_L_137 : lkP RL 137 yL_indexOf 3 := ⟨mW 435 (by decide +kernel) rfl, mW 35 (by decide +kernel) rfl, (by decide +kernel)⟩
theorem lk_L_139 : lkP RL 139 yX7_indexOf 1 := ⟨mW 915 (by decide +kernel) rfl, mW 43 (by decide +kernel) rfl, (by decide +kernel)⟩
theorem lk_L_140 : lkP RL 140 yL_lines 3 := ⟨mW 442 (by decide +kernel) rfl, mW 35 (by decide +kernel) rfl, (by decide +kernel)⟩
theorem lk_L_142 : lkP RL 142 yX7_lines 1 := ⟨mW 923 (by decide +kernel) rfl, mW 43 (by decide +kernel) rfl, (by decide +kernel)⟩
theorem lk_L_143 : lkP RL 143 yL_addRule 5 := ⟨mW 449 (by decide +kernel) rfl, mW 35 (by decide +kernel) rfl, (by decide +kernel)⟩
theorem lk_L_146 : lkP RL 146 yX7_addRule 3 := ⟨mW 927 (by decide +kernel) rfl, mW 43 (by decide +kernel) rfl, (by decide +kernel)⟩
theorem lk_L_147 : lkP RL 147 yL_addSpan 6 := ⟨mW 472 (by decide +kernel) rfl, mW 35 (by decide +kernel) rfl, (by decide +kernel)⟩
theorem lk_L_150 : lkP RL 150 yX7_addSpan 4 := ⟨mW 931 (by decide +kernel) rfl, mW 43 (by decide +kernel) rfl, (by decide +kernel)⟩
theorem lk_L_151 : lkP RL 151 yL_lift 3 := ⟨mW 490 (by decide +kernel) rfl, mW 35 (by decide +kernel) rfl, (by decide +kernel)⟩
theorem lk_L_153 : lkP RL 153 yX7_lift 1 := ⟨mW 935 (by decide +kernel) rfl, mW 43 (by decide +kernel) rfl, (by decide +kernel)⟩
theorem lk_L_154 : lkP RL 154 yL_isHidden 3 := ⟨mW 506 (by decide +kernel) rfl, mW 35 (by decide +kernel) rfl, (by decide +kernel)⟩
theorem lk_L_156 : lkP RL 156 yX7_isHidden 1 := ⟨mW 955 (by decide +kernel) rfl, mW 43 (by decide +kernel) rfl, (by decide +kernel)⟩
theorem lk_L_157 : lkP RL 157 yX6_hidden 0 := ⟨mW 233 (by decide +kernel) rfl, mW 36 (by decide +kernel) rfl, (by decide +kernel)⟩
theorem lk_L_160 : lkP RL 160 yX7_hidden 0 := ⟨mW 959 (by decide +kernel) rfl, mW 43 (by decide +kernel) rfl, (by decide +kernel)⟩
theorem lk_L_161 : lkP RL 161 yL_addJoin 5 := ⟨mW 513 (by decide +kernel) rfl, mW 35 (by decide +kernel) rfl, (by decide +kernel)⟩
theorem lk_L_163 : lkP RL 163 yX7_addJoin 3 := ⟨mW 963 (by decide +kernel) rfl, mW 43 (by decide +kernel) rfl, (by decide +kernel)⟩
theorem lk_L_164 : lkP RL 164 yL_holds 4 := ⟨mW 543 (by decide +kernel) rfl, mW 35 (by decide +kernel) rfl, (by decide +kernel)⟩
theorem lk_L_166 : lkP RL 166 yX7_holds 2 := ⟨mW 971 (by decide +kernel) rfl, mW 43 (by decide +kernel) rfl, (by decide +kernel)⟩
theorem lk_L_167 : lkP RL 167 yL_holdsByLog 4 := ⟨mW 558 (by decide +kernel) rfl, mW 35 (by decide +kernel) rfl, (by decide +kernel)⟩
theorem lk_L_169 : lkP RL 169 yX7_holdsByLog 2 := ⟨mW 979 (by decide +kernel) rfl, mW 43 (by decide +kernel) rfl, (by decide +kernel)⟩
theorem lk_L_170 : lkP RL 170 yL_held 3 := ⟨mW 570 (by decide +kernel) rfl, mW 35 (by decide +kernel) rfl, (by decide +kernel)⟩
theorem lk_L_172 : lkP RL 172 yX7_held 1 := ⟨mW 984 (by decide +kernel) rfl, mW 43 (by decide +kernel) rfl, (by decide +kernel)⟩
theorem lk_L_173 : lkP RL 173 yL_given 3 := ⟨mW 583 (by decide +kernel) rfl, mW 35 (by decide +kernel) rfl, (by decide +kernel)⟩
theorem lk_L_175 : lkP RL 175 yX7_given 1 := ⟨mW 988 (by decide +kernel) rfl, mW 43 (by decide +kernel) rfl, (by decide +kernel)⟩
theorem lk_L_176 : lkP RL 176 yL_holders 3 := ⟨mW 590 (by decide +kernel) rfl, mW 35 (by decide +kernel) rfl, (by decide +kernel)⟩
theorem lk_L_178 : lkP RL 178 yX7_holders 1 := ⟨mW 992 (by decide +kernel) rfl, mW 43 (by decide +kernel) rfl, (by decide +kernel)⟩
theorem lk_L_179 : lkP RL 179 yL_why 4 := ⟨mW 597 (by decide +kernel) rfl, mW 35 (by decide +kernel) rfl, (by decide +kernel)⟩
theorem lk_L_181 : lkP RL 181 yX7_why 2 := ⟨mW 996 (by decide +kernel) rfl, mW 43 (by decide +kernel) rfl, (by decide +kernel)⟩
theorem lk_L_182 : lkP RL 182 yL_root 4 := ⟨mW 618 (by decide +kernel) rfl, mW 35 (by decide +kernel) rfl, (by decide +kernel)⟩
theorem lk_L_184 : lkP RL 184 yX7_root 2 := ⟨mW 1012 (by decide +kernel) rfl, mW 43 (by decide +kernel) rfl, (by decide +kernel)⟩
theorem lk_L_185 : lkP RL 185 yL_causes 4 := ⟨mW 642 (by decide +kernel) rfl, mW 35 (by decide +kernel) rfl, (by decide +kernel)⟩
theorem lk_L_187 : lkP RL 187 yX7_causes 2 := ⟨mW 1020 (by decide +kernel) rfl, mW 43 (by decide +kernel) rfl, (by decide +kernel)⟩
theorem lk_L_188 : lkP RL 188 yL_request 4 := ⟨mW 653 (by decide +kernel) rfl, mW 35 (by decide +kernel) rfl, (by decide +kernel)⟩
theorem lk_L_190 : lkP RL 190 yX7_request 2 := ⟨mW 1024 (by decide +kernel) rfl, mW 43 (by decide +kernel) rfl, (by decide +kernel)⟩
theorem lk_L_191 : lkP RL 191 yL_state 3 := ⟨mW 689 (by decide +kernel) rfl, mW 35 (by decide +kernel) rfl, (by decide +kernel)⟩
theorem lk_L_193 : lkP RL 193 yX7_state 1 := ⟨mW 1028 (by decide +kernel) rfl, mW 43 (by decide +kernel) rfl, (by decide +kernel)⟩
theorem lk_L_194 : lkP RL 194 yL_answer 3 := ⟨mW 701 (by decide +kernel) rfl, mW 35 (by decide +kernel) rfl, (by decide +kernel)⟩
theorem lk_L_196 : lkP RL 196 yX7_answer 1 := ⟨mW 1036 (by decide +kernel) rfl, mW 43 (by decide +kernel) rfl, (by decide +kernel)⟩
theorem lk_L_197 : lkP RL 197 yL_withdraw 3 := ⟨mW 729 (by decide +kernel) rfl, mW 35 (by decide +kernel) rfl, (by decide +kernel)⟩
theorem lk_L_199 : lkP RL 199 yX7_withdraw 1 := ⟨mW 1040 (by decide +kernel) rfl, mW 43 (by decide +kernel) rfl, (by decide +kernel)⟩
theorem lk_L_200 : lkP RL 200 yL_setPrice 3 := ⟨mW 740 (by decide +kernel) rfl, mW 35 (by decide +kernel) rfl, (by decide +kernel)⟩
theorem lk_L_202 : lkP RL 202 yX7_setPrice 1 := ⟨mW 1044 (by decide +kernel) rfl, mW 43 (by decide +kernel) rfl, (by decide +kernel)⟩
theorem lk_L_203 : lkP RL 203 yL_owed 3 := ⟨mW 748 (by decide +kernel) rfl, mW 35 (by decide +kernel) rfl, (by decide +kernel)⟩
theorem lk_L_205 : lkP RL 205 yX7_owed 1 := ⟨mW 1048 (by decide +kernel) rfl, mW 43 (by decide +kernel) rfl, (by decide +kernel)⟩
theorem lk_L_206 : lkP RL 206 yL_pay 4 := ⟨mW 755 (by decide +kernel) rfl, mW 35 (by decide +kernel) rfl, (by decide +kernel)⟩
theorem lk_L_208 : lkP RL 208 yX7_pay 2 := ⟨mW 1052 (by decide +kernel) rfl, mW 43 (by decide +kernel) rfl, (by decide +kernel)⟩
theorem lk_L_209 : lkP RL 209 yL_pass 3 := ⟨mW 763 (by decide +kernel) rfl, mW 35 (by decide +kernel) rfl, (by decide +kernel)⟩
theorem lk_L_211 : lkP RL 211 yX7_pass 1 := ⟨mW 1056 (by decide +kernel) rfl, mW 43 (by decide +kernel) rfl, (by decide +kernel)⟩
theorem lk_L_212 : lkP RL 212 yX6_day 0 := ⟨mW 265 (by decide +kernel) rfl, mW 36 (by decide +kernel) rfl, (by decide +kernel)⟩
theorem lk_L_215 : lkP RL 215 yX7_day 0 := ⟨mW 1064 (by decide +kernel) rfl, mW 43 (by decide +kernel) rfl, (by decide +kernel)⟩
theorem lk_L_216 : lkP RL 216 yX6_late 0 := ⟨mW 269 (by decide +kernel) rfl, mW 36 (by decide +kernel) rfl, (by decide +kernel)⟩
theorem lk_L_219 : lkP RL 219 yX7_late 0 := ⟨mW 1068 (by decide +kernel) rfl, mW 43 (by decide +kernel) rfl, (by decide +kernel)⟩
theorem lk_L_220 : lkP RL 220 yX6_fees 0 := ⟨mW 277 (by decide +kernel) rfl, mW 36 (by decide +kernel) rfl, (by decide +kernel)⟩
theorem lk_L_224 : lkP RL 224 yX7_fees 0 := ⟨mW 1072 (by decide +kernel) rfl, mW 43 (by decide +kernel) rfl, (by decide +kernel)⟩
theorem lk_L_225 : lkP RL 225 yL_answeredShare 2 := ⟨mW 772 (by decide +kernel) rfl, mW 35 (by decide +kernel) rfl, (by decide +kernel)⟩
theorem lk_L_228 : lkP RL 228 yX7_answeredShare 0 := ⟨mW 1076 (by decide +kernel) rfl, mW 43 (by decide +kernel) rfl, (by decide +kernel)⟩
theorem lk_L_44 : lkP RL 44 yX6_lift 1 := ⟨mW 493 (by decide +kernel) rfl, mW 36 (by decide +kernel) rfl, (by decide +kernel)⟩
theorem lk_L_33 : lkP RL 33 yX6_lines 1 := ⟨mW 445 (by decide +kernel) rfl, mW 36 (by decide +kernel) rfl, (by decide +kernel)⟩
theorem lk_L_100 : lkP RL 100 yX6_owed 1 := ⟨mW 751 (by decide +kernel) rfl, mW 36 (by decide +kernel) rfl, (by decide +kernel)⟩
theorem lk_L_106 : lkP RL 106 yX6_pass 1 := ⟨mW 766 (by decide +kernel) rfl, mW 36 (by decide +kernel) rfl, (by decide +kernel)⟩
theorem lk_L_103 : lkP RL 103 yX6_pay 2 := ⟨mW 758 (by decide +kernel) rfl, mW 36 (by decide +kernel) rfl, (by decide +kernel)⟩
theorem lk_L_82 : lkP RL 82 yX6_request 2 := ⟨mW 657 (by decide +kernel) rfl, mW 36 (by decide +kernel) rfl, (by decide +kernel)⟩
theorem lk_L_23 : lkP RL 23 yX6_rescan 2 := ⟨mW 419 (by decide +kernel) rfl, mW 36 (by decide +kernel) rfl, (by decide +kernel)⟩
theorem lk_L_74 : lkP RL 74 yX6_root 2 := ⟨mW 622 (by decide +kernel) rfl, mW 36 (by decide +kernel) rfl, (by decide +kernel)⟩
theorem lk_L_97 : lkP RL 97 yX6_setPrice 1 := ⟨mW 743 (by decide +kernel) rfl, mW 36 (by decide +kernel) rfl, (by decide +kernel)⟩
theorem lk_L_87 : lkP RL 87 yX6_state 1 := ⟨mW 692 (by decide +kernel) rfl, mW 36 (by decide +kernel) rfl, (by decide +kernel)⟩
theorem lk_L_70 : lkP RL 70 yX6_why 2 := ⟨mW 600 (by decide +kernel) rfl, mW 36 (by decide +kernel) rfl, (by decide +kernel)⟩
theorem lk_L_94 : lkP RL 94 yX6_withdraw 1 := ⟨mW 732 (by decide +kernel) rfl, mW 36 (by decide +kernel) rfl, (by decide +kernel)⟩
theorem fk_X0_18 : fkP RX0 18 RX0 TX0 3 0 2 := ⟨inW0, rfl, by decide, mW 147 (by decide +kernel) rfl, rfl⟩
theorem fk_X0_9 : fkP RX0 9 RX0 TX0 3 0 0 := ⟨inW0, rfl, by decide, mW 145 (by decide +kernel) rfl, rfl⟩
theorem fk_X0_15 : fkP RX0 15 RX0 TX0 3 0 1 := ⟨inW0, rfl, by decide, mW 146 (by decide +kernel) rfl, rfl⟩
theorem lk_X0_29 : lkN RX0 29 yX6_bitOf 1 := ⟨(by decide +kernel), mW 36 (by decide +kernel) rfl, (by decide +kernel)⟩
theorem lk_X0_33 : lkP RX0 33 yX0_addTold 1 := ⟨mW 539 (by decide +kernel) rfl, mW 40 (by decide +kernel) rfl, (by decide +kernel)⟩
theorem fk_X1_35 : fkP RX1 35 RX1 TX1 6 1 5 := ⟨inW1, rfl, by decide, mW 77 (by decide +kernel) rfl, rfl⟩
theorem fk_X1_15 : fkP RX1 15 RX1 TX1 6 1 1 := ⟨inW1, rfl, by decide, mW 69 (by decide +kernel) rfl, rfl⟩
theorem fk_X1_18 : fkP RX1 18 RX1 TX1 6 1 2 := ⟨inW1, rfl, by decide, mW 71 (by decide +kernel) rfl, rfl⟩
theorem fk_X1_9 : fkP RX1 9 RX1 TX1 6 1 0 := ⟨inW1, rfl, by decide, mW 67 (by decide +kernel) rfl, rfl⟩
theorem fk_X1_21 : fkP RX1 21 RX1 TX1 6 1 3 := ⟨inW1, rfl, by decide, mW 73 (by decide +kernel) rfl, rfl⟩
theorem fk_X1_24 : fkP RX1 24 RX1 TX1 6 1 4 := ⟨inW1, rfl, by decide, mW 75 (by decide +kernel) rfl, rfl⟩
theorem fk_X2_18 : fkP RX2 18 RX2 TX2 3 2 2 := ⟨inW2, rfl, by decide, mW 164 (by decide +kernel) rfl, rfl⟩
theorem fk_X2_9 : fkP RX2 9 RX2 TX2 3 2 0 := ⟨inW2, rfl, by decide, mW 162 (by decide +kernel) rfl, rfl⟩
theorem fk_X2_15 : fkP RX2 15 RX2 TX2 3 2 1 := ⟨inW2, rfl, by decide, mW 163 (by decide +kernel) rfl, rfl⟩
theorem lk_X2_22 : lkN RX2 22 yX6_bitOf 1 := ⟨(by decide +kernel), mW 36 (by decide +kernel) rfl, (by decide +kernel)⟩
theorem fk_X3_25 : fkP RX3 25 RX3 TX3 5 3 4 := ⟨inW3, rfl, by decide, mW 185 (by decide +kernel) rfl, rfl⟩
theorem fk_X3_9 : fkP RX3 9 RX3 TX3 5 3 0 := ⟨inW3, rfl, by decide, mW 178 (by decide +kernel) rfl, rfl⟩
theorem fk_X3_15 : fkP RX3 15 RX3 TX3 5 3 1 := ⟨inW3, rfl, by decide, mW 180 (by decide +kernel) rfl, rfl⟩
theorem fk_X3_18 : fkP RX3 18 RX3 TX3 5 3 2 := ⟨inW3, rfl, by decide, mW 182 (by decide +kernel) rfl, rfl⟩
theorem fk_X3_22 : fkP RX3 22 RX3 TX3 5 3 3 := ⟨inW3, rfl, by decide, mW 184 (by decide +kernel) rfl, rfl⟩
theorem fk_X4_21 : fkP RX4 21 RX4 TX4 4 4 3 := ⟨inW4, rfl, by decide, mW 102 (by decide +kernel) rfl, rfl⟩
theorem fk_X4_9 : fkP RX4 9 RX4 TX4 4 4 0 := ⟨inW4, rfl, by decide, mW 99 (by decide +kernel) rfl, rfl⟩
theorem fk_X4_15 : fkP RX4 15 RX4 TX4 4 4 1 := ⟨inW4, rfl, by decide, mW 100 (by decide +kernel) rfl, rfl⟩
theorem fk_X4_18 : fkP RX4 18 RX4 TX4 4 4 2 := ⟨inW4, rfl, by decide, mW 101 (by decide +kernel) rfl, rfl⟩
theorem fk_X5_28 : fkP RX5 28 RX5 TX5 6 5 5 := ⟨inW5, rfl, by decide, mW 124 (by decide +kernel) rfl, rfl⟩
theorem fk_X5_9 : fkP RX5 9 RX5 TX5 6 5 0 := ⟨inW5, rfl, by decide, mW 118 (by decide +kernel) rfl, rfl⟩
theorem fk_X5_15 : fkP RX5 15 RX5 TX5 6 5 1 := ⟨inW5, rfl, by decide, mW 119 (by decide +kernel) rfl, rfl⟩
theorem fk_X5_18 : fkP RX5 18 RX5 TX5 6 5 2 := ⟨inW5, rfl, by decide, mW 120 (by decide +kernel) rfl, rfl⟩
theorem fk_X5_21 : fkP RX5 21 RX5 TX5 6 5 3 := ⟨inW5, rfl, by decide, mW 121 (by decide +kernel) rfl, rfl⟩
theorem lk_X5_39 : lkP RX5 39 yX5_isInForce 2 := ⟨mW 261 (by decide +kernel) rfl, mW 39 (by decide +kernel) rfl, (by decide +kernel)⟩
theorem fk_X5_24 : fkP RX5 24 RX5 TX5 6 5 4 := ⟨inW5, rfl, by decide, mW 122 (by decide +kernel) rfl, rfl⟩
theorem fk_X6_12 : fkP RX6 12 RX6 TX6 11 6 0 := ⟨inW6, rfl, by decide, mW 199 (by decide +kernel) rfl, rfl⟩
theorem lk_X6_63 : lkP RX6 63 yX1_appendDocument 0 := ⟨mW 289 (by decide +kernel) rfl, mW 37 (by decide +kernel) rfl, (by decide +kernel)⟩
theorem lk_X6_78 : lkP RX6 78 yX6_requireLine 1 := ⟨mW 423 (by decide +kernel) rfl, mW 36 (by decide +kernel) rfl, (by decide +kernel)⟩
theorem fk_X6_33 : fkP RX6 33 RX6 TX6 11 6 3 := ⟨inW6, rfl, by decide, mW 202 (by decide +kernel) rfl, rfl⟩
theorem lk_X6_147 : lkP RX6 147 yX0_append 3 := ⟨mW 521 (by decide +kernel) rfl, mW 40 (by decide +kernel) rfl, (by decide +kernel)⟩
theorem lk_X6_148 : lkP RX6 148 yX6_growAllHeld 0 := ⟨mW 531 (by decide +kernel) rfl, mW 36 (by decide +kernel) rfl, (by decide +kernel)⟩
theorem lk_X6_67 : lkP RX6 67 yX6_requireDocument 1 := ⟨mW 372 (by decide +kernel) rfl, mW 36 (by decide +kernel) rfl, (by decide +kernel)⟩
theorem lk_X6_71 : lkP RX6 71 yX6_requireValue 1 := ⟨mW 392 (by decide +kernel) rfl, mW 36 (by decide +kernel) rfl, (by decide +kernel)⟩
theorem lk_X6_74 : lkP RX6 74 yX1_append 2 := ⟨mW 411 (by decide +kernel) rfl, mW 37 (by decide +kernel) rfl, (by decide +kernel)⟩
theorem lk_X6_93 : lkP RX6 93 yX6_requireRising 2 := ⟨mW 456 (by decide +kernel) rfl, mW 36 (by decide +kernel) rfl, (by decide +kernel)⟩
theorem lk_X6_97 : lkP RX6 97 yX6_requireLastDay 1 := ⟨mW 460 (by decide +kernel) rfl, mW 36 (by decide +kernel) rfl, (by decide +kernel)⟩
theorem fk_X6_19 : fkP RX6 19 RX6 TX6 11 6 1 := ⟨inW6, rfl, by decide, mW 200 (by decide +kernel) rfl, rfl⟩
theorem lk_X6_100 : lkP RX6 100 yX4_append 3 := ⟨mW 465 (by decide +kernel) rfl, mW 38 (by decide +kernel) rfl, (by decide +kernel)⟩
theorem lk_X6_103 : lkP RX6 103 yX6_requireIndex 1 := ⟨mW 479 (by decide +kernel) rfl, mW 36 (by decide +kernel) rfl, (by decide +kernel)⟩
theorem fk_X6_26 : fkP RX6 26 RX6 TX6 11 6 2 := ⟨inW6, rfl, by decide, mW 201 (by decide +kernel) rfl, rfl⟩
theorem lk_X6_106 : lkP RX6 106 yX5_append 4 := ⟨mW 483 (by decide +kernel) rfl, mW 39 (by decide +kernel) rfl, (by decide +kernel)⟩
theorem lk_X6_204 : lkP RX6 204 yX6_requireRequest 1 := ⟨mW 696 (by decide +kernel) rfl, mW 36 (by decide +kernel) rfl, (by decide +kernel)⟩
theorem lk_X6_211 : lkP RX6 211 yX6_requireWaiting 1 := ⟨mW 708 (by decide +kernel) rfl, mW 36 (by decide +kernel) rfl, (by decide +kernel)⟩
theorem fk_X6_47 : fkP RX6 47 RX6 TX6 11 6 5 := ⟨inW6, rfl, by decide, mW 204 (by decide +kernel) rfl, rfl⟩
theorem fk_X6_207 : fkP RX6 207 RX3 TX3 5 3 2 := ⟨inW3, rfl, by decide, mW 183 (by decide +kernel) rfl, rfl⟩
theorem fk_X6_214 : fkP RX6 214 RX3 TX3 5 3 0 := ⟨inW3, rfl, by decide, mW 179 (by decide +kernel) rfl, rfl⟩
theorem fk_X6_217 : fkP RX6 217 RX3 TX3 5 3 1 := ⟨inW3, rfl, by decide, mW 181 (by decide +kernel) rfl, rfl⟩
theorem lk_X6_218 : lkP RX6 218 yX6_giveDocument 2 := ⟨mW 713 (by decide +kernel) rfl, mW 36 (by decide +kernel) rfl, (by decide +kernel)⟩
theorem fk_X6_240 : fkP RX6 240 RX3 TX3 5 3 4 := ⟨inW3, rfl, by decide, mW 186 (by decide +kernel) rfl, rfl⟩
theorem lk_X6_221 : lkP RX6 221 yX3_countInState 1 := ⟨mW 736 (by decide +kernel) rfl, mW 42 (by decide +kernel) rfl, (by decide +kernel)⟩
theorem lk_X6_172 : lkP RX6 172 yX6_requireNotHeld 2 := ⟨mW 604 (by decide +kernel) rfl, mW 36 (by decide +kernel) rfl, (by decide +kernel)⟩
theorem lk_X6_175 : lkP RX6 175 yX6_findProtectedLine 2 := ⟨mW 609 (by decide +kernel) rfl, mW 36 (by decide +kernel) rfl, (by decide +kernel)⟩
theorem lk_X6_189 : lkP RX6 189 yX6_countHidingReasons 1 := ⟨mW 649 (by decide +kernel) rfl, mW 36 (by decide +kernel) rfl, (by decide +kernel)⟩
theorem lk_X6_275 : lkP RX6 275 yX6_bitOf 1 := ⟨mW 557 (by decide +kernel) rfl, mW 36 (by decide +kernel) rfl, (by decide +kernel)⟩
theorem fk_X6_250 : fkP RX6 250 RX1 TX1 6 1 5 := ⟨inW1, rfl, by decide, mW 78 (by decide +kernel) rfl, rfl⟩
theorem lk_X6_139 : lkP RX6 139 yX6_isHiddenToday 1 := ⟨mW 241 (by decide +kernel) rfl, mW 36 (by decide +kernel) rfl, (by decide +kernel)⟩
theorem lk_X6_178 : lkP RX6 178 yX6_isHiddenByRule 1 := ⟨mW 245 (by decide +kernel) rfl, mW 36 (by decide +kernel) rfl, (by decide +kernel)⟩
theorem lk_X6_186 : lkP RX6 186 yX6_isHiddenBySpan 1 := ⟨mW 253 (by decide +kernel) rfl, mW 36 (by decide +kernel) rfl, (by decide +kernel)⟩
theorem fk_X6_120 : fkP RX6 120 RX6 TX6 11 6 9 := ⟨inW6, rfl, by decide, mW 208 (by decide +kernel) rfl, rfl⟩
theorem fk_X6_84 : fkP RX6 84 RX1 TX1 6 1 1 := ⟨inW1, rfl, by decide, mW 70 (by decide +kernel) rfl, rfl⟩
theorem fk_X6_236 : fkP RX6 236 RX6 TX6 11 6 10 := ⟨inW6, rfl, by decide, mW 209 (by decide +kernel) rfl, rfl⟩
theorem lk_X6_154 : lkP RX6 154 yX6_contains 2 := ⟨mW 554 (by decide +kernel) rfl, mW 36 (by decide +kernel) rfl, (by decide +kernel)⟩
theorem fk_X6_51 : fkP RX6 51 RX6 TX6 11 6 6 := ⟨inW6, rfl, by decide, mW 205 (by decide +kernel) rfl, rfl⟩
theorem lk_X6_162 : lkP RX6 162 yX0_closure 1 := ⟨mW 535 (by decide +kernel) rfl, mW 40 (by decide +kernel) rfl, (by decide +kernel)⟩
theorem lg_X6_278 : Cond.constantLong RX6 278 (-1) ∈ WG := mW 613 (by decide +kernel) rfl
theorem lk_X6_280 : lkP RX6 280 yX6_findLowestHidden 1 := ⟨mW 614 (by decide +kernel) rfl, mW 36 (by decide +kernel) rfl, (by decide +kernel)⟩
theorem fk_X6_40 : fkP RX6 40 RX6 TX6 11 6 4 := ⟨inW6, rfl, by decide, mW 203 (by decide +kernel) rfl, rfl⟩
theorem lk_X6_289 : lkP RX6 289 yX2_append 2 := ⟨mW 725 (by decide +kernel) rfl, mW 41 (by decide +kernel) rfl, (by decide +kernel)⟩
theorem fk_X6_55 : fkP RX6 55 RX6 TX6 11 6 7 := ⟨inW6, rfl, by decide, mW 206 (by decide +kernel) rfl, rfl⟩
theorem fk_X6_59 : fkP RX6 59 RX6 TX6 11 6 8 := ⟨inW6, rfl, by decide, mW 207 (by decide +kernel) rfl, rfl⟩
theorem lk_X6_283 : lkP RX6 283 yX6_isFreeFor 2 := ⟨mW 717 (by decide +kernel) rfl, mW 36 (by decide +kernel) rfl, (by decide +kernel)⟩
theorem lk_X6_286 : lkP RX6 286 yX6_give 2 := ⟨mW 721 (by decide +kernel) rfl, mW 36 (by decide +kernel) rfl, (by decide +kernel)⟩
theorem lk_X6_151 : lkP RX6 151 yX6_requireAsker 1 := ⟨mW 550 (by decide +kernel) rfl, mW 36 (by decide +kernel) rfl, (by decide +kernel)⟩
theorem lk_X6_158 : lkP RX6 158 yX2_linesGivenTo 1 := ⟨mW 565 (by decide +kernel) rfl, mW 41 (by decide +kernel) rfl, (by decide +kernel)⟩
theorem lk_X6_166 : lkP RX6 166 yJ13_bitCount_95d88 1 := ⟨mW 577 (by decide +kernel) rfl, mW 50 (by decide +kernel) rfl, (by decide +kernel)⟩
theorem lk_X6_132 : lkP RX6 132 yX6_countHidden 0 := ⟨mW 237 (by decide +kernel) rfl, mW 36 (by decide +kernel) rfl, (by decide +kernel)⟩
theorem fk_X6_87 : fkP RX6 87 RX1 TX1 6 1 2 := ⟨inW1, rfl, by decide, mW 72 (by decide +kernel) rfl, rfl⟩
theorem lk_X6_11 : lkN RX6 11 yX1_init 0 := ⟨(by decide +kernel), mW 37 (by decide +kernel) rfl, (by decide +kernel)⟩
theorem lk_X6_18 : lkN RX6 18 yX4_init 0 := ⟨(by decide +kernel), mW 38 (by decide +kernel) rfl, (by decide +kernel)⟩
theorem lk_X6_25 : lkN RX6 25 yX5_init 0 := ⟨(by decide +kernel), mW 39 (by decide +kernel) rfl, (by decide +kernel)⟩
theorem lk_X6_32 : lkN RX6 32 yX0_init 0 := ⟨(by decide +kernel), mW 40 (by decide +kernel) rfl, (by decide +kernel)⟩
theorem lk_X6_39 : lkN RX6 39 yX2_init 0 := ⟨(by decide +kernel), mW 41 (by decide +kernel) rfl, (by decide +kernel)⟩
theorem lk_X6_46 : lkN RX6 46 yX3_init 0 := ⟨(by decide +kernel), mW 42 (by decide +kernel) rfl, (by decide +kernel)⟩
theorem fk_X6_81 : fkP RX6 81 RX1 TX1 6 1 3 := ⟨inW1, rfl, by decide, mW 74 (by decide +kernel) rfl, rfl⟩
theorem lk_X6_269 : lkP RX6 269 yX4_hide 2 := ⟨mW 249 (by decide +kernel) rfl, mW 38 (by decide +kernel) rfl, (by decide +kernel)⟩
theorem lk_X6_272 : lkP RX6 272 yX5_hide 3 := ⟨mW 257 (by decide +kernel) rfl, mW 39 (by decide +kernel) rfl, (by decide +kernel)⟩
theorem lk_X6_233 : lkP RX6 233 yX3_countLate 1 := ⟨mW 273 (by decide +kernel) rfl, mW 42 (by decide +kernel) rfl, (by decide +kernel)⟩
theorem lk_X6_109 : lkP RX6 109 yX5_has 1 := ⟨mW 497 (by decide +kernel) rfl, mW 39 (by decide +kernel) rfl, (by decide +kernel)⟩
theorem lk_X6_123 : lkP RX6 123 yX5_isInForce 2 := ⟨mW 502 (by decide +kernel) rfl, mW 39 (by decide +kernel) rfl, (by decide +kernel)⟩
theorem fk_X6_135 : fkP RX6 135 RX5 TX5 6 5 4 := ⟨inW5, rfl, by decide, mW 123 (by decide +kernel) rfl, rfl⟩
theorem fk_X6_90 : fkP RX6 90 RX1 TX1 6 1 0 := ⟨inW1, rfl, by decide, mW 68 (by decide +kernel) rfl, rfl⟩
theorem lk_X6_198 : lkP RX6 198 yX3_isWaiting 2 := ⟨mW 677 (by decide +kernel) rfl, mW 42 (by decide +kernel) rfl, (by decide +kernel)⟩
theorem lk_X6_203 : lkP RX6 203 yX3_append 3 := ⟨mW 682 (by decide +kernel) rfl, mW 42 (by decide +kernel) rfl, (by decide +kernel)⟩
theorem fk_X6_245 : fkP RX6 245 RX1 TX1 6 1 4 := ⟨inW1, rfl, by decide, mW 76 (by decide +kernel) rfl, rfl⟩
theorem fk_X7_82 : fkP RX7 82 RX7 TX7 31 7 1 := ⟨inW7, rfl, by decide, mW 787 (by decide +kernel) rfl, rfl⟩
theorem lk_X7_92 : lkP RX7 92 yX7_refuse 1 := ⟨mW 888 (by decide +kernel) rfl, mW 43 (by decide +kernel) rfl, (by decide +kernel)⟩
theorem fk_X7_79 : fkP RX7 79 RX7 TX7 31 7 0 := ⟨inW7, rfl, by decide, mW 786 (by decide +kernel) rfl, rfl⟩
theorem lk_X7_100 : lkP RX7 100 yX7_noLine 1 := ⟨mW 907 (by decide +kernel) rfl, mW 43 (by decide +kernel) rfl, (by decide +kernel)⟩
theorem fk_X7_128 : fkP RX7 128 RX7 TX7 31 7 5 := ⟨inW7, rfl, by decide, mW 791 (by decide +kernel) rfl, rfl⟩
theorem fk_X7_41 : fkP RX7 41 RX7 TX7 31 7 19 := ⟨inW7, rfl, by decide, mW 805 (by decide +kernel) rfl, rfl⟩
theorem fk_X7_44 : fkP RX7 44 RX7 TX7 31 7 20 := ⟨inW7, rfl, by decide, mW 806 (by decide +kernel) rfl, rfl⟩
theorem fk_X7_47 : fkP RX7 47 RX7 TX7 31 7 21 := ⟨inW7, rfl, by decide, mW 807 (by decide +kernel) rfl, rfl⟩
theorem lk_X7_131 : lkP RX7 131 yX7_grows 1 := ⟨mW 967 (by decide +kernel) rfl, mW 43 (by decide +kernel) rfl, (by decide +kernel)⟩
theorem lk_X7_96 : lkP RX7 96 yX7_noDocument 1 := ⟨mW 896 (by decide +kernel) rfl, mW 43 (by decide +kernel) rfl, (by decide +kernel)⟩
theorem lk_X7_85 : lkP RX7 85 yX7_isIn 3 := ⟨mW 900 (by decide +kernel) rfl, mW 43 (by decide +kernel) rfl, (by decide +kernel)⟩
theorem fk_X7_89 : fkP RX7 89 RX7 TX7 31 7 2 := ⟨inW7, rfl, by decide, mW 788 (by decide +kernel) rfl, rfl⟩
theorem fk_X7_13 : fkP RX7 13 RX7 TX7 31 7 10 := ⟨inW7, rfl, by decide, mW 796 (by decide +kernel) rfl, rfl⟩
theorem fk_X7_17 : fkP RX7 17 RX7 TX7 31 7 11 := ⟨inW7, rfl, by decide, mW 797 (by decide +kernel) rfl, rfl⟩
theorem fk_X7_106 : fkP RX7 106 RX7 TX7 31 7 8 := ⟨inW7, rfl, by decide, mW 794 (by decide +kernel) rfl, rfl⟩
theorem fk_X7_109 : fkP RX7 109 RX7 TX7 31 7 3 := ⟨inW7, rfl, by decide, mW 789 (by decide +kernel) rfl, rfl⟩
theorem fk_X7_20 : fkP RX7 20 RX7 TX7 31 7 12 := ⟨inW7, rfl, by decide, mW 798 (by decide +kernel) rfl, rfl⟩
theorem fk_X7_23 : fkP RX7 23 RX7 TX7 31 7 13 := ⟨inW7, rfl, by decide, mW 799 (by decide +kernel) rfl, rfl⟩
theorem fk_X7_26 : fkP RX7 26 RX7 TX7 31 7 14 := ⟨inW7, rfl, by decide, mW 800 (by decide +kernel) rfl, rfl⟩
theorem fk_X7_112 : fkP RX7 112 RX7 TX7 31 7 4 := ⟨inW7, rfl, by decide, mW 790 (by decide +kernel) rfl, rfl⟩
theorem fk_X7_29 : fkP RX7 29 RX7 TX7 31 7 15 := ⟨inW7, rfl, by decide, mW 801 (by decide +kernel) rfl, rfl⟩
theorem fk_X7_32 : fkP RX7 32 RX7 TX7 31 7 16 := ⟨inW7, rfl, by decide, mW 802 (by decide +kernel) rfl, rfl⟩
theorem fk_X7_35 : fkP RX7 35 RX7 TX7 31 7 17 := ⟨inW7, rfl, by decide, mW 803 (by decide +kernel) rfl, rfl⟩
theorem fk_X7_38 : fkP RX7 38 RX7 TX7 31 7 18 := ⟨inW7, rfl, by decide, mW 804 (by decide +kernel) rfl, rfl⟩
theorem lk_X7_158 : lkP RX7 158 yX7_noRequest 1 := ⟨mW 1032 (by decide +kernel) rfl, mW 43 (by decide +kernel) rfl, (by decide +kernel)⟩
theorem fk_X7_75 : fkP RX7 75 RX7 TX7 31 7 30 := ⟨inW7, rfl, by decide, mW 816 (by decide +kernel) rfl, rfl⟩
theorem fk_X7_50 : fkP RX7 50 RX7 TX7 31 7 22 := ⟨inW7, rfl, by decide, mW 808 (by decide +kernel) rfl, rfl⟩
theorem fk_X7_53 : fkP RX7 53 RX7 TX7 31 7 23 := ⟨inW7, rfl, by decide, mW 809 (by decide +kernel) rfl, rfl⟩
theorem fk_X7_69 : fkP RX7 69 RX7 TX7 31 7 28 := ⟨inW7, rfl, by decide, mW 814 (by decide +kernel) rfl, rfl⟩
theorem lk_X7_148 : lkP RX7 148 yX7_first 2 := ⟨mW 1004 (by decide +kernel) rfl, mW 43 (by decide +kernel) rfl, (by decide +kernel)⟩
theorem fk_X7_62 : fkP RX7 62 RX7 TX7 31 7 26 := ⟨inW7, rfl, by decide, mW 812 (by decide +kernel) rfl, rfl⟩
theorem fk_X7_59 : fkP RX7 59 RX7 TX7 31 7 25 := ⟨inW7, rfl, by decide, mW 811 (by decide +kernel) rfl, rfl⟩
theorem fk_X7_7 : fkP RX7 7 RX7 TX7 31 7 7 := ⟨inW7, rfl, by decide, mW 793 (by decide +kernel) rfl, rfl⟩
theorem fk_X7_161 : fkP RX7 161 RX7 TX7 31 7 9 := ⟨inW7, rfl, by decide, mW 795 (by decide +kernel) rfl, rfl⟩
theorem fk_X7_155 : fkP RX7 155 RX7 TX7 31 7 6 := ⟨inW7, rfl, by decide, mW 792 (by decide +kernel) rfl, rfl⟩
theorem fk_X7_72 : fkP RX7 72 RX7 TX7 31 7 29 := ⟨inW7, rfl, by decide, mW 815 (by decide +kernel) rfl, rfl⟩
theorem lk_X7_121 : lkP RX7 121 yX7_hides 1 := ⟨mW 943 (by decide +kernel) rfl, mW 43 (by decide +kernel) rfl, (by decide +kernel)⟩
theorem fk_X7_65 : fkP RX7 65 RX7 TX7 31 7 27 := ⟨inW7, rfl, by decide, mW 813 (by decide +kernel) rfl, rfl⟩
theorem lk_X7_103 : lkP RX7 103 yX7_index 1 := ⟨mW 919 (by decide +kernel) rfl, mW 43 (by decide +kernel) rfl, (by decide +kernel)⟩
theorem lk_X7_141 : lkP RX7 141 yX7_betrayed 2 := ⟨mW 1008 (by decide +kernel) rfl, mW 43 (by decide +kernel) rfl, (by decide +kernel)⟩
theorem lk_X7_145 : lkP RX7 145 yX7_noReasons 2 := ⟨mW 1000 (by decide +kernel) rfl, mW 43 (by decide +kernel) rfl, (by decide +kernel)⟩
theorem lk_X7_152 : lkP RX7 152 yX7_cause 2 := ⟨mW 1016 (by decide +kernel) rfl, mW 43 (by decide +kernel) rfl, (by decide +kernel)⟩
theorem lk_X7_115 : lkP RX7 115 yX7_byRule 1 := ⟨mW 947 (by decide +kernel) rfl, mW 43 (by decide +kernel) rfl, (by decide +kernel)⟩
theorem lk_X7_118 : lkP RX7 118 yX7_bySpan 1 := ⟨mW 951 (by decide +kernel) rfl, mW 43 (by decide +kernel) rfl, (by decide +kernel)⟩
theorem lk_X7_135 : lkP RX7 135 yX7_noAsker 1 := ⟨mW 975 (by decide +kernel) rfl, mW 43 (by decide +kernel) rfl, (by decide +kernel)⟩
theorem lk_X7_124 : lkP RX7 124 yX7_hiddenLines 0 := ⟨mW 939 (by decide +kernel) rfl, mW 43 (by decide +kernel) rfl, (by decide +kernel)⟩
theorem lk_X7_138 : lkP RX7 138 yX7_holds 2 := ⟨mW 983 (by decide +kernel) rfl, mW 43 (by decide +kernel) rfl, (by decide +kernel)⟩
theorem fk_X7_56 : fkP RX7 56 RX7 TX7 31 7 24 := ⟨inW7, rfl, by decide, mW 810 (by decide +kernel) rfl, rfl⟩
theorem lk_X7_165 : lkP RX7 165 yX7_lateOnes 0 := ⟨mW 1060 (by decide +kernel) rfl, mW 43 (by decide +kernel) rfl, (by decide +kernel)⟩
theorem cd_J13_bitCount_95d88 : Cond.code yJ13_bitCount_95d88 cJ13_bitCount_95d88 2 (some .int) ∈ WG := mW 579 (by decide +kernel) rfl
theorem st_J13_bitCount_95d88 : Cond.static yJ13_bitCount_95d88 ∈ WG := mW 578 (by decide +kernel) rfl
theorem cd_L_addDocument : Cond.codeWith yL_addDocument cL_addDocument 3 (some .int) [(0, 8, 11, 13)] ∈ WG := mW 283 (by decide +kernel) rfl
theorem st_L_addDocument : Cond.static yL_addDocument ∈ WG := mW 282 (by decide +kernel) rfl
theorem cd_L_addJoin : Cond.codeWith yL_addJoin cL_addJoin 6 (some .int) [(0, 12, 15, 19), (0, 12, 19, 21), (0, 12, 23, 13)] ∈ WG := mW 515 (by decide +kernel) rfl
theorem st_L_addJoin : Cond.static yL_addJoin ∈ WG := mW 514 (by decide +kernel) rfl
theorem cd_L_addLine : Cond.codeWith yL_addLine cL_addLine 5 (some .int) [(0, 10, 13, 19), (0, 10, 17, 21), (0, 10, 21, 13)] ∈ WG := mW 365 (by decide +kernel) rfl
theorem st_L_addLine : Cond.static yL_addLine ∈ WG := mW 364 (by decide +kernel) rfl
theorem cd_L_addRule : Cond.codeWith yL_addRule cL_addRule 6 (some .int) [(0, 12, 15, 21), (0, 12, 19, 13)] ∈ WG := mW 451 (by decide +kernel) rfl
theorem st_L_addRule : Cond.static yL_addRule ∈ WG := mW 450 (by decide +kernel) rfl
theorem cd_L_addSpan : Cond.codeWith yL_addSpan cL_addSpan 7 (some .int) [(0, 14, 17, 19), (0, 14, 21, 21), (0, 14, 25, 13)] ∈ WG := mW 474 (by decide +kernel) rfl
theorem st_L_addSpan : Cond.static yL_addSpan ∈ WG := mW 473 (by decide +kernel) rfl
theorem cd_L_answer : Cond.codeWith yL_answer cL_answer 4 (some .int) [(0, 9, 12, 19), (0, 9, 15, 13)] ∈ WG := mW 703 (by decide +kernel) rfl
theorem st_L_answer : Cond.static yL_answer ∈ WG := mW 702 (by decide +kernel) rfl
theorem cd_L_answeredShare : Cond.codeWith yL_answeredShare cL_answeredShare 3 (some .int) [(0, 8, 11, 77)] ∈ WG := mW 774 (by decide +kernel) rfl
theorem st_L_answeredShare : Cond.static yL_answeredShare ∈ WG := mW 773 (by decide +kernel) rfl
theorem cd_L_causes : Cond.codeWith yL_causes cL_causes 5 (some .int) [(0, 10, 13, 21), (0, 10, 17, 19), (0, 10, 21, 13)] ∈ WG := mW 644 (by decide +kernel) rfl
theorem st_L_causes : Cond.static yL_causes ∈ WG := mW 643 (by decide +kernel) rfl
theorem cd_L_documentOf : Cond.codeWith yL_documentOf cL_documentOf 4 (some .int) [(0, 9, 12, 19)] ∈ WG := mW 430 (by decide +kernel) rfl
theorem st_L_documentOf : Cond.static yL_documentOf ∈ WG := mW 429 (by decide +kernel) rfl
theorem cd_L_given : Cond.codeWith yL_given cL_given 4 (some .int) [(0, 9, 12, 21)] ∈ WG := mW 585 (by decide +kernel) rfl
theorem st_L_given : Cond.static yL_given ∈ WG := mW 584 (by decide +kernel) rfl
theorem cd_L_held : Cond.codeWith yL_held cL_held 4 (some .int) [(0, 9, 12, 21)] ∈ WG := mW 572 (by decide +kernel) rfl
theorem st_L_held : Cond.static yL_held ∈ WG := mW 571 (by decide +kernel) rfl
theorem cd_L_holders : Cond.codeWith yL_holders cL_holders 4 (some .int) [(0, 9, 12, 19)] ∈ WG := mW 592 (by decide +kernel) rfl
theorem st_L_holders : Cond.static yL_holders ∈ WG := mW 591 (by decide +kernel) rfl
theorem cd_L_holds : Cond.codeWith yL_holds cL_holds 5 (some .int) [(0, 17, 20, 21), (0, 17, 24, 19)] ∈ WG := mW 545 (by decide +kernel) rfl
theorem st_L_holds : Cond.static yL_holds ∈ WG := mW 544 (by decide +kernel) rfl
theorem cd_L_holdsByLog : Cond.codeWith yL_holdsByLog cL_holdsByLog 5 (some .int) [(0, 17, 20, 21), (0, 17, 24, 19)] ∈ WG := mW 560 (by decide +kernel) rfl
theorem st_L_holdsByLog : Cond.static yL_holdsByLog ∈ WG := mW 559 (by decide +kernel) rfl
theorem cd_L_indexOf : Cond.codeWith yL_indexOf cL_indexOf 4 (some .int) [(0, 9, 12, 19)] ∈ WG := mW 437 (by decide +kernel) rfl
theorem st_L_indexOf : Cond.static yL_indexOf ∈ WG := mW 436 (by decide +kernel) rfl
theorem cd_L_isHidden : Cond.codeWith yL_isHidden cL_isHidden 4 (some .int) [(0, 16, 19, 19)] ∈ WG := mW 508 (by decide +kernel) rfl
theorem st_L_isHidden : Cond.static yL_isHidden ∈ WG := mW 507 (by decide +kernel) rfl
theorem cd_L_lift : Cond.codeWith yL_lift cL_lift 4 (some .int) [(0, 9, 12, 19), (0, 9, 15, 13)] ∈ WG := mW 492 (by decide +kernel) rfl
theorem st_L_lift : Cond.static yL_lift ∈ WG := mW 491 (by decide +kernel) rfl
theorem cd_L_lines : Cond.codeWith yL_lines cL_lines 4 (some .int) [(0, 9, 12, 19)] ∈ WG := mW 444 (by decide +kernel) rfl
theorem st_L_lines : Cond.static yL_lines ∈ WG := mW 443 (by decide +kernel) rfl
theorem cd_L_owed : Cond.codeWith yL_owed cL_owed 4 (some .int) [(0, 9, 12, 21)] ∈ WG := mW 750 (by decide +kernel) rfl
theorem st_L_owed : Cond.static yL_owed ∈ WG := mW 749 (by decide +kernel) rfl
theorem cd_L_pass : Cond.codeWith yL_pass cL_pass 4 (some .int) [(0, 9, 12, 21)] ∈ WG := mW 765 (by decide +kernel) rfl
theorem st_L_pass : Cond.static yL_pass ∈ WG := mW 764 (by decide +kernel) rfl
theorem cd_L_pay : Cond.codeWith yL_pay cL_pay 5 (some .int) [(0, 10, 13, 21)] ∈ WG := mW 757 (by decide +kernel) rfl
theorem st_L_pay : Cond.static yL_pay ∈ WG := mW 756 (by decide +kernel) rfl
theorem cd_L_request : Cond.codeWith yL_request cL_request 5 (some .int) [(0, 10, 13, 21), (0, 10, 17, 19), (0, 10, 21, 85), (0, 10, 25, 13)] ∈ WG := mW 655 (by decide +kernel) rfl
theorem st_L_request : Cond.static yL_request ∈ WG := mW 654 (by decide +kernel) rfl
theorem cd_L_rescan : Cond.codeWith yL_rescan cL_rescan 5 (some .int) [(0, 10, 13, 19), (0, 10, 17, 21)] ∈ WG := mW 418 (by decide +kernel) rfl
theorem st_L_rescan : Cond.static yL_rescan ∈ WG := mW 417 (by decide +kernel) rfl
theorem cd_L_root : Cond.codeWith yL_root cL_root 5 (some .int) [(0, 10, 13, 21), (0, 10, 17, 19), (0, 10, 21, 13), (0, 10, 25, 77)] ∈ WG := mW 620 (by decide +kernel) rfl
theorem st_L_root : Cond.static yL_root ∈ WG := mW 619 (by decide +kernel) rfl
theorem cd_L_setPrice : Cond.codeWith yL_setPrice cL_setPrice 4 (some .int) [(0, 9, 12, 21)] ∈ WG := mW 742 (by decide +kernel) rfl
theorem st_L_setPrice : Cond.static yL_setPrice ∈ WG := mW 741 (by decide +kernel) rfl
theorem cd_L_state : Cond.codeWith yL_state cL_state 4 (some .int) [(0, 9, 12, 19)] ∈ WG := mW 691 (by decide +kernel) rfl
theorem st_L_state : Cond.static yL_state ∈ WG := mW 690 (by decide +kernel) rfl
theorem cd_L_why : Cond.codeWith yL_why cL_why 5 (some .int) [(0, 10, 13, 21), (0, 10, 17, 19), (0, 10, 21, 13)] ∈ WG := mW 599 (by decide +kernel) rfl
theorem st_L_why : Cond.static yL_why ∈ WG := mW 598 (by decide +kernel) rfl
theorem cd_L_withdraw : Cond.codeWith yL_withdraw cL_withdraw 4 (some .int) [(0, 9, 12, 19), (0, 9, 15, 13)] ∈ WG := mW 731 (by decide +kernel) rfl
theorem st_L_withdraw : Cond.static yL_withdraw ∈ WG := mW 730 (by decide +kernel) rfl
theorem cd_X0_addTold : Cond.code yX0_addTold cX0_addTold 6 (some .long) ∈ WG := mW 542 (by decide +kernel) rfl
theorem im_X0_addTold : Cond.instanceMethod yX0_addTold ∈ WG := mW 541 (by decide +kernel) rfl
theorem se_X0_addTold : Cond.selects yX0_addTold.cls yX0_addTold yX0_addTold ∈ WG := mW 9 (by decide +kernel) rfl
theorem cd_X0_append : Cond.code yX0_append cX0_append 4 (some .int) ∈ WG := mW 524 (by decide +kernel) rfl
theorem im_X0_append : Cond.instanceMethod yX0_append ∈ WG := mW 522 (by decide +kernel) rfl
theorem se_X0_append : Cond.selects yX0_append.cls yX0_append yX0_append ∈ WG := mW 523 (by decide +kernel) rfl
theorem cd_X0_closure : Cond.code yX0_closure cX0_closure 8 (some .long) ∈ WG := mW 538 (by decide +kernel) rfl
theorem im_X0_closure : Cond.instanceMethod yX0_closure ∈ WG := mW 536 (by decide +kernel) rfl
theorem se_X0_closure : Cond.selects yX0_closure.cls yX0_closure yX0_closure ∈ WG := mW 537 (by decide +kernel) rfl
theorem cd_X0_init : Cond.code yX0_init cX0_init 1 none ∈ WG := mW 143 (by decide +kernel) rfl
theorem im_X0_init : Cond.instanceMethod yX0_init ∈ WG := mW 142 (by decide +kernel) rfl
theorem cd_X1_append : Cond.code yX1_append cX1_append 3 (some .int) ∈ WG := mW 414 (by decide +kernel) rfl
theorem im_X1_append : Cond.instanceMethod yX1_append ∈ WG := mW 412 (by decide +kernel) rfl
theorem se_X1_append : Cond.selects yX1_append.cls yX1_append yX1_append ∈ WG := mW 413 (by decide +kernel) rfl
theorem cd_X1_appendDocument : Cond.code yX1_appendDocument cX1_appendDocument 1 (some .int) ∈ WG := mW 292 (by decide +kernel) rfl
theorem im_X1_appendDocument : Cond.instanceMethod yX1_appendDocument ∈ WG := mW 290 (by decide +kernel) rfl
theorem se_X1_appendDocument : Cond.selects yX1_appendDocument.cls yX1_appendDocument yX1_appendDocument ∈ WG := mW 291 (by decide +kernel) rfl
theorem cd_X1_init : Cond.code yX1_init cX1_init 1 none ∈ WG := mW 65 (by decide +kernel) rfl
theorem im_X1_init : Cond.instanceMethod yX1_init ∈ WG := mW 64 (by decide +kernel) rfl
theorem cd_X2_append : Cond.code yX2_append cX2_append 3 none ∈ WG := mW 728 (by decide +kernel) rfl
theorem im_X2_append : Cond.instanceMethod yX2_append ∈ WG := mW 726 (by decide +kernel) rfl
theorem se_X2_append : Cond.selects yX2_append.cls yX2_append yX2_append ∈ WG := mW 727 (by decide +kernel) rfl
theorem cd_X2_init : Cond.code yX2_init cX2_init 1 none ∈ WG := mW 160 (by decide +kernel) rfl
theorem im_X2_init : Cond.instanceMethod yX2_init ∈ WG := mW 159 (by decide +kernel) rfl
theorem cd_X2_linesGivenTo : Cond.code yX2_linesGivenTo cX2_linesGivenTo 5 (some .long) ∈ WG := mW 568 (by decide +kernel) rfl
theorem im_X2_linesGivenTo : Cond.instanceMethod yX2_linesGivenTo ∈ WG := mW 566 (by decide +kernel) rfl
theorem se_X2_linesGivenTo : Cond.selects yX2_linesGivenTo.cls yX2_linesGivenTo yX2_linesGivenTo ∈ WG := mW 567 (by decide +kernel) rfl
theorem cd_X3_append : Cond.code yX3_append cX3_append 4 (some .int) ∈ WG := mW 685 (by decide +kernel) rfl
theorem im_X3_append : Cond.instanceMethod yX3_append ∈ WG := mW 683 (by decide +kernel) rfl
theorem se_X3_append : Cond.selects yX3_append.cls yX3_append yX3_append ∈ WG := mW 684 (by decide +kernel) rfl
theorem cd_X3_countInState : Cond.code yX3_countInState cX3_countInState 4 (some .int) ∈ WG := mW 739 (by decide +kernel) rfl
theorem im_X3_countInState : Cond.instanceMethod yX3_countInState ∈ WG := mW 737 (by decide +kernel) rfl
theorem se_X3_countInState : Cond.selects yX3_countInState.cls yX3_countInState yX3_countInState ∈ WG := mW 738 (by decide +kernel) rfl
theorem cd_X3_countLate : Cond.code yX3_countLate cX3_countLate 4 (some .int) ∈ WG := mW 276 (by decide +kernel) rfl
theorem im_X3_countLate : Cond.instanceMethod yX3_countLate ∈ WG := mW 274 (by decide +kernel) rfl
theorem se_X3_countLate : Cond.selects yX3_countLate.cls yX3_countLate yX3_countLate ∈ WG := mW 275 (by decide +kernel) rfl
theorem cd_X3_init : Cond.code yX3_init cX3_init 1 none ∈ WG := mW 176 (by decide +kernel) rfl
theorem im_X3_init : Cond.instanceMethod yX3_init ∈ WG := mW 175 (by decide +kernel) rfl
theorem cd_X3_isWaiting : Cond.code yX3_isWaiting cX3_isWaiting 4 (some .boolean) ∈ WG := mW 680 (by decide +kernel) rfl
theorem im_X3_isWaiting : Cond.instanceMethod yX3_isWaiting ∈ WG := mW 678 (by decide +kernel) rfl
theorem se_X3_isWaiting : Cond.selects yX3_isWaiting.cls yX3_isWaiting yX3_isWaiting ∈ WG := mW 679 (by decide +kernel) rfl
theorem cd_X4_append : Cond.code yX4_append cX4_append 4 (some .int) ∈ WG := mW 468 (by decide +kernel) rfl
theorem im_X4_append : Cond.instanceMethod yX4_append ∈ WG := mW 466 (by decide +kernel) rfl
theorem se_X4_append : Cond.selects yX4_append.cls yX4_append yX4_append ∈ WG := mW 467 (by decide +kernel) rfl
theorem cd_X4_hide : Cond.code yX4_hide cX4_hide 4 (some .boolean) ∈ WG := mW 252 (by decide +kernel) rfl
theorem im_X4_hide : Cond.instanceMethod yX4_hide ∈ WG := mW 250 (by decide +kernel) rfl
theorem se_X4_hide : Cond.selects yX4_hide.cls yX4_hide yX4_hide ∈ WG := mW 251 (by decide +kernel) rfl
theorem cd_X4_init : Cond.code yX4_init cX4_init 1 none ∈ WG := mW 97 (by decide +kernel) rfl
theorem im_X4_init : Cond.instanceMethod yX4_init ∈ WG := mW 96 (by decide +kernel) rfl
theorem cd_X5_append : Cond.code yX5_append cX5_append 5 (some .int) ∈ WG := mW 486 (by decide +kernel) rfl
theorem im_X5_append : Cond.instanceMethod yX5_append ∈ WG := mW 484 (by decide +kernel) rfl
theorem se_X5_append : Cond.selects yX5_append.cls yX5_append yX5_append ∈ WG := mW 485 (by decide +kernel) rfl
theorem cd_X5_has : Cond.code yX5_has cX5_has 2 (some .boolean) ∈ WG := mW 500 (by decide +kernel) rfl
theorem im_X5_has : Cond.instanceMethod yX5_has ∈ WG := mW 498 (by decide +kernel) rfl
theorem se_X5_has : Cond.selects yX5_has.cls yX5_has yX5_has ∈ WG := mW 499 (by decide +kernel) rfl
theorem cd_X5_hide : Cond.code yX5_hide cX5_hide 5 (some .boolean) ∈ WG := mW 260 (by decide +kernel) rfl
theorem im_X5_hide : Cond.instanceMethod yX5_hide ∈ WG := mW 258 (by decide +kernel) rfl
theorem se_X5_hide : Cond.selects yX5_hide.cls yX5_hide yX5_hide ∈ WG := mW 259 (by decide +kernel) rfl
theorem cd_X5_init : Cond.code yX5_init cX5_init 1 none ∈ WG := mW 116 (by decide +kernel) rfl
theorem im_X5_init : Cond.instanceMethod yX5_init ∈ WG := mW 115 (by decide +kernel) rfl
theorem cd_X5_isInForce : Cond.code yX5_isInForce cX5_isInForce 3 (some .boolean) ∈ WG := mW 264 (by decide +kernel) rfl
theorem im_X5_isInForce : Cond.instanceMethod yX5_isInForce ∈ WG := mW 262 (by decide +kernel) rfl
theorem se_X5_isInForce : Cond.selects yX5_isInForce.cls yX5_isInForce yX5_isInForce ∈ WG := mW 263 (by decide +kernel) rfl
theorem cd_X6_addDocument : Cond.code yX6_addDocument cX6_addDocument 1 (some .int) ∈ WG := mW 288 (by decide +kernel) rfl
theorem im_X6_addDocument : Cond.instanceMethod yX6_addDocument ∈ WG := mW 286 (by decide +kernel) rfl
theorem se_X6_addDocument : Cond.selects yX6_addDocument.cls yX6_addDocument yX6_addDocument ∈ WG := mW 287 (by decide +kernel) rfl
theorem cd_X6_addJoin : Cond.code yX6_addJoin cX6_addJoin 5 (some .int) ∈ WG := mW 519 (by decide +kernel) rfl
theorem im_X6_addJoin : Cond.instanceMethod yX6_addJoin ∈ WG := mW 517 (by decide +kernel) rfl
theorem se_X6_addJoin : Cond.selects yX6_addJoin.cls yX6_addJoin yX6_addJoin ∈ WG := mW 518 (by decide +kernel) rfl
theorem cd_X6_addLine : Cond.code yX6_addLine cX6_addLine 3 (some .int) ∈ WG := mW 371 (by decide +kernel) rfl
theorem im_X6_addLine : Cond.instanceMethod yX6_addLine ∈ WG := mW 369 (by decide +kernel) rfl
theorem se_X6_addLine : Cond.selects yX6_addLine.cls yX6_addLine yX6_addLine ∈ WG := mW 370 (by decide +kernel) rfl
theorem cd_X6_addRule : Cond.code yX6_addRule cX6_addRule 4 (some .int) ∈ WG := mW 455 (by decide +kernel) rfl
theorem im_X6_addRule : Cond.instanceMethod yX6_addRule ∈ WG := mW 453 (by decide +kernel) rfl
theorem se_X6_addRule : Cond.selects yX6_addRule.cls yX6_addRule yX6_addRule ∈ WG := mW 454 (by decide +kernel) rfl
theorem cd_X6_addSpan : Cond.code yX6_addSpan cX6_addSpan 5 (some .int) ∈ WG := mW 478 (by decide +kernel) rfl
theorem im_X6_addSpan : Cond.instanceMethod yX6_addSpan ∈ WG := mW 476 (by decide +kernel) rfl
theorem se_X6_addSpan : Cond.selects yX6_addSpan.cls yX6_addSpan yX6_addSpan ∈ WG := mW 477 (by decide +kernel) rfl
theorem cd_X6_answer : Cond.code yX6_answer cX6_answer 2 (some .int) ∈ WG := mW 707 (by decide +kernel) rfl
theorem im_X6_answer : Cond.instanceMethod yX6_answer ∈ WG := mW 705 (by decide +kernel) rfl
theorem se_X6_answer : Cond.selects yX6_answer.cls yX6_answer yX6_answer ∈ WG := mW 706 (by decide +kernel) rfl
theorem cd_X6_answeredShare : Cond.code yX6_answeredShare cX6_answeredShare 2 (some .float) ∈ WG := mW 778 (by decide +kernel) rfl
theorem im_X6_answeredShare : Cond.instanceMethod yX6_answeredShare ∈ WG := mW 776 (by decide +kernel) rfl
theorem se_X6_answeredShare : Cond.selects yX6_answeredShare.cls yX6_answeredShare yX6_answeredShare ∈ WG := mW 777 (by decide +kernel) rfl
theorem cd_X6_bitOf : Cond.code yX6_bitOf cX6_bitOf 1 (some .long) ∈ WG := mW 530 (by decide +kernel) rfl
theorem st_X6_bitOf : Cond.static yX6_bitOf ∈ WG := mW 529 (by decide +kernel) rfl
theorem cd_X6_causes : Cond.code yX6_causes cX6_causes 5 (some .int) ∈ WG := mW 648 (by decide +kernel) rfl
theorem im_X6_causes : Cond.instanceMethod yX6_causes ∈ WG := mW 646 (by decide +kernel) rfl
theorem se_X6_causes : Cond.selects yX6_causes.cls yX6_causes yX6_causes ∈ WG := mW 647 (by decide +kernel) rfl
theorem cd_X6_contains : Cond.code yX6_contains cX6_contains 3 (some .boolean) ∈ WG := mW 556 (by decide +kernel) rfl
theorem st_X6_contains : Cond.static yX6_contains ∈ WG := mW 555 (by decide +kernel) rfl
theorem cd_X6_countHidden : Cond.code yX6_countHidden cX6_countHidden 3 (some .int) ∈ WG := mW 240 (by decide +kernel) rfl
theorem im_X6_countHidden : Cond.instanceMethod yX6_countHidden ∈ WG := mW 239 (by decide +kernel) rfl
theorem se_X6_countHidden : Cond.selects yX6_countHidden.cls yX6_countHidden yX6_countHidden ∈ WG := mW 0 (by decide +kernel) rfl
theorem cd_X6_countHidingReasons : Cond.code yX6_countHidingReasons cX6_countHidingReasons 4 (some .int) ∈ WG := mW 652 (by decide +kernel) rfl
theorem im_X6_countHidingReasons : Cond.instanceMethod yX6_countHidingReasons ∈ WG := mW 651 (by decide +kernel) rfl
theorem se_X6_countHidingReasons : Cond.selects yX6_countHidingReasons.cls yX6_countHidingReasons yX6_countHidingReasons ∈ WG := mW 13 (by decide +kernel) rfl
theorem cd_X6_day : Cond.code yX6_day cX6_day 1 (some .int) ∈ WG := mW 268 (by decide +kernel) rfl
theorem im_X6_day : Cond.instanceMethod yX6_day ∈ WG := mW 266 (by decide +kernel) rfl
theorem se_X6_day : Cond.selects yX6_day.cls yX6_day yX6_day ∈ WG := mW 267 (by decide +kernel) rfl
theorem cd_X6_documentOf : Cond.code yX6_documentOf cX6_documentOf 2 (some .int) ∈ WG := mW 434 (by decide +kernel) rfl
theorem im_X6_documentOf : Cond.instanceMethod yX6_documentOf ∈ WG := mW 432 (by decide +kernel) rfl
theorem se_X6_documentOf : Cond.selects yX6_documentOf.cls yX6_documentOf yX6_documentOf ∈ WG := mW 433 (by decide +kernel) rfl
theorem cd_X6_fees : Cond.code yX6_fees cX6_fees 1 (some .long) ∈ WG := mW 280 (by decide +kernel) rfl
theorem im_X6_fees : Cond.instanceMethod yX6_fees ∈ WG := mW 278 (by decide +kernel) rfl
theorem se_X6_fees : Cond.selects yX6_fees.cls yX6_fees yX6_fees ∈ WG := mW 279 (by decide +kernel) rfl
theorem cd_X6_findLowestHidden : Cond.code yX6_findLowestHidden cX6_findLowestHidden 4 (some .int) ∈ WG := mW 617 (by decide +kernel) rfl
theorem im_X6_findLowestHidden : Cond.instanceMethod yX6_findLowestHidden ∈ WG := mW 616 (by decide +kernel) rfl
theorem se_X6_findLowestHidden : Cond.selects yX6_findLowestHidden.cls yX6_findLowestHidden yX6_findLowestHidden ∈ WG := mW 12 (by decide +kernel) rfl
theorem cd_X6_findProtectedLine : Cond.code yX6_findProtectedLine cX6_findProtectedLine 7 (some .int) ∈ WG := mW 612 (by decide +kernel) rfl
theorem im_X6_findProtectedLine : Cond.instanceMethod yX6_findProtectedLine ∈ WG := mW 611 (by decide +kernel) rfl
theorem se_X6_findProtectedLine : Cond.selects yX6_findProtectedLine.cls yX6_findProtectedLine yX6_findProtectedLine ∈ WG := mW 11 (by decide +kernel) rfl
theorem cd_X6_give : Cond.code yX6_give cX6_give 3 none ∈ WG := mW 724 (by decide +kernel) rfl
theorem im_X6_give : Cond.instanceMethod yX6_give ∈ WG := mW 723 (by decide +kernel) rfl
theorem se_X6_give : Cond.selects yX6_give.cls yX6_give yX6_give ∈ WG := mW 18 (by decide +kernel) rfl
theorem cd_X6_giveDocument : Cond.code yX6_giveDocument cX6_giveDocument 5 (some .int) ∈ WG := mW 716 (by decide +kernel) rfl
theorem im_X6_giveDocument : Cond.instanceMethod yX6_giveDocument ∈ WG := mW 715 (by decide +kernel) rfl
theorem se_X6_giveDocument : Cond.selects yX6_giveDocument.cls yX6_giveDocument yX6_giveDocument ∈ WG := mW 16 (by decide +kernel) rfl
theorem cd_X6_given : Cond.code yX6_given cX6_given 2 (some .int) ∈ WG := mW 589 (by decide +kernel) rfl
theorem im_X6_given : Cond.instanceMethod yX6_given ∈ WG := mW 587 (by decide +kernel) rfl
theorem se_X6_given : Cond.selects yX6_given.cls yX6_given yX6_given ∈ WG := mW 588 (by decide +kernel) rfl
theorem cd_X6_growAllHeld : Cond.code yX6_growAllHeld cX6_growAllHeld 2 none ∈ WG := mW 534 (by decide +kernel) rfl
theorem im_X6_growAllHeld : Cond.instanceMethod yX6_growAllHeld ∈ WG := mW 533 (by decide +kernel) rfl
theorem se_X6_growAllHeld : Cond.selects yX6_growAllHeld.cls yX6_growAllHeld yX6_growAllHeld ∈ WG := mW 8 (by decide +kernel) rfl
theorem cd_X6_held : Cond.code yX6_held cX6_held 2 (some .int) ∈ WG := mW 576 (by decide +kernel) rfl
theorem im_X6_held : Cond.instanceMethod yX6_held ∈ WG := mW 574 (by decide +kernel) rfl
theorem se_X6_held : Cond.selects yX6_held.cls yX6_held yX6_held ∈ WG := mW 575 (by decide +kernel) rfl
theorem cd_X6_hidden : Cond.code yX6_hidden cX6_hidden 1 (some .int) ∈ WG := mW 236 (by decide +kernel) rfl
theorem im_X6_hidden : Cond.instanceMethod yX6_hidden ∈ WG := mW 234 (by decide +kernel) rfl
theorem se_X6_hidden : Cond.selects yX6_hidden.cls yX6_hidden yX6_hidden ∈ WG := mW 235 (by decide +kernel) rfl
theorem cd_X6_holders : Cond.code yX6_holders cX6_holders 4 (some .int) ∈ WG := mW 596 (by decide +kernel) rfl
theorem im_X6_holders : Cond.instanceMethod yX6_holders ∈ WG := mW 594 (by decide +kernel) rfl
theorem se_X6_holders : Cond.selects yX6_holders.cls yX6_holders yX6_holders ∈ WG := mW 595 (by decide +kernel) rfl
theorem cd_X6_holds : Cond.code yX6_holds cX6_holds 3 (some .boolean) ∈ WG := mW 549 (by decide +kernel) rfl
theorem im_X6_holds : Cond.instanceMethod yX6_holds ∈ WG := mW 547 (by decide +kernel) rfl
theorem se_X6_holds : Cond.selects yX6_holds.cls yX6_holds yX6_holds ∈ WG := mW 548 (by decide +kernel) rfl
theorem cd_X6_holdsByLog : Cond.code yX6_holdsByLog cX6_holdsByLog 3 (some .boolean) ∈ WG := mW 564 (by decide +kernel) rfl
theorem im_X6_holdsByLog : Cond.instanceMethod yX6_holdsByLog ∈ WG := mW 562 (by decide +kernel) rfl
theorem se_X6_holdsByLog : Cond.selects yX6_holdsByLog.cls yX6_holdsByLog yX6_holdsByLog ∈ WG := mW 563 (by decide +kernel) rfl
theorem cd_X6_indexOf : Cond.code yX6_indexOf cX6_indexOf 2 (some .int) ∈ WG := mW 441 (by decide +kernel) rfl
theorem im_X6_indexOf : Cond.instanceMethod yX6_indexOf ∈ WG := mW 439 (by decide +kernel) rfl
theorem se_X6_indexOf : Cond.selects yX6_indexOf.cls yX6_indexOf yX6_indexOf ∈ WG := mW 440 (by decide +kernel) rfl
theorem cd_X6_init : Cond.code yX6_init cX6_init 1 none ∈ WG := mW 57 (by decide +kernel) rfl
theorem im_X6_init : Cond.instanceMethod yX6_init ∈ WG := mW 56 (by decide +kernel) rfl
theorem cd_X6_isFreeFor : Cond.code yX6_isFreeFor cX6_isFreeFor 3 (some .boolean) ∈ WG := mW 720 (by decide +kernel) rfl
theorem im_X6_isFreeFor : Cond.instanceMethod yX6_isFreeFor ∈ WG := mW 719 (by decide +kernel) rfl
theorem se_X6_isFreeFor : Cond.selects yX6_isFreeFor.cls yX6_isFreeFor yX6_isFreeFor ∈ WG := mW 17 (by decide +kernel) rfl
theorem cd_X6_isHidden : Cond.code yX6_isHidden cX6_isHidden 2 (some .boolean) ∈ WG := mW 512 (by decide +kernel) rfl
theorem im_X6_isHidden : Cond.instanceMethod yX6_isHidden ∈ WG := mW 510 (by decide +kernel) rfl
theorem se_X6_isHidden : Cond.selects yX6_isHidden.cls yX6_isHidden yX6_isHidden ∈ WG := mW 511 (by decide +kernel) rfl
theorem cd_X6_isHiddenByRule : Cond.code yX6_isHiddenByRule cX6_isHiddenByRule 2 (some .boolean) ∈ WG := mW 248 (by decide +kernel) rfl
theorem im_X6_isHiddenByRule : Cond.instanceMethod yX6_isHiddenByRule ∈ WG := mW 247 (by decide +kernel) rfl
theorem se_X6_isHiddenByRule : Cond.selects yX6_isHiddenByRule.cls yX6_isHiddenByRule yX6_isHiddenByRule ∈ WG := mW 2 (by decide +kernel) rfl
theorem cd_X6_isHiddenBySpan : Cond.code yX6_isHiddenBySpan cX6_isHiddenBySpan 2 (some .boolean) ∈ WG := mW 256 (by decide +kernel) rfl
theorem im_X6_isHiddenBySpan : Cond.instanceMethod yX6_isHiddenBySpan ∈ WG := mW 255 (by decide +kernel) rfl
theorem se_X6_isHiddenBySpan : Cond.selects yX6_isHiddenBySpan.cls yX6_isHiddenBySpan yX6_isHiddenBySpan ∈ WG := mW 3 (by decide +kernel) rfl
theorem cd_X6_isHiddenToday : Cond.code yX6_isHiddenToday cX6_isHiddenToday 2 (some .boolean) ∈ WG := mW 244 (by decide +kernel) rfl
theorem im_X6_isHiddenToday : Cond.instanceMethod yX6_isHiddenToday ∈ WG := mW 243 (by decide +kernel) rfl
theorem se_X6_isHiddenToday : Cond.selects yX6_isHiddenToday.cls yX6_isHiddenToday yX6_isHiddenToday ∈ WG := mW 1 (by decide +kernel) rfl
theorem cd_X6_late : Cond.code yX6_late cX6_late 1 (some .int) ∈ WG := mW 272 (by decide +kernel) rfl
theorem im_X6_late : Cond.instanceMethod yX6_late ∈ WG := mW 270 (by decide +kernel) rfl
theorem se_X6_late : Cond.selects yX6_late.cls yX6_late yX6_late ∈ WG := mW 271 (by decide +kernel) rfl
theorem cd_X6_lift : Cond.code yX6_lift cX6_lift 3 (some .int) ∈ WG := mW 496 (by decide +kernel) rfl
theorem im_X6_lift : Cond.instanceMethod yX6_lift ∈ WG := mW 494 (by decide +kernel) rfl
theorem se_X6_lift : Cond.selects yX6_lift.cls yX6_lift yX6_lift ∈ WG := mW 495 (by decide +kernel) rfl
theorem cd_X6_lines : Cond.code yX6_lines cX6_lines 2 (some .int) ∈ WG := mW 448 (by decide +kernel) rfl
theorem im_X6_lines : Cond.instanceMethod yX6_lines ∈ WG := mW 446 (by decide +kernel) rfl
theorem se_X6_lines : Cond.selects yX6_lines.cls yX6_lines yX6_lines ∈ WG := mW 447 (by decide +kernel) rfl
theorem cd_X6_owed : Cond.code yX6_owed cX6_owed 2 (some .int) ∈ WG := mW 754 (by decide +kernel) rfl
theorem im_X6_owed : Cond.instanceMethod yX6_owed ∈ WG := mW 752 (by decide +kernel) rfl
theorem se_X6_owed : Cond.selects yX6_owed.cls yX6_owed yX6_owed ∈ WG := mW 753 (by decide +kernel) rfl
theorem cd_X6_pass : Cond.code yX6_pass cX6_pass 3 (some .int) ∈ WG := mW 769 (by decide +kernel) rfl
theorem im_X6_pass : Cond.instanceMethod yX6_pass ∈ WG := mW 767 (by decide +kernel) rfl
theorem se_X6_pass : Cond.selects yX6_pass.cls yX6_pass yX6_pass ∈ WG := mW 768 (by decide +kernel) rfl
theorem cd_X6_pay : Cond.code yX6_pay cX6_pay 3 (some .int) ∈ WG := mW 761 (by decide +kernel) rfl
theorem im_X6_pay : Cond.instanceMethod yX6_pay ∈ WG := mW 759 (by decide +kernel) rfl
theorem se_X6_pay : Cond.selects yX6_pay.cls yX6_pay yX6_pay ∈ WG := mW 760 (by decide +kernel) rfl
theorem cd_X6_request : Cond.code yX6_request cX6_request 3 (some .int) ∈ WG := mW 660 (by decide +kernel) rfl
theorem im_X6_request : Cond.instanceMethod yX6_request ∈ WG := mW 658 (by decide +kernel) rfl
theorem se_X6_request : Cond.selects yX6_request.cls yX6_request yX6_request ∈ WG := mW 659 (by decide +kernel) rfl
theorem cd_X6_requireAsker : Cond.code yX6_requireAsker cX6_requireAsker 1 none ∈ WG := mW 552 (by decide +kernel) rfl
theorem st_X6_requireAsker : Cond.static yX6_requireAsker ∈ WG := mW 551 (by decide +kernel) rfl
theorem cd_X6_requireDocument : Cond.code yX6_requireDocument cX6_requireDocument 2 none ∈ WG := mW 375 (by decide +kernel) rfl
theorem im_X6_requireDocument : Cond.instanceMethod yX6_requireDocument ∈ WG := mW 374 (by decide +kernel) rfl
theorem se_X6_requireDocument : Cond.selects yX6_requireDocument.cls yX6_requireDocument yX6_requireDocument ∈ WG := mW 5 (by decide +kernel) rfl
theorem cd_X6_requireIndex : Cond.code yX6_requireIndex cX6_requireIndex 1 none ∈ WG := mW 481 (by decide +kernel) rfl
theorem st_X6_requireIndex : Cond.static yX6_requireIndex ∈ WG := mW 480 (by decide +kernel) rfl
theorem cd_X6_requireLastDay : Cond.code yX6_requireLastDay cX6_requireLastDay 2 none ∈ WG := mW 463 (by decide +kernel) rfl
theorem im_X6_requireLastDay : Cond.instanceMethod yX6_requireLastDay ∈ WG := mW 462 (by decide +kernel) rfl
theorem se_X6_requireLastDay : Cond.selects yX6_requireLastDay.cls yX6_requireLastDay yX6_requireLastDay ∈ WG := mW 7 (by decide +kernel) rfl
theorem cd_X6_requireLine : Cond.code yX6_requireLine cX6_requireLine 2 none ∈ WG := mW 426 (by decide +kernel) rfl
theorem im_X6_requireLine : Cond.instanceMethod yX6_requireLine ∈ WG := mW 425 (by decide +kernel) rfl
theorem se_X6_requireLine : Cond.selects yX6_requireLine.cls yX6_requireLine yX6_requireLine ∈ WG := mW 6 (by decide +kernel) rfl
theorem cd_X6_requireNotHeld : Cond.code yX6_requireNotHeld cX6_requireNotHeld 3 none ∈ WG := mW 607 (by decide +kernel) rfl
theorem im_X6_requireNotHeld : Cond.instanceMethod yX6_requireNotHeld ∈ WG := mW 606 (by decide +kernel) rfl
theorem se_X6_requireNotHeld : Cond.selects yX6_requireNotHeld.cls yX6_requireNotHeld yX6_requireNotHeld ∈ WG := mW 10 (by decide +kernel) rfl
theorem cd_X6_requireRequest : Cond.code yX6_requireRequest cX6_requireRequest 2 none ∈ WG := mW 699 (by decide +kernel) rfl
theorem im_X6_requireRequest : Cond.instanceMethod yX6_requireRequest ∈ WG := mW 698 (by decide +kernel) rfl
theorem se_X6_requireRequest : Cond.selects yX6_requireRequest.cls yX6_requireRequest yX6_requireRequest ∈ WG := mW 14 (by decide +kernel) rfl
theorem cd_X6_requireRising : Cond.code yX6_requireRising cX6_requireRising 2 none ∈ WG := mW 458 (by decide +kernel) rfl
theorem st_X6_requireRising : Cond.static yX6_requireRising ∈ WG := mW 457 (by decide +kernel) rfl
theorem cd_X6_requireValue : Cond.code yX6_requireValue cX6_requireValue 1 none ∈ WG := mW 394 (by decide +kernel) rfl
theorem st_X6_requireValue : Cond.static yX6_requireValue ∈ WG := mW 393 (by decide +kernel) rfl
theorem cd_X6_requireWaiting : Cond.code yX6_requireWaiting cX6_requireWaiting 2 none ∈ WG := mW 711 (by decide +kernel) rfl
theorem im_X6_requireWaiting : Cond.instanceMethod yX6_requireWaiting ∈ WG := mW 710 (by decide +kernel) rfl
theorem se_X6_requireWaiting : Cond.selects yX6_requireWaiting.cls yX6_requireWaiting yX6_requireWaiting ∈ WG := mW 15 (by decide +kernel) rfl
theorem cd_X6_rescan : Cond.code yX6_rescan cX6_rescan 4 (some .int) ∈ WG := mW 422 (by decide +kernel) rfl
theorem im_X6_rescan : Cond.instanceMethod yX6_rescan ∈ WG := mW 420 (by decide +kernel) rfl
theorem se_X6_rescan : Cond.selects yX6_rescan.cls yX6_rescan yX6_rescan ∈ WG := mW 421 (by decide +kernel) rfl
theorem cd_X6_root : Cond.code yX6_root cX6_root 4 (some .char) ∈ WG := mW 625 (by decide +kernel) rfl
theorem im_X6_root : Cond.instanceMethod yX6_root ∈ WG := mW 623 (by decide +kernel) rfl
theorem se_X6_root : Cond.selects yX6_root.cls yX6_root yX6_root ∈ WG := mW 624 (by decide +kernel) rfl
theorem cd_X6_setPrice : Cond.code yX6_setPrice cX6_setPrice 3 (some .int) ∈ WG := mW 746 (by decide +kernel) rfl
theorem im_X6_setPrice : Cond.instanceMethod yX6_setPrice ∈ WG := mW 744 (by decide +kernel) rfl
theorem se_X6_setPrice : Cond.selects yX6_setPrice.cls yX6_setPrice yX6_setPrice ∈ WG := mW 745 (by decide +kernel) rfl
theorem cd_X6_state : Cond.code yX6_state cX6_state 2 (some .char) ∈ WG := mW 695 (by decide +kernel) rfl
theorem im_X6_state : Cond.instanceMethod yX6_state ∈ WG := mW 693 (by decide +kernel) rfl
theorem se_X6_state : Cond.selects yX6_state.cls yX6_state yX6_state ∈ WG := mW 694 (by decide +kernel) rfl
theorem cd_X6_why : Cond.code yX6_why cX6_why 4 (some .char) ∈ WG := mW 603 (by decide +kernel) rfl
theorem im_X6_why : Cond.instanceMethod yX6_why ∈ WG := mW 601 (by decide +kernel) rfl
theorem se_X6_why : Cond.selects yX6_why.cls yX6_why yX6_why ∈ WG := mW 602 (by decide +kernel) rfl
theorem cd_X6_withdraw : Cond.code yX6_withdraw cX6_withdraw 2 (some .int) ∈ WG := mW 735 (by decide +kernel) rfl
theorem im_X6_withdraw : Cond.instanceMethod yX6_withdraw ∈ WG := mW 733 (by decide +kernel) rfl
theorem se_X6_withdraw : Cond.selects yX6_withdraw.cls yX6_withdraw yX6_withdraw ∈ WG := mW 734 (by decide +kernel) rfl
theorem cd_X7_addDocument : Cond.code yX7_addDocument cX7_addDocument 1 (some .int) ∈ WG := mW 887 (by decide +kernel) rfl
theorem im_X7_addDocument : Cond.instanceMethod yX7_addDocument ∈ WG := mW 885 (by decide +kernel) rfl
theorem se_X7_addDocument : Cond.selects yX7_addDocument.cls yX7_addDocument yX7_addDocument ∈ WG := mW 886 (by decide +kernel) rfl
theorem cd_X7_addJoin : Cond.code yX7_addJoin cX7_addJoin 5 (some .int) ∈ WG := mW 966 (by decide +kernel) rfl
theorem im_X7_addJoin : Cond.instanceMethod yX7_addJoin ∈ WG := mW 964 (by decide +kernel) rfl
theorem se_X7_addJoin : Cond.selects yX7_addJoin.cls yX7_addJoin yX7_addJoin ∈ WG := mW 965 (by decide +kernel) rfl
theorem cd_X7_addLine : Cond.code yX7_addLine cX7_addLine 3 (some .int) ∈ WG := mW 895 (by decide +kernel) rfl
theorem im_X7_addLine : Cond.instanceMethod yX7_addLine ∈ WG := mW 893 (by decide +kernel) rfl
theorem se_X7_addLine : Cond.selects yX7_addLine.cls yX7_addLine yX7_addLine ∈ WG := mW 894 (by decide +kernel) rfl
theorem cd_X7_addRule : Cond.code yX7_addRule cX7_addRule 4 (some .int) ∈ WG := mW 930 (by decide +kernel) rfl
theorem im_X7_addRule : Cond.instanceMethod yX7_addRule ∈ WG := mW 928 (by decide +kernel) rfl
theorem se_X7_addRule : Cond.selects yX7_addRule.cls yX7_addRule yX7_addRule ∈ WG := mW 929 (by decide +kernel) rfl
theorem cd_X7_addSpan : Cond.code yX7_addSpan cX7_addSpan 5 (some .int) ∈ WG := mW 934 (by decide +kernel) rfl
theorem im_X7_addSpan : Cond.instanceMethod yX7_addSpan ∈ WG := mW 932 (by decide +kernel) rfl
theorem se_X7_addSpan : Cond.selects yX7_addSpan.cls yX7_addSpan yX7_addSpan ∈ WG := mW 933 (by decide +kernel) rfl
theorem cd_X7_answer : Cond.code yX7_answer cX7_answer 5 (some .int) ∈ WG := mW 1039 (by decide +kernel) rfl
theorem im_X7_answer : Cond.instanceMethod yX7_answer ∈ WG := mW 1037 (by decide +kernel) rfl
theorem se_X7_answer : Cond.selects yX7_answer.cls yX7_answer yX7_answer ∈ WG := mW 1038 (by decide +kernel) rfl
theorem cd_X7_answeredShare : Cond.code yX7_answeredShare cX7_answeredShare 3 (some .float) ∈ WG := mW 1079 (by decide +kernel) rfl
theorem im_X7_answeredShare : Cond.instanceMethod yX7_answeredShare ∈ WG := mW 1077 (by decide +kernel) rfl
theorem se_X7_answeredShare : Cond.selects yX7_answeredShare.cls yX7_answeredShare yX7_answeredShare ∈ WG := mW 1078 (by decide +kernel) rfl
theorem cd_X7_betrayed : Cond.code yX7_betrayed cX7_betrayed 5 (some .int) ∈ WG := mW 1011 (by decide +kernel) rfl
theorem im_X7_betrayed : Cond.instanceMethod yX7_betrayed ∈ WG := mW 1010 (by decide +kernel) rfl
theorem se_X7_betrayed : Cond.selects yX7_betrayed.cls yX7_betrayed yX7_betrayed ∈ WG := mW 31 (by decide +kernel) rfl
theorem cd_X7_byRule : Cond.code yX7_byRule cX7_byRule 3 (some .boolean) ∈ WG := mW 950 (by decide +kernel) rfl
theorem im_X7_byRule : Cond.instanceMethod yX7_byRule ∈ WG := mW 949 (by decide +kernel) rfl
theorem se_X7_byRule : Cond.selects yX7_byRule.cls yX7_byRule yX7_byRule ∈ WG := mW 25 (by decide +kernel) rfl
theorem cd_X7_bySpan : Cond.code yX7_bySpan cX7_bySpan 3 (some .boolean) ∈ WG := mW 954 (by decide +kernel) rfl
theorem im_X7_bySpan : Cond.instanceMethod yX7_bySpan ∈ WG := mW 953 (by decide +kernel) rfl
theorem se_X7_bySpan : Cond.selects yX7_bySpan.cls yX7_bySpan yX7_bySpan ∈ WG := mW 26 (by decide +kernel) rfl
theorem cd_X7_cause : Cond.code yX7_cause cX7_cause 3 (some .int) ∈ WG := mW 1019 (by decide +kernel) rfl
theorem im_X7_cause : Cond.instanceMethod yX7_cause ∈ WG := mW 1018 (by decide +kernel) rfl
theorem se_X7_cause : Cond.selects yX7_cause.cls yX7_cause yX7_cause ∈ WG := mW 32 (by decide +kernel) rfl
theorem cd_X7_causes : Cond.code yX7_causes cX7_causes 5 (some .int) ∈ WG := mW 1023 (by decide +kernel) rfl
theorem im_X7_causes : Cond.instanceMethod yX7_causes ∈ WG := mW 1021 (by decide +kernel) rfl
theorem se_X7_causes : Cond.selects yX7_causes.cls yX7_causes yX7_causes ∈ WG := mW 1022 (by decide +kernel) rfl
theorem cd_X7_day : Cond.code yX7_day cX7_day 1 (some .int) ∈ WG := mW 1067 (by decide +kernel) rfl
theorem im_X7_day : Cond.instanceMethod yX7_day ∈ WG := mW 1065 (by decide +kernel) rfl
theorem se_X7_day : Cond.selects yX7_day.cls yX7_day yX7_day ∈ WG := mW 1066 (by decide +kernel) rfl
theorem cd_X7_documentOf : Cond.code yX7_documentOf cX7_documentOf 2 (some .int) ∈ WG := mW 914 (by decide +kernel) rfl
theorem im_X7_documentOf : Cond.instanceMethod yX7_documentOf ∈ WG := mW 912 (by decide +kernel) rfl
theorem se_X7_documentOf : Cond.selects yX7_documentOf.cls yX7_documentOf yX7_documentOf ∈ WG := mW 913 (by decide +kernel) rfl
theorem cd_X7_fees : Cond.code yX7_fees cX7_fees 1 (some .long) ∈ WG := mW 1075 (by decide +kernel) rfl
theorem im_X7_fees : Cond.instanceMethod yX7_fees ∈ WG := mW 1073 (by decide +kernel) rfl
theorem se_X7_fees : Cond.selects yX7_fees.cls yX7_fees yX7_fees ∈ WG := mW 1074 (by decide +kernel) rfl
theorem cd_X7_first : Cond.code yX7_first cX7_first 3 (some .char) ∈ WG := mW 1007 (by decide +kernel) rfl
theorem im_X7_first : Cond.instanceMethod yX7_first ∈ WG := mW 1006 (by decide +kernel) rfl
theorem se_X7_first : Cond.selects yX7_first.cls yX7_first yX7_first ∈ WG := mW 30 (by decide +kernel) rfl
theorem cd_X7_given : Cond.code yX7_given cX7_given 2 (some .int) ∈ WG := mW 991 (by decide +kernel) rfl
theorem im_X7_given : Cond.instanceMethod yX7_given ∈ WG := mW 989 (by decide +kernel) rfl
theorem se_X7_given : Cond.selects yX7_given.cls yX7_given yX7_given ∈ WG := mW 990 (by decide +kernel) rfl
theorem cd_X7_grows : Cond.code yX7_grows cX7_grows 4 none ∈ WG := mW 970 (by decide +kernel) rfl
theorem im_X7_grows : Cond.instanceMethod yX7_grows ∈ WG := mW 969 (by decide +kernel) rfl
theorem se_X7_grows : Cond.selects yX7_grows.cls yX7_grows yX7_grows ∈ WG := mW 27 (by decide +kernel) rfl
theorem cd_X7_held : Cond.code yX7_held cX7_held 4 (some .int) ∈ WG := mW 987 (by decide +kernel) rfl
theorem im_X7_held : Cond.instanceMethod yX7_held ∈ WG := mW 985 (by decide +kernel) rfl
theorem se_X7_held : Cond.selects yX7_held.cls yX7_held yX7_held ∈ WG := mW 986 (by decide +kernel) rfl
theorem cd_X7_hidden : Cond.code yX7_hidden cX7_hidden 1 (some .int) ∈ WG := mW 962 (by decide +kernel) rfl
theorem im_X7_hidden : Cond.instanceMethod yX7_hidden ∈ WG := mW 960 (by decide +kernel) rfl
theorem se_X7_hidden : Cond.selects yX7_hidden.cls yX7_hidden yX7_hidden ∈ WG := mW 961 (by decide +kernel) rfl
theorem cd_X7_hiddenLines : Cond.code yX7_hiddenLines cX7_hiddenLines 3 (some .int) ∈ WG := mW 942 (by decide +kernel) rfl
theorem im_X7_hiddenLines : Cond.instanceMethod yX7_hiddenLines ∈ WG := mW 941 (by decide +kernel) rfl
theorem se_X7_hiddenLines : Cond.selects yX7_hiddenLines.cls yX7_hiddenLines yX7_hiddenLines ∈ WG := mW 23 (by decide +kernel) rfl
theorem cd_X7_hides : Cond.code yX7_hides cX7_hides 2 (some .boolean) ∈ WG := mW 946 (by decide +kernel) rfl
theorem im_X7_hides : Cond.instanceMethod yX7_hides ∈ WG := mW 945 (by decide +kernel) rfl
theorem se_X7_hides : Cond.selects yX7_hides.cls yX7_hides yX7_hides ∈ WG := mW 24 (by decide +kernel) rfl
theorem cd_X7_holders : Cond.code yX7_holders cX7_holders 4 (some .int) ∈ WG := mW 995 (by decide +kernel) rfl
theorem im_X7_holders : Cond.instanceMethod yX7_holders ∈ WG := mW 993 (by decide +kernel) rfl
theorem se_X7_holders : Cond.selects yX7_holders.cls yX7_holders yX7_holders ∈ WG := mW 994 (by decide +kernel) rfl
theorem cd_X7_holds : Cond.code yX7_holds cX7_holds 3 (some .boolean) ∈ WG := mW 974 (by decide +kernel) rfl
theorem im_X7_holds : Cond.instanceMethod yX7_holds ∈ WG := mW 972 (by decide +kernel) rfl
theorem se_X7_holds : Cond.selects yX7_holds.cls yX7_holds yX7_holds ∈ WG := mW 973 (by decide +kernel) rfl
theorem cd_X7_holdsByLog : Cond.code yX7_holdsByLog cX7_holdsByLog 3 (some .boolean) ∈ WG := mW 982 (by decide +kernel) rfl
theorem im_X7_holdsByLog : Cond.instanceMethod yX7_holdsByLog ∈ WG := mW 980 (by decide +kernel) rfl
theorem se_X7_holdsByLog : Cond.selects yX7_holdsByLog.cls yX7_holdsByLog yX7_holdsByLog ∈ WG := mW 981 (by decide +kernel) rfl
theorem cd_X7_index : Cond.code yX7_index cX7_index 4 (some .int) ∈ WG := mW 922 (by decide +kernel) rfl
theorem im_X7_index : Cond.instanceMethod yX7_index ∈ WG := mW 921 (by decide +kernel) rfl
theorem se_X7_index : Cond.selects yX7_index.cls yX7_index yX7_index ∈ WG := mW 22 (by decide +kernel) rfl
theorem cd_X7_indexOf : Cond.code yX7_indexOf cX7_indexOf 2 (some .int) ∈ WG := mW 918 (by decide +kernel) rfl
theorem im_X7_indexOf : Cond.instanceMethod yX7_indexOf ∈ WG := mW 916 (by decide +kernel) rfl
theorem se_X7_indexOf : Cond.selects yX7_indexOf.cls yX7_indexOf yX7_indexOf ∈ WG := mW 917 (by decide +kernel) rfl
theorem cd_X7_init : Cond.code yX7_init cX7_init 1 none ∈ WG := mW 784 (by decide +kernel) rfl
theorem im_X7_init : Cond.instanceMethod yX7_init ∈ WG := mW 783 (by decide +kernel) rfl
theorem cd_X7_isHidden : Cond.code yX7_isHidden cX7_isHidden 2 (some .boolean) ∈ WG := mW 958 (by decide +kernel) rfl
theorem im_X7_isHidden : Cond.instanceMethod yX7_isHidden ∈ WG := mW 956 (by decide +kernel) rfl
theorem se_X7_isHidden : Cond.selects yX7_isHidden.cls yX7_isHidden yX7_isHidden ∈ WG := mW 957 (by decide +kernel) rfl
theorem cd_X7_isIn : Cond.code yX7_isIn cX7_isIn 3 (some .boolean) ∈ WG := mW 902 (by decide +kernel) rfl
theorem st_X7_isIn : Cond.static yX7_isIn ∈ WG := mW 901 (by decide +kernel) rfl
theorem cd_X7_late : Cond.code yX7_late cX7_late 1 (some .int) ∈ WG := mW 1071 (by decide +kernel) rfl
theorem im_X7_late : Cond.instanceMethod yX7_late ∈ WG := mW 1069 (by decide +kernel) rfl
theorem se_X7_late : Cond.selects yX7_late.cls yX7_late yX7_late ∈ WG := mW 1070 (by decide +kernel) rfl
theorem cd_X7_lateOnes : Cond.code yX7_lateOnes cX7_lateOnes 3 (some .int) ∈ WG := mW 1063 (by decide +kernel) rfl
theorem im_X7_lateOnes : Cond.instanceMethod yX7_lateOnes ∈ WG := mW 1062 (by decide +kernel) rfl
theorem se_X7_lateOnes : Cond.selects yX7_lateOnes.cls yX7_lateOnes yX7_lateOnes ∈ WG := mW 34 (by decide +kernel) rfl
theorem cd_X7_lift : Cond.code yX7_lift cX7_lift 3 (some .int) ∈ WG := mW 938 (by decide +kernel) rfl
theorem im_X7_lift : Cond.instanceMethod yX7_lift ∈ WG := mW 936 (by decide +kernel) rfl
theorem se_X7_lift : Cond.selects yX7_lift.cls yX7_lift yX7_lift ∈ WG := mW 937 (by decide +kernel) rfl
theorem cd_X7_lines : Cond.code yX7_lines cX7_lines 4 (some .int) ∈ WG := mW 926 (by decide +kernel) rfl
theorem im_X7_lines : Cond.instanceMethod yX7_lines ∈ WG := mW 924 (by decide +kernel) rfl
theorem se_X7_lines : Cond.selects yX7_lines.cls yX7_lines yX7_lines ∈ WG := mW 925 (by decide +kernel) rfl
theorem cd_X7_noAsker : Cond.code yX7_noAsker cX7_noAsker 2 (some .boolean) ∈ WG := mW 978 (by decide +kernel) rfl
theorem im_X7_noAsker : Cond.instanceMethod yX7_noAsker ∈ WG := mW 977 (by decide +kernel) rfl
theorem se_X7_noAsker : Cond.selects yX7_noAsker.cls yX7_noAsker yX7_noAsker ∈ WG := mW 28 (by decide +kernel) rfl
theorem cd_X7_noDocument : Cond.code yX7_noDocument cX7_noDocument 2 (some .boolean) ∈ WG := mW 899 (by decide +kernel) rfl
theorem im_X7_noDocument : Cond.instanceMethod yX7_noDocument ∈ WG := mW 898 (by decide +kernel) rfl
theorem se_X7_noDocument : Cond.selects yX7_noDocument.cls yX7_noDocument yX7_noDocument ∈ WG := mW 20 (by decide +kernel) rfl
theorem cd_X7_noLine : Cond.code yX7_noLine cX7_noLine 2 (some .boolean) ∈ WG := mW 910 (by decide +kernel) rfl
theorem im_X7_noLine : Cond.instanceMethod yX7_noLine ∈ WG := mW 909 (by decide +kernel) rfl
theorem se_X7_noLine : Cond.selects yX7_noLine.cls yX7_noLine yX7_noLine ∈ WG := mW 21 (by decide +kernel) rfl
theorem cd_X7_noReasons : Cond.code yX7_noReasons cX7_noReasons 3 (some .boolean) ∈ WG := mW 1003 (by decide +kernel) rfl
theorem im_X7_noReasons : Cond.instanceMethod yX7_noReasons ∈ WG := mW 1002 (by decide +kernel) rfl
theorem se_X7_noReasons : Cond.selects yX7_noReasons.cls yX7_noReasons yX7_noReasons ∈ WG := mW 29 (by decide +kernel) rfl
theorem cd_X7_noRequest : Cond.code yX7_noRequest cX7_noRequest 2 (some .boolean) ∈ WG := mW 1035 (by decide +kernel) rfl
theorem im_X7_noRequest : Cond.instanceMethod yX7_noRequest ∈ WG := mW 1034 (by decide +kernel) rfl
theorem se_X7_noRequest : Cond.selects yX7_noRequest.cls yX7_noRequest yX7_noRequest ∈ WG := mW 33 (by decide +kernel) rfl
theorem cd_X7_owed : Cond.code yX7_owed cX7_owed 2 (some .int) ∈ WG := mW 1051 (by decide +kernel) rfl
theorem im_X7_owed : Cond.instanceMethod yX7_owed ∈ WG := mW 1049 (by decide +kernel) rfl
theorem se_X7_owed : Cond.selects yX7_owed.cls yX7_owed yX7_owed ∈ WG := mW 1050 (by decide +kernel) rfl
theorem cd_X7_pass : Cond.code yX7_pass cX7_pass 3 (some .int) ∈ WG := mW 1059 (by decide +kernel) rfl
theorem im_X7_pass : Cond.instanceMethod yX7_pass ∈ WG := mW 1057 (by decide +kernel) rfl
theorem se_X7_pass : Cond.selects yX7_pass.cls yX7_pass yX7_pass ∈ WG := mW 1058 (by decide +kernel) rfl
theorem cd_X7_pay : Cond.code yX7_pay cX7_pay 3 (some .int) ∈ WG := mW 1055 (by decide +kernel) rfl
theorem im_X7_pay : Cond.instanceMethod yX7_pay ∈ WG := mW 1053 (by decide +kernel) rfl
theorem se_X7_pay : Cond.selects yX7_pay.cls yX7_pay yX7_pay ∈ WG := mW 1054 (by decide +kernel) rfl
theorem cd_X7_refuse : Cond.code yX7_refuse cX7_refuse 2 (some .int) ∈ WG := mW 891 (by decide +kernel) rfl
theorem im_X7_refuse : Cond.instanceMethod yX7_refuse ∈ WG := mW 890 (by decide +kernel) rfl
theorem se_X7_refuse : Cond.selects yX7_refuse.cls yX7_refuse yX7_refuse ∈ WG := mW 19 (by decide +kernel) rfl
theorem cd_X7_request : Cond.code yX7_request cX7_request 4 (some .int) ∈ WG := mW 1027 (by decide +kernel) rfl
theorem im_X7_request : Cond.instanceMethod yX7_request ∈ WG := mW 1025 (by decide +kernel) rfl
theorem se_X7_request : Cond.selects yX7_request.cls yX7_request yX7_request ∈ WG := mW 1026 (by decide +kernel) rfl
theorem cd_X7_rescan : Cond.code yX7_rescan cX7_rescan 4 (some .int) ∈ WG := mW 906 (by decide +kernel) rfl
theorem im_X7_rescan : Cond.instanceMethod yX7_rescan ∈ WG := mW 904 (by decide +kernel) rfl
theorem se_X7_rescan : Cond.selects yX7_rescan.cls yX7_rescan yX7_rescan ∈ WG := mW 905 (by decide +kernel) rfl
theorem cd_X7_root : Cond.code yX7_root cX7_root 3 (some .char) ∈ WG := mW 1015 (by decide +kernel) rfl
theorem im_X7_root : Cond.instanceMethod yX7_root ∈ WG := mW 1013 (by decide +kernel) rfl
theorem se_X7_root : Cond.selects yX7_root.cls yX7_root yX7_root ∈ WG := mW 1014 (by decide +kernel) rfl
theorem cd_X7_setPrice : Cond.code yX7_setPrice cX7_setPrice 3 (some .int) ∈ WG := mW 1047 (by decide +kernel) rfl
theorem im_X7_setPrice : Cond.instanceMethod yX7_setPrice ∈ WG := mW 1045 (by decide +kernel) rfl
theorem se_X7_setPrice : Cond.selects yX7_setPrice.cls yX7_setPrice yX7_setPrice ∈ WG := mW 1046 (by decide +kernel) rfl
theorem cd_X7_state : Cond.code yX7_state cX7_state 2 (some .char) ∈ WG := mW 1031 (by decide +kernel) rfl
theorem im_X7_state : Cond.instanceMethod yX7_state ∈ WG := mW 1029 (by decide +kernel) rfl
theorem se_X7_state : Cond.selects yX7_state.cls yX7_state yX7_state ∈ WG := mW 1030 (by decide +kernel) rfl
theorem cd_X7_thrown : Cond.code yX7_thrown cX7_thrown 1 (some .int) ∈ WG := mW 883 (by decide +kernel) rfl
theorem im_X7_thrown : Cond.instanceMethod yX7_thrown ∈ WG := mW 881 (by decide +kernel) rfl
theorem se_X7_thrown : Cond.selects yX7_thrown.cls yX7_thrown yX7_thrown ∈ WG := mW 882 (by decide +kernel) rfl
theorem cd_X7_why : Cond.code yX7_why cX7_why 3 (some .char) ∈ WG := mW 999 (by decide +kernel) rfl
theorem im_X7_why : Cond.instanceMethod yX7_why ∈ WG := mW 997 (by decide +kernel) rfl
theorem se_X7_why : Cond.selects yX7_why.cls yX7_why yX7_why ∈ WG := mW 998 (by decide +kernel) rfl
theorem cd_X7_withdraw : Cond.code yX7_withdraw cX7_withdraw 4 (some .int) ∈ WG := mW 1043 (by decide +kernel) rfl
theorem im_X7_withdraw : Cond.instanceMethod yX7_withdraw ∈ WG := mW 1041 (by decide +kernel) rfl
theorem se_X7_withdraw : Cond.selects yX7_withdraw.cls yX7_withdraw yX7_withdraw ∈ WG := mW 1042 (by decide +kernel) rfl
theorem cl_X6_9 : Cond.classLink RX6 9 RX1 ∈ WG := mW 61 (by decide +kernel) rfl
theorem cl_X6_16 : Cond.classLink RX6 16 RX4 ∈ WG := mW 93 (by decide +kernel) rfl
theorem cl_X6_23 : Cond.classLink RX6 23 RX5 ∈ WG := mW 112 (by decide +kernel) rfl
theorem cl_X6_30 : Cond.classLink RX6 30 RX0 ∈ WG := mW 139 (by decide +kernel) rfl
theorem cl_X6_37 : Cond.classLink RX6 37 RX2 ∈ WG := mW 156 (by decide +kernel) rfl
theorem cl_X6_44 : Cond.classLink RX6 44 RX3 ∈ WG := mW 172 (by decide +kernel) rfl
theorem cl_X6_113 : Cond.classLink RX6 113 "java/lang/IndexOutOfBoundsException" ∈ WG := mW 376 (by decide +kernel) rfl
theorem cl_X6_127 : Cond.classLink RX6 127 "java/lang/IllegalStateException" ∈ WG := mW 503 (by decide +kernel) rfl
theorem cl_X6_142 : Cond.classLink RX6 142 "java/lang/IllegalArgumentException" ∈ WG := mW 395 (by decide +kernel) rfl
theorem cl_X6_181 : Cond.classLink RX6 181 "java/util/NoSuchElementException" ∈ WG := mW 626 (by decide +kernel) rfl
theorem cl_X6_193 : Cond.classLink RX6 193 "java/lang/UnsupportedOperationException" ∈ WG := mW 661 (by decide +kernel) rfl
theorem cl_X0_22 : Cond.classLink RX0 22 "java/lang/IllegalStateException" ∈ WG := mW 525 (by decide +kernel) rfl
theorem cl_X1_28 : Cond.classLink RX1 28 "java/lang/IllegalStateException" ∈ WG := mW 293 (by decide +kernel) rfl
theorem cl_X3_29 : Cond.classLink RX3 29 "java/lang/IllegalStateException" ∈ WG := mW 686 (by decide +kernel) rfl
theorem cl_X4_25 : Cond.classLink RX4 25 "java/lang/IllegalStateException" ∈ WG := mW 469 (by decide +kernel) rfl
theorem cl_X5_32 : Cond.classLink RX5 32 "java/lang/IllegalStateException" ∈ WG := mW 487 (by decide +kernel) rfl
theorem cl_L_8 : Cond.classLink RL 8 RX6 ∈ WG := mW 53 (by decide +kernel) rfl
theorem cl_L_13 : Cond.classLink RL 13 "java/lang/IllegalStateException" ∈ WG := mW 284 (by decide +kernel) rfl
theorem cl_L_19 : Cond.classLink RL 19 "java/lang/IndexOutOfBoundsException" ∈ WG := mW 366 (by decide +kernel) rfl
theorem cl_L_21 : Cond.classLink RL 21 "java/lang/IllegalArgumentException" ∈ WG := mW 367 (by decide +kernel) rfl
theorem cl_L_77 : Cond.classLink RL 77 "java/util/NoSuchElementException" ∈ WG := mW 621 (by decide +kernel) rfl
theorem cl_L_85 : Cond.classLink RL 85 "java/lang/UnsupportedOperationException" ∈ WG := mW 656 (by decide +kernel) rfl
theorem cl_L_114 : Cond.classLink RL 114 RX7 ∈ WG := mW 780 (by decide +kernel) rfl
theorem ia_X0 : Cond.instantiable RX0 3 ∈ WG := mW 140 (by decide +kernel) rfl
theorem ii_X0 : Cond.initialized RX0 ∈ WG := mW 40 (by decide +kernel) rfl
theorem ia_X1 : Cond.instantiable RX1 6 ∈ WG := mW 62 (by decide +kernel) rfl
theorem ii_X1 : Cond.initialized RX1 ∈ WG := mW 37 (by decide +kernel) rfl
theorem ia_X2 : Cond.instantiable RX2 3 ∈ WG := mW 157 (by decide +kernel) rfl
theorem ii_X2 : Cond.initialized RX2 ∈ WG := mW 41 (by decide +kernel) rfl
theorem ia_X3 : Cond.instantiable RX3 5 ∈ WG := mW 173 (by decide +kernel) rfl
theorem ii_X3 : Cond.initialized RX3 ∈ WG := mW 42 (by decide +kernel) rfl
theorem ia_X4 : Cond.instantiable RX4 4 ∈ WG := mW 94 (by decide +kernel) rfl
theorem ii_X4 : Cond.initialized RX4 ∈ WG := mW 38 (by decide +kernel) rfl
theorem ia_X5 : Cond.instantiable RX5 6 ∈ WG := mW 113 (by decide +kernel) rfl
theorem ii_X5 : Cond.initialized RX5 ∈ WG := mW 39 (by decide +kernel) rfl
theorem ia_X6 : Cond.instantiable RX6 11 ∈ WG := mW 54 (by decide +kernel) rfl
theorem ii_X6 : Cond.initialized RX6 ∈ WG := mW 36 (by decide +kernel) rfl
theorem ia_X7 : Cond.instantiable RX7 31 ∈ WG := mW 781 (by decide +kernel) rfl
theorem ii_X7 : Cond.initialized RX7 ∈ WG := mW 43 (by decide +kernel) rfl
theorem ac_int : Cond.arrayClass .int ∈ WG := mW 92 (by decide +kernel) rfl
theorem ac_long : Cond.arrayClass .long ∈ WG := mW 155 (by decide +kernel) rfl
theorem ac_boolean : Cond.arrayClass .boolean ∈ WG := mW 138 (by decide +kernel) rfl
theorem ac_char : Cond.arrayClass .char ∈ WG := mW 198 (by decide +kernel) rfl
theorem ac_double : Cond.arrayClass .double ∈ WG := mW 1080 (by decide +kernel) rfl
theorem im_obj : Cond.instanceMethod Lib.objectInit ∈ WG := mW 59 (by decide +kernel) rfl
theorem cd_obj : Cond.code Lib.objectInit ⟨#[0xb1]⟩ 1 none ∈ WG := mW 60 (by decide +kernel) rfl
theorem ol_X0 : Cond.methodLink RX0 3 Lib.objectInit ∈ WG := mW 144 (by decide +kernel) rfl
theorem ol_X1 : Cond.methodLink RX1 3 Lib.objectInit ∈ WG := mW 66 (by decide +kernel) rfl
theorem ol_X2 : Cond.methodLink RX2 3 Lib.objectInit ∈ WG := mW 161 (by decide +kernel) rfl
theorem ol_X3 : Cond.methodLink RX3 3 Lib.objectInit ∈ WG := mW 177 (by decide +kernel) rfl
theorem ol_X4 : Cond.methodLink RX4 3 Lib.objectInit ∈ WG := mW 98 (by decide +kernel) rfl
theorem ol_X5 : Cond.methodLink RX5 3 Lib.objectInit ∈ WG := mW 117 (by decide +kernel) rfl
theorem ol_X6 : Cond.methodLink RX6 3 Lib.objectInit ∈ WG := mW 58 (by decide +kernel) rfl
theorem ol_X7 : Cond.methodLink RX7 1 Lib.objectInit ∈ WG := mW 785 (by decide +kernel) rfl
theorem th_X0_22_26 : thP RX0 22 26 "java/lang/IllegalStateException" := ⟨cl_X0_22, mW 47 (by decide +kernel) rfl, mWs (by decide +kernel) (by decide +kernel), (by decide +kernel), (by decide +kernel), (by decide +kernel), (by decide +kernel)⟩
theorem th_X1_28_32 : thP RX1 28 32 "java/lang/IllegalStateException" := ⟨cl_X1_28, mW 47 (by decide +kernel) rfl, mWs (by decide +kernel) (by decide +kernel), (by decide +kernel), (by decide +kernel), (by decide +kernel), (by decide +kernel)⟩
theorem th_X3_29_33 : thP RX3 29 33 "java/lang/IllegalStateException" := ⟨cl_X3_29, mW 47 (by decide +kernel) rfl, mWs (by decide +kernel) (by decide +kernel), (by decide +kernel), (by decide +kernel), (by decide +kernel), (by decide +kernel)⟩
theorem th_X4_25_29 : thP RX4 25 29 "java/lang/IllegalStateException" := ⟨cl_X4_25, mW 47 (by decide +kernel) rfl, mWs (by decide +kernel) (by decide +kernel), (by decide +kernel), (by decide +kernel), (by decide +kernel), (by decide +kernel)⟩
theorem th_X5_32_36 : thP RX5 32 36 "java/lang/IllegalStateException" := ⟨cl_X5_32, mW 47 (by decide +kernel) rfl, mWs (by decide +kernel) (by decide +kernel), (by decide +kernel), (by decide +kernel), (by decide +kernel), (by decide +kernel)⟩
theorem th_X6_113_117 : thP RX6 113 117 "java/lang/IndexOutOfBoundsException" := ⟨cl_X6_113, mW 48 (by decide +kernel) rfl, mWs (by decide +kernel) (by decide +kernel), (by decide +kernel), (by decide +kernel), (by decide +kernel), (by decide +kernel)⟩
theorem th_X6_127_131 : thP RX6 127 131 "java/lang/IllegalStateException" := ⟨cl_X6_127, mW 47 (by decide +kernel) rfl, mWs (by decide +kernel) (by decide +kernel), (by decide +kernel), (by decide +kernel), (by decide +kernel), (by decide +kernel)⟩
theorem th_X6_142_146 : thP RX6 142 146 "java/lang/IllegalArgumentException" := ⟨cl_X6_142, mW 49 (by decide +kernel) rfl, mWs (by decide +kernel) (by decide +kernel), (by decide +kernel), (by decide +kernel), (by decide +kernel), (by decide +kernel)⟩
theorem th_X6_193_197 : thP RX6 193 197 "java/lang/UnsupportedOperationException" := ⟨cl_X6_193, mW 52 (by decide +kernel) rfl, mWs (by decide +kernel) (by decide +kernel), (by decide +kernel), (by decide +kernel), (by decide +kernel), (by decide +kernel)⟩
end
section
/-- what is carried beside the tables' words -/
def EV (B0 : Nat) (U : State) (H : Heap) : Prop :=
  vx_Zq Bundle.tN "UNASSIGNED_STACK" Bundle.steD (fun q => B0 ≤ q) U H ∧ vx_Zq Bundle.tN "SUPPRESSED_SENTINEL" Bundle.listD (fun q => B0 ≤ q) U H ∧ (∀ q ∈ eStr, ∃ a, vk_R q.1 q.2.1 q.2.2 a U) ∧ (∀ q ∈ eNest, va_Nw (.methodLinkNest q.1 q.2.1 q.2.2.1 q.2.2.2) U) ∧ (∀ q ∈ eCast, va_Nw (.castable q.1 q.2) U) ∧ (∀ q ∈ eNc, va_Nc q.1 q.2 U) ∧ (∀ y ∈ eDecl, va_Nw (.declares y) U)
theorem EV.warm {B0 : Nat} {s U : State} {H : Heap} (hW : s.WarmedH U.vm) (h : EV B0 s H) : EV B0 U H := ⟨vx_Zq.moved hW.alike h.1, vx_Zq.moved hW.alike h.2.1, fun q hq => (h.2.2.1 q hq).imp fun _ ha => ha.warm hW, fun q hq => va_Nw.warmM hW (h.2.2.2.1 q hq), fun q hq => va_Nw.warmC hW (h.2.2.2.2.1 q hq), fun q hq => va_Nc.moved hW.alike (h.2.2.2.2.2.1 q hq), fun y hy => va_Nw.warmD hW (h.2.2.2.2.2.2 y hy)⟩
theorem EV.kept {B0 : Nat} {U : State} {H H1 : Heap} (h : EV B0 U H) (hq : ∀ a : Nat, a < H.size → ¬ B0 ≤ a → H1[a]? = H[a]?) : EV B0 U H1 := ⟨h.1.kept hq, h.2.1.kept hq, h.2.2⟩
/-- a contract's start -/
def PR (G : gG) (B0 : Nat) (w : va_W) (U : State) : Prop := B0 ≤ U.heap.size ∧ va_P G.1 vwCl w U.heap ∧ va_K G.1 vwCl (gTy G) U ∧ va_D (fun q => B0 ≤ q) w ∧ EV B0 U U.heap
theorem PR.blind {G : gG} {B0 : Nat} {w : va_W} {av : List Value} : FrameBlind (va_Pc av (PR G B0 w)) := fun a U g mk h => by
  obtain ⟨h1, h2, h3, h4, h5, h6⟩ := h
  exact ⟨h1, h2, h3, va_K.moved (u := U) (U := U.calling g mk a) (Vm.Alike.refl U.vm) h4, h5, EV.warm (s := U) (U := U.calling g mk a) (State.WarmedH.refl U) h6⟩
theorem pr_of {G : gG} {B0 : Nat} {w : va_W} {s U : State} {H : Heap} {locs : List Loc} (hB : B0 ≤ s.heap.size) (hK : va_K G.1 vwCl (gTy G) s) (hE : EV B0 s s.heap) (hP : va_P G.1 vwCl w H) (hD : va_D (fun q => B0 ≤ q) w) (hS : va_S (fun q => B0 ≤ q) s.heap H locs) (hU : U.heap = H) (hW : s.WarmedH U.vm) : PR G B0 w U :=
  ⟨by rw [hU]; exact Nat.le_trans hB hS.1, by rw [hU]; exact hP, va_K.moved hW.alike hK, hD, by rw [hU]; exact EV.warm hW (hE.kept hS.2.1)⟩
/-- what holds all through a method's body -/
def CX (p : Program) (s : State) (m : MethodId) (args : Array Value) (meth : Method) (c : Code) (cc : ByteArray) (own : String) (nL : Nat) (G : gG) (B0 : Nat) : Prop :=
  p.tables.exec = Jvm.exec ∧ c.code = cc ∧ c.maxLocals = nL ∧ s.vm.findClass own = some m.cls ∧ (∀ w ∈ WG, w.before args s = true) ∧ va_K G.1 vwCl (gTy G) s ∧ EV B0 s s.heap ∧ B0 ≤ s.heap.size ∧ meth.locks = false
/-- the judgement: at pc, with these locals, this stack, this world -/
def YY (p : Program) (l : Launch) (e : Env) (R : Room) (s : State) (m : MethodId) (args : Array Value) (below : List Frame) (meth : Method) (c : Code) (G : gG) (B0 nL : Nat) (Q : State → Prop) (pc : Nat) (L : List (Nat × Value)) (st : List Value) (w : va_W) (cs ss : Nat) : Prop :=
  ∀ (H : Heap) (locs : List Loc) (ls : Array Slot), lv_has ls nL L → va_P G.1 vwCl w H → va_D (fun q => B0 ≤ q) w → va_S (fun q => B0 ≤ q) s.heap H locs → W p l e R s m args below meth c H locs cs ss Q (F0 m pc ls st)
/-- the same, with an exception of the class E thrown by a call at pc -/
def YX (p : Program) (l : Launch) (e : Env) (R : Room) (s : State) (m : MethodId) (args : Array Value) (below : List Frame) (meth : Method) (c : Code) (G : gG) (B0 nL : Nat) (Q : State → Prop) (pc : Nat) (L : List (Nat × Value)) (st : List Value) (w : va_W) (cs ss : Nat) (E : String) : Prop :=
  ∀ (H : Heap) (locs : List Loc) (ls : Array Slot) (ce : Cell) (q : Addr), lv_has ls nL L → va_P G.1 vwCl w H → va_D (fun q => B0 ≤ q) w → va_S (fun q => B0 ≤ q) s.heap H locs → H[q]? = some ce → ce.vm = .none → s.vm.findClass E = some ce.cls → vx_W p l e R s m args below meth c H locs cs ss Q (F0 m pc ls st) q
def bI (b : Bool) : Int32 := if b then 1 else 0
theorem bI_eq {b : Bool} (h : bI b = 0) : b = false := by cases b <;> first | rfl | exact absurd h (by decide)
theorem bI_ne {b : Bool} (h : ¬ bI b = 0) : b = true := by cases b <;> first | rfl | exact absurd rfl h
theorem nI_31 {n a : Nat} (h : n < a) (h2 : a < 2147483648) : n < 2 ^ 31 := Nat.lt_trans h h2
section YR
variable {p : Program} {l : Launch} {e : Env} {R : Room} {s : State} {m : MethodId} {args : Array Value} {below : List Frame} {meth : Method} {c : Code} {cc : ByteArray} {own : String} {nL : Nat} {G : gG} {B0 : Nat} {Q : State → Prop} {pc pc' : Nat} {L L' : List (Nat × Value)} {st rest : List Value} {w w' : va_W} {cs ss : Nat}
theorem yy_iconst (C : CX p s m args meth c cc own nL G B0) {n : Int} {v : Int32} (hd : decode cc pc = .ok (.iconst n, 1)) (hn : pc + 1 = pc') (hv : Int32.ofInt n = v) (k : YY p l e R s m args below meth c G B0 nL Q (pc') (L) (.int v :: st) (w) (cs) (ss)) : YY p l e R s m args below meth c G B0 nL Q (pc) (L) (st) (w) (cs) (ss) := by
  subst hn
  exact fun H locs ls hl hP hD hS => lv_iconst C.1 C.2.1 hd hv (k H locs ls hl hP hD hS)
theorem yy_bipush (C : CX p s m args meth c cc own nL G B0) {n : Int} {v : Int32} (hd : decode cc pc = .ok (.bipush n, 2)) (hn : pc + 2 = pc') (hv : (Int8.ofInt n).toInt32 = v) (k : YY p l e R s m args below meth c G B0 nL Q (pc') (L) (.int v :: st) (w) (cs) (ss)) : YY p l e R s m args below meth c G B0 nL Q (pc) (L) (st) (w) (cs) (ss) := by
  subst hn
  exact fun H locs ls hl hP hD hS => lv_bipush C.1 C.2.1 hd hv (k H locs ls hl hP hD hS)
theorem yy_sipush (C : CX p s m args meth c cc own nL G B0) {n : Int} {v : Int32} (hd : decode cc pc = .ok (.sipush n, 3)) (hn : pc + 3 = pc') (hv : (Int16.ofInt n).toInt32 = v) (k : YY p l e R s m args below meth c G B0 nL Q (pc') (L) (.int v :: st) (w) (cs) (ss)) : YY p l e R s m args below meth c G B0 nL Q (pc) (L) (st) (w) (cs) (ss) := by
  subst hn
  exact fun H locs ls hl hP hD hS => lv_sipush C.1 C.2.1 hd hv (k H locs ls hl hP hD hS)
theorem yy_lconst (C : CX p s m args meth c cc own nL G B0) {n : Fin 2} {v : Int64} (hd : decode cc pc = .ok (.lconst n, 1)) (hn : pc + 1 = pc') (hv : Int64.ofNat (n : Nat) = v) (k : YY p l e R s m args below meth c G B0 nL Q (pc') (L) (.long v :: st) (w) (cs) (ss)) : YY p l e R s m args below meth c G B0 nL Q (pc) (L) (st) (w) (cs) (ss) := by
  subst hn
  exact fun H locs ls hl hP hD hS => lv_lconst C.1 C.2.1 hd hv (k H locs ls hl hP hD hS)
theorem yy_fconst0 (C : CX p s m args meth c cc own nL G B0)  (hd : decode cc pc = .ok (.fconst 0, 1)) (hn : pc + 1 = pc')  (k : YY p l e R s m args below meth c G B0 nL Q (pc') (L) (.float FP.fconst0 :: st) (w) (cs) (ss)) : YY p l e R s m args below meth c G B0 nL Q (pc) (L) (st) (w) (cs) (ss) := by
  subst hn
  exact fun H locs ls hl hP hD hS => lv_fconst0 C.1 C.2.1 hd  (k H locs ls hl hP hD hS)
theorem yy_ldc2 (C : CX p s m args meth c cc own nL G B0) {i : Nat} {v : Int64} (hd : decode cc pc = .ok (.ldc2_w i, 3)) (hn : pc + 3 = pc') (hc : Cond.constantLong own i v ∈ WG) (k : YY p l e R s m args below meth c G B0 nL Q (pc') (L) (.long v :: st) (w) (cs) (ss)) : YY p l e R s m args below meth c G B0 nL Q (pc) (L) (st) (w) (cs) (ss) := by
  subst hn
  exact fun H locs ls hl hP hD hS => lv_ldc2 C.1 C.2.1 C.2.2.2.1 (C.2.2.2.2.1 _ hc) hd (k H locs ls hl hP hD hS)
theorem yy_iload (C : CX p s m args meth c cc own nL G B0) {i : Nat} {x : Int32} (j : Nat) (hd : decode cc pc = .ok (.iload i, 2)) (hn : pc + 2 = pc') (hj : L[j]? = some (i, .int x)) (k : YY p l e R s m args below meth c G B0 nL Q (pc') (L) (.int x :: st) (w) (cs) (ss)) : YY p l e R s m args below meth c G B0 nL Q (pc) (L) (st) (w) (cs) (ss) := by
  subst hn
  exact fun H locs ls hl hP hD hS => lv_iload C.1 C.2.1 hd (lv_at hl j hj) (k H locs ls hl hP hD hS)
theorem yy_iload_n (C : CX p s m args meth c cc own nL G B0) {i : Nat} {q : Fin 4} {x : Int32} (j : Nat) (hd : decode cc pc = .ok (.iload_n q, 1)) (hn : pc + 1 = pc') (hi : (q : Nat) = i) (hj : L[j]? = some (i, .int x)) (k : YY p l e R s m args below meth c G B0 nL Q (pc') (L) (.int x :: st) (w) (cs) (ss)) : YY p l e R s m args below meth c G B0 nL Q (pc) (L) (st) (w) (cs) (ss) := by
  subst hn
  exact fun H locs ls hl hP hD hS => lv_iload_n C.1 C.2.1 hd hi (lv_at hl j hj) (k H locs ls hl hP hD hS)
theorem yy_lload (C : CX p s m args meth c cc own nL G B0) {i : Nat} {x : Int64} (j : Nat) (hd : decode cc pc = .ok (.lload i, 2)) (hn : pc + 2 = pc') (hj : L[j]? = some (i, .long x)) (k : YY p l e R s m args below meth c G B0 nL Q (pc') (L) (.long x :: st) (w) (cs) (ss)) : YY p l e R s m args below meth c G B0 nL Q (pc) (L) (st) (w) (cs) (ss) := by
  subst hn
  exact fun H locs ls hl hP hD hS => lv_lload C.1 C.2.1 hd (lv_at hl j hj) (k H locs ls hl hP hD hS)
theorem yy_lload_n (C : CX p s m args meth c cc own nL G B0) {i : Nat} {q : Fin 4} {x : Int64} (j : Nat) (hd : decode cc pc = .ok (.lload_n q, 1)) (hn : pc + 1 = pc') (hi : (q : Nat) = i) (hj : L[j]? = some (i, .long x)) (k : YY p l e R s m args below meth c G B0 nL Q (pc') (L) (.long x :: st) (w) (cs) (ss)) : YY p l e R s m args below meth c G B0 nL Q (pc) (L) (st) (w) (cs) (ss) := by
  subst hn
  exact fun H locs ls hl hP hD hS => lv_lload_n C.1 C.2.1 hd hi (lv_at hl j hj) (k H locs ls hl hP hD hS)
theorem yy_aload (C : CX p s m args meth c cc own nL G B0) {i : Nat} {x : Nat} (j : Nat) (hd : decode cc pc = .ok (.aload i, 2)) (hn : pc + 2 = pc') (hj : L[j]? = some (i, .ref x)) (k : YY p l e R s m args below meth c G B0 nL Q (pc') (L) (.ref x :: st) (w) (cs) (ss)) : YY p l e R s m args below meth c G B0 nL Q (pc) (L) (st) (w) (cs) (ss) := by
  subst hn
  exact fun H locs ls hl hP hD hS => lv_aload C.1 C.2.1 hd (lv_at hl j hj) (k H locs ls hl hP hD hS)
theorem yy_aload_n (C : CX p s m args meth c cc own nL G B0) {i : Nat} {q : Fin 4} {x : Nat} (j : Nat) (hd : decode cc pc = .ok (.aload_n q, 1)) (hn : pc + 1 = pc') (hi : (q : Nat) = i) (hj : L[j]? = some (i, .ref x)) (k : YY p l e R s m args below meth c G B0 nL Q (pc') (L) (.ref x :: st) (w) (cs) (ss)) : YY p l e R s m args below meth c G B0 nL Q (pc) (L) (st) (w) (cs) (ss) := by
  subst hn
  exact fun H locs ls hl hP hD hS => lv_aload_n C.1 C.2.1 hd hi (lv_at hl j hj) (k H locs ls hl hP hD hS)
theorem yy_fload (C : CX p s m args meth c cc own nL G B0) {i : Nat} {x : UInt32} (j : Nat) (hd : decode cc pc = .ok (.fload i, 2)) (hn : pc + 2 = pc') (hj : L[j]? = some (i, .float x)) (k : YY p l e R s m args below meth c G B0 nL Q (pc') (L) (.float x :: st) (w) (cs) (ss)) : YY p l e R s m args below meth c G B0 nL Q (pc) (L) (st) (w) (cs) (ss) := by
  subst hn
  exact fun H locs ls hl hP hD hS => lv_fload C.1 C.2.1 hd (lv_at hl j hj) (k H locs ls hl hP hD hS)
theorem yy_istore (C : CX p s m args meth c cc own nL G B0) {i : Nat} {x : Int32} (hd : decode cc pc = .ok (.istore i, 2)) (hn : pc + 2 = pc') (hi : i < nL) (hL : (i, Value.int x) :: L.filter (fun q => !(q.1 == i) && !(q.1 + 1 == i && q.2.category == 2)) = L') (k : YY p l e R s m args below meth c G B0 nL Q (pc') (L') (st) (w) (cs) (ss)) : YY p l e R s m args below meth c G B0 nL Q (pc) (L) (.int x :: st) (w) (cs) (ss) := by
  subst hn
  exact fun H locs ls hl hP hD hS => lv_istore C.1 C.2.1 hd hl hi hL (fun ls2 hl2 => k H locs ls2 hl2 hP hD hS)
theorem yy_istore_n (C : CX p s m args meth c cc own nL G B0) {i : Nat} {q : Fin 4} {x : Int32} (hd : decode cc pc = .ok (.istore_n q, 1)) (hn : pc + 1 = pc') (hq : (q : Nat) = i) (hi : i < nL) (hL : (i, Value.int x) :: L.filter (fun q => !(q.1 == i) && !(q.1 + 1 == i && q.2.category == 2)) = L') (k : YY p l e R s m args below meth c G B0 nL Q (pc') (L') (st) (w) (cs) (ss)) : YY p l e R s m args below meth c G B0 nL Q (pc) (L) (.int x :: st) (w) (cs) (ss) := by
  subst hn
  exact fun H locs ls hl hP hD hS => lv_istore_n C.1 C.2.1 hd hq hl hi hL (fun ls2 hl2 => k H locs ls2 hl2 hP hD hS)
theorem yy_lstore (C : CX p s m args meth c cc own nL G B0) {i : Nat} {x : Int64} (hd : decode cc pc = .ok (.lstore i, 2)) (hn : pc + 2 = pc') (hi : i + 1 < nL) (hL : (i, Value.long x) :: L.filter (fun q => !(q.1 == i) && (!(q.1 == i + 1) && !(q.1 + 1 == i && q.2.category == 2))) = L') (k : YY p l e R s m args below meth c G B0 nL Q (pc') (L') (st) (w) (cs) (ss)) : YY p l e R s m args below meth c G B0 nL Q (pc) (L) (.long x :: st) (w) (cs) (ss) := by
  subst hn
  exact fun H locs ls hl hP hD hS => lv_lstore C.1 C.2.1 hd hl hi hL (fun ls2 hl2 => k H locs ls2 hl2 hP hD hS)
theorem yy_lstore_n (C : CX p s m args meth c cc own nL G B0) {i : Nat} {q : Fin 4} {x : Int64} (hd : decode cc pc = .ok (.lstore_n q, 1)) (hn : pc + 1 = pc') (hq : (q : Nat) = i) (hi : i + 1 < nL) (hL : (i, Value.long x) :: L.filter (fun q => !(q.1 == i) && (!(q.1 == i + 1) && !(q.1 + 1 == i && q.2.category == 2))) = L') (k : YY p l e R s m args below meth c G B0 nL Q (pc') (L') (st) (w) (cs) (ss)) : YY p l e R s m args below meth c G B0 nL Q (pc) (L) (.long x :: st) (w) (cs) (ss) := by
  subst hn
  exact fun H locs ls hl hP hD hS => lv_lstore_n C.1 C.2.1 hd hq hl hi hL (fun ls2 hl2 => k H locs ls2 hl2 hP hD hS)
theorem yy_astore (C : CX p s m args meth c cc own nL G B0) {i : Nat} {x : Nat} (hd : decode cc pc = .ok (.astore i, 2)) (hn : pc + 2 = pc') (hi : i < nL) (hL : (i, Value.ref x) :: L.filter (fun q => !(q.1 == i) && !(q.1 + 1 == i && q.2.category == 2)) = L') (k : YY p l e R s m args below meth c G B0 nL Q (pc') (L') (st) (w) (cs) (ss)) : YY p l e R s m args below meth c G B0 nL Q (pc) (L) (.ref x :: st) (w) (cs) (ss) := by
  subst hn
  exact fun H locs ls hl hP hD hS => lv_astore C.1 C.2.1 hd hl hi hL (fun ls2 hl2 => k H locs ls2 hl2 hP hD hS)
theorem yy_astore_n (C : CX p s m args meth c cc own nL G B0) {i : Nat} {q : Fin 4} {x : Nat} (hd : decode cc pc = .ok (.astore_n q, 1)) (hn : pc + 1 = pc') (hq : (q : Nat) = i) (hi : i < nL) (hL : (i, Value.ref x) :: L.filter (fun q => !(q.1 == i) && !(q.1 + 1 == i && q.2.category == 2)) = L') (k : YY p l e R s m args below meth c G B0 nL Q (pc') (L') (st) (w) (cs) (ss)) : YY p l e R s m args below meth c G B0 nL Q (pc) (L) (.ref x :: st) (w) (cs) (ss) := by
  subst hn
  exact fun H locs ls hl hP hD hS => lv_astore_n C.1 C.2.1 hd hq hl hi hL (fun ls2 hl2 => k H locs ls2 hl2 hP hD hS)
theorem yy_fstore (C : CX p s m args meth c cc own nL G B0) {i : Nat} {x : UInt32} (hd : decode cc pc = .ok (.fstore i, 2)) (hn : pc + 2 = pc') (hi : i < nL) (hL : (i, Value.float x) :: L.filter (fun q => !(q.1 == i) && !(q.1 + 1 == i && q.2.category == 2)) = L') (k : YY p l e R s m args below meth c G B0 nL Q (pc') (L') (st) (w) (cs) (ss)) : YY p l e R s m args below meth c G B0 nL Q (pc) (L) (.float x :: st) (w) (cs) (ss) := by
  subst hn
  exact fun H locs ls hl hP hD hS => lv_fstore C.1 C.2.1 hd hl hi hL (fun ls2 hl2 => k H locs ls2 hl2 hP hD hS)
theorem yy_iinc (C : CX p s m args meth c cc own nL G B0) {i : Nat} {n : Int} {x v : Int32} (j : Nat) (hd : decode cc pc = .ok (.iinc i n, 3)) (hn : pc + 3 = pc') (hj : L[j]? = some (i, .int x)) (hv : x + Int32.ofInt n = v) (hi : i < nL) (hL : (i, Value.int v) :: L.filter (fun q => !(q.1 == i) && !(q.1 + 1 == i && q.2.category == 2)) = L') (k : YY p l e R s m args below meth c G B0 nL Q (pc') (L') (st) (w) (cs) (ss)) : YY p l e R s m args below meth c G B0 nL Q (pc) (L) (st) (w) (cs) (ss) := by
  subst hn
  exact fun H locs ls hl hP hD hS => lv_iinc C.1 C.2.1 hd hl hj hv hi hL (fun ls2 hl2 => k H locs ls2 hl2 hP hD hS)
theorem yy_iadd (C : CX p s m args meth c cc own nL G B0) {x y v : Int32} (hd : decode cc pc = .ok (.iadd, 1)) (hn : pc + 1 = pc') (hv : x + y = v) (k : YY p l e R s m args below meth c G B0 nL Q (pc') (L) (.int v :: st) (w) (cs) (ss)) : YY p l e R s m args below meth c G B0 nL Q (pc) (L) (.int y :: .int x :: st) (w) (cs) (ss) := by
  subst hn; subst hv
  exact fun H locs ls hl hP hD hS => lv_iadd C.1 C.2.1 hd (k H locs ls hl hP hD hS)
theorem yy_isub (C : CX p s m args meth c cc own nL G B0) {x y v : Int32} (hd : decode cc pc = .ok (.isub, 1)) (hn : pc + 1 = pc') (hv : x - y = v) (k : YY p l e R s m args below meth c G B0 nL Q (pc') (L) (.int v :: st) (w) (cs) (ss)) : YY p l e R s m args below meth c G B0 nL Q (pc) (L) (.int y :: .int x :: st) (w) (cs) (ss) := by
  subst hn; subst hv
  exact fun H locs ls hl hP hD hS => lv_isub C.1 C.2.1 hd (k H locs ls hl hP hD hS)
theorem yy_imul (C : CX p s m args meth c cc own nL G B0) {x y v : Int32} (hd : decode cc pc = .ok (.imul, 1)) (hn : pc + 1 = pc') (hv : x * y = v) (k : YY p l e R s m args below meth c G B0 nL Q (pc') (L) (.int v :: st) (w) (cs) (ss)) : YY p l e R s m args below meth c G B0 nL Q (pc) (L) (.int y :: .int x :: st) (w) (cs) (ss) := by
  subst hn; subst hv
  exact fun H locs ls hl hP hD hS => lv_imul C.1 C.2.1 hd (k H locs ls hl hP hD hS)
theorem yy_iand (C : CX p s m args meth c cc own nL G B0) {x y v : Int32} (hd : decode cc pc = .ok (.iand, 1)) (hn : pc + 1 = pc') (hv : x &&& y = v) (k : YY p l e R s m args below meth c G B0 nL Q (pc') (L) (.int v :: st) (w) (cs) (ss)) : YY p l e R s m args below meth c G B0 nL Q (pc) (L) (.int y :: .int x :: st) (w) (cs) (ss) := by
  subst hn; subst hv
  exact fun H locs ls hl hP hD hS => lv_iand C.1 C.2.1 hd (k H locs ls hl hP hD hS)
theorem yy_ladd (C : CX p s m args meth c cc own nL G B0) {x y v : Int64} (hd : decode cc pc = .ok (.ladd, 1)) (hn : pc + 1 = pc') (hv : x + y = v) (k : YY p l e R s m args below meth c G B0 nL Q (pc') (L) (.long v :: st) (w) (cs) (ss)) : YY p l e R s m args below meth c G B0 nL Q (pc) (L) (.long y :: .long x :: st) (w) (cs) (ss) := by
  subst hn; subst hv
  exact fun H locs ls hl hP hD hS => lv_ladd C.1 C.2.1 hd (k H locs ls hl hP hD hS)
theorem yy_lsub (C : CX p s m args meth c cc own nL G B0) {x y v : Int64} (hd : decode cc pc = .ok (.lsub, 1)) (hn : pc + 1 = pc') (hv : x - y = v) (k : YY p l e R s m args below meth c G B0 nL Q (pc') (L) (.long v :: st) (w) (cs) (ss)) : YY p l e R s m args below meth c G B0 nL Q (pc) (L) (.long y :: .long x :: st) (w) (cs) (ss) := by
  subst hn; subst hv
  exact fun H locs ls hl hP hD hS => lv_lsub C.1 C.2.1 hd (k H locs ls hl hP hD hS)
theorem yy_land (C : CX p s m args meth c cc own nL G B0) {x y v : Int64} (hd : decode cc pc = .ok (.land, 1)) (hn : pc + 1 = pc') (hv : x &&& y = v) (k : YY p l e R s m args below meth c G B0 nL Q (pc') (L) (.long v :: st) (w) (cs) (ss)) : YY p l e R s m args below meth c G B0 nL Q (pc) (L) (.long y :: .long x :: st) (w) (cs) (ss) := by
  subst hn; subst hv
  exact fun H locs ls hl hP hD hS => lv_land C.1 C.2.1 hd (k H locs ls hl hP hD hS)
theorem yy_lor (C : CX p s m args meth c cc own nL G B0) {x y v : Int64} (hd : decode cc pc = .ok (.lor, 1)) (hn : pc + 1 = pc') (hv : x ||| y = v) (k : YY p l e R s m args below meth c G B0 nL Q (pc') (L) (.long v :: st) (w) (cs) (ss)) : YY p l e R s m args below meth c G B0 nL Q (pc) (L) (.long y :: .long x :: st) (w) (cs) (ss) := by
  subst hn; subst hv
  exact fun H locs ls hl hP hD hS => lv_lor C.1 C.2.1 hd (k H locs ls hl hP hD hS)
theorem yy_lxor (C : CX p s m args meth c cc own nL G B0) {x y v : Int64} (hd : decode cc pc = .ok (.lxor, 1)) (hn : pc + 1 = pc') (hv : x ^^^ y = v) (k : YY p l e R s m args below meth c G B0 nL Q (pc') (L) (.long v :: st) (w) (cs) (ss)) : YY p l e R s m args below meth c G B0 nL Q (pc) (L) (.long y :: .long x :: st) (w) (cs) (ss) := by
  subst hn; subst hv
  exact fun H locs ls hl hP hD hS => lv_lxor C.1 C.2.1 hd (k H locs ls hl hP hD hS)
theorem yy_lshl (C : CX p s m args meth c cc own nL G B0) {x v : Int64} {y : Int32} (hd : decode cc pc = .ok (.lshl, 1)) (hn : pc + 1 = pc') (hv : x <<< (y.toInt64 &&& 63) = v) (k : YY p l e R s m args below meth c G B0 nL Q (pc') (L) (.long v :: st) (w) (cs) (ss)) : YY p l e R s m args below meth c G B0 nL Q (pc) (L) (.int y :: .long x :: st) (w) (cs) (ss) := by
  subst hn
  exact fun H locs ls hl hP hD hS => lv_lshl C.1 C.2.1 hd hv (k H locs ls hl hP hD hS)
theorem yy_lushr (C : CX p s m args meth c cc own nL G B0) {x v : Int64} {y : Int32} (hd : decode cc pc = .ok (.lushr, 1)) (hn : pc + 1 = pc') (hv : (x.toUInt64 >>> (y.toInt64.toUInt64 &&& Int64.toUInt64 63)).toInt64 = v) (k : YY p l e R s m args below meth c G B0 nL Q (pc') (L) (.long v :: st) (w) (cs) (ss)) : YY p l e R s m args below meth c G B0 nL Q (pc) (L) (.int y :: .long x :: st) (w) (cs) (ss) := by
  subst hn
  exact fun H locs ls hl hP hD hS => lv_lushr C.1 C.2.1 hd hv (k H locs ls hl hP hD hS)
theorem yy_i2l (C : CX p s m args meth c cc own nL G B0) {x : Int32} {v : Int64} (hd : decode cc pc = .ok (.i2l, 1)) (hn : pc + 1 = pc') (hv : x.toInt64 = v) (k : YY p l e R s m args below meth c G B0 nL Q (pc') (L) (.long v :: st) (w) (cs) (ss)) : YY p l e R s m args below meth c G B0 nL Q (pc) (L) (.int x :: st) (w) (cs) (ss) := by
  subst hn
  exact fun H locs ls hl hP hD hS => lv_i2l C.1 C.2.1 hd hv (k H locs ls hl hP hD hS)
theorem yy_l2i (C : CX p s m args meth c cc own nL G B0) {x : Int64} {v : Int32} (hd : decode cc pc = .ok (.l2i, 1)) (hn : pc + 1 = pc') (hv : x.toInt32 = v) (k : YY p l e R s m args below meth c G B0 nL Q (pc') (L) (.int v :: st) (w) (cs) (ss)) : YY p l e R s m args below meth c G B0 nL Q (pc) (L) (.long x :: st) (w) (cs) (ss) := by
  subst hn
  exact fun H locs ls hl hP hD hS => lv_l2i C.1 C.2.1 hd hv (k H locs ls hl hP hD hS)
theorem yy_lcmp (C : CX p s m args meth c cc own nL G B0) {x y : Int64} (hd : decode cc pc = .ok (.lcmp, 1)) (hn : pc + 1 = pc')  (k : YY p l e R s m args below meth c G B0 nL Q (pc') (L) (.int (lg_cmp x y) :: st) (w) (cs) (ss)) : YY p l e R s m args below meth c G B0 nL Q (pc) (L) (.long y :: .long x :: st) (w) (cs) (ss) := by
  subst hn
  exact fun H locs ls hl hP hD hS => W.lcmp C.1 C.2.1 hd  (k H locs ls hl hP hD hS)
theorem yy_dcmp (C : CX p s m args meth c cc own nL G B0) {x y : UInt64} {op : CmpOp} (hd : decode cc pc = .ok (.dcmp op, 1)) (hn : pc + 1 = pc')  (k : YY p l e R s m args below meth c G B0 nL Q (pc') (L) (.int (Op.cmpValue (FP.dcmp x y) op) :: st) (w) (cs) (ss)) : YY p l e R s m args below meth c G B0 nL Q (pc) (L) (.double y :: .double x :: st) (w) (cs) (ss) := by
  subst hn
  exact fun H locs ls hl hP hD hS => lv_dcmp C.1 C.2.1 hd  (k H locs ls hl hP hD hS)
theorem yy_fcmp (C : CX p s m args meth c cc own nL G B0) {x y : UInt32} {op : CmpOp} (hd : decode cc pc = .ok (.fcmp op, 1)) (hn : pc + 1 = pc')  (k : YY p l e R s m args below meth c G B0 nL Q (pc') (L) (.int (Op.cmpValue (FP.fcmp x y) op) :: st) (w) (cs) (ss)) : YY p l e R s m args below meth c G B0 nL Q (pc) (L) (.float y :: .float x :: st) (w) (cs) (ss) := by
  subst hn
  exact fun H locs ls hl hP hD hS => lv_fcmp C.1 C.2.1 hd  (k H locs ls hl hP hD hS)
theorem yy_i2f (C : CX p s m args meth c cc own nL G B0) {x : Int32} (hd : decode cc pc = .ok (.i2f, 1)) (hn : pc + 1 = pc')  (k : YY p l e R s m args below meth c G B0 nL Q (pc') (L) (.float (FP.i2f x) :: st) (w) (cs) (ss)) : YY p l e R s m args below meth c G B0 nL Q (pc) (L) (.int x :: st) (w) (cs) (ss) := by
  subst hn
  exact fun H locs ls hl hP hD hS => lv_i2f C.1 C.2.1 hd  (k H locs ls hl hP hD hS)
theorem yy_fdiv (C : CX p s m args meth c cc own nL G B0) {x y : UInt32} (hd : decode cc pc = .ok (.fdiv, 1)) (hn : pc + 1 = pc') (hne : vf_n32 (FP.fdiv x y)) (k : YY p l e R s m args below meth c G B0 nL Q (pc') (L) (.float (FP.fdiv x y) :: st) (w) (cs) (ss)) : YY p l e R s m args below meth c G B0 nL Q (pc) (L) (.float y :: .float x :: st) (w) (cs) (ss) := by
  subst hn
  exact fun H locs ls hl hP hD hS => lv_fdiv C.1 C.2.1 hd hne (k H locs ls hl hP hD hS)
theorem yy_f2d (C : CX p s m args meth c cc own nL G B0) {x : UInt32} (hd : decode cc pc = .ok (.f2d, 1)) (hn : pc + 1 = pc') (hne : vf_n64 (FP.f2d x)) (k : YY p l e R s m args below meth c G B0 nL Q (pc') (L) (.double (FP.f2d x) :: st) (w) (cs) (ss)) : YY p l e R s m args below meth c G B0 nL Q (pc) (L) (.float x :: st) (w) (cs) (ss) := by
  subst hn
  exact fun H locs ls hl hP hD hS => lv_f2d C.1 C.2.1 hd hne (k H locs ls hl hP hD hS)
theorem yy_dup (C : CX p s m args meth c cc own nL G B0) {a : Value} (hd : decode cc pc = .ok (.dup, 1)) (hn : pc + 1 = pc') (ha : a.category = 1) (k : YY p l e R s m args below meth c G B0 nL Q (pc') (L) (a :: a :: st) (w) (cs) (ss)) : YY p l e R s m args below meth c G B0 nL Q (pc) (L) (a :: st) (w) (cs) (ss) := by
  subst hn
  exact fun H locs ls hl hP hD hS => lv_dup C.1 C.2.1 hd ha (k H locs ls hl hP hD hS)
theorem yy_dup_x1 (C : CX p s m args meth c cc own nL G B0) {a b : Value} (hd : decode cc pc = .ok (.dup_x1, 1)) (hn : pc + 1 = pc') (ha : a.category = 1) (hb : b.category = 1) (k : YY p l e R s m args below meth c G B0 nL Q (pc') (L) (a :: b :: a :: st) (w) (cs) (ss)) : YY p l e R s m args below meth c G B0 nL Q (pc) (L) (a :: b :: st) (w) (cs) (ss) := by
  subst hn
  exact fun H locs ls hl hP hD hS => lv_dup_x1 C.1 C.2.1 hd ha hb (k H locs ls hl hP hD hS)
theorem yy_dup2 (C : CX p s m args meth c cc own nL G B0) {a b : Value} (hd : decode cc pc = .ok (.dup2, 1)) (hn : pc + 1 = pc') (ha : a.category = 1) (hb : b.category = 1) (k : YY p l e R s m args below meth c G B0 nL Q (pc') (L) (a :: b :: a :: b :: st) (w) (cs) (ss)) : YY p l e R s m args below meth c G B0 nL Q (pc) (L) (a :: b :: st) (w) (cs) (ss) := by
  subst hn
  exact fun H locs ls hl hP hD hS => lv_dup2_11 C.1 C.2.1 hd ha hb (k H locs ls hl hP hD hS)
theorem yy_icmp_eq (C : CX p s m args meth c cc own nL G B0) {x y : Int32} {off : Int} {tgt : Nat} (hd : decode cc pc = .ok (.if_icmp .eq off, 3)) (hn : pc + 3 = pc') (ht : (pc : Int) + off = (tgt : Int)) (kt : x = y → YY p l e R s m args below meth c G B0 nL Q (tgt) (L) (st) (w) (cs) (ss)) (kf : ¬ x = y → YY p l e R s m args below meth c G B0 nL Q (pc') (L) (st) (w) (cs) (ss)) : YY p l e R s m args below meth c G B0 nL Q (pc) (L) (.int y :: .int x :: st) (w) (cs) (ss) := by
  subst hn
  exact fun H locs ls hl hP hD hS => lv_icmp_eq C.1 C.2.1 hd ht (fun q => kt q H locs ls hl hP hD hS) (fun q => kf q H locs ls hl hP hD hS)
theorem yy_icmp_ne (C : CX p s m args meth c cc own nL G B0) {x y : Int32} {off : Int} {tgt : Nat} (hd : decode cc pc = .ok (.if_icmp .ne off, 3)) (hn : pc + 3 = pc') (ht : (pc : Int) + off = (tgt : Int)) (kt : ¬ x = y → YY p l e R s m args below meth c G B0 nL Q (tgt) (L) (st) (w) (cs) (ss)) (kf : x = y → YY p l e R s m args below meth c G B0 nL Q (pc') (L) (st) (w) (cs) (ss)) : YY p l e R s m args below meth c G B0 nL Q (pc) (L) (.int y :: .int x :: st) (w) (cs) (ss) := by
  subst hn
  exact fun H locs ls hl hP hD hS => lv_icmp_ne C.1 C.2.1 hd ht (fun q => kt q H locs ls hl hP hD hS) (fun q => kf q H locs ls hl hP hD hS)
theorem yy_icmp_lt (C : CX p s m args meth c cc own nL G B0) {x y : Int32} {off : Int} {tgt : Nat} (hd : decode cc pc = .ok (.if_icmp .lt off, 3)) (hn : pc + 3 = pc') (ht : (pc : Int) + off = (tgt : Int)) (kt : x < y → YY p l e R s m args below meth c G B0 nL Q (tgt) (L) (st) (w) (cs) (ss)) (kf : ¬ x < y → YY p l e R s m args below meth c G B0 nL Q (pc') (L) (st) (w) (cs) (ss)) : YY p l e R s m args below meth c G B0 nL Q (pc) (L) (.int y :: .int x :: st) (w) (cs) (ss) := by
  subst hn
  exact fun H locs ls hl hP hD hS => lv_icmp_lt C.1 C.2.1 hd ht (fun q => kt q H locs ls hl hP hD hS) (fun q => kf q H locs ls hl hP hD hS)
theorem yy_icmp_ge (C : CX p s m args meth c cc own nL G B0) {x y : Int32} {off : Int} {tgt : Nat} (hd : decode cc pc = .ok (.if_icmp .ge off, 3)) (hn : pc + 3 = pc') (ht : (pc : Int) + off = (tgt : Int)) (kt : y ≤ x → YY p l e R s m args below meth c G B0 nL Q (tgt) (L) (st) (w) (cs) (ss)) (kf : ¬ y ≤ x → YY p l e R s m args below meth c G B0 nL Q (pc') (L) (st) (w) (cs) (ss)) : YY p l e R s m args below meth c G B0 nL Q (pc) (L) (.int y :: .int x :: st) (w) (cs) (ss) := by
  subst hn
  exact fun H locs ls hl hP hD hS => lv_icmp_ge C.1 C.2.1 hd ht (fun q => kt q H locs ls hl hP hD hS) (fun q => kf q H locs ls hl hP hD hS)
theorem yy_icmp_gt (C : CX p s m args meth c cc own nL G B0) {x y : Int32} {off : Int} {tgt : Nat} (hd : decode cc pc = .ok (.if_icmp .gt off, 3)) (hn : pc + 3 = pc') (ht : (pc : Int) + off = (tgt : Int)) (kt : y < x → YY p l e R s m args below meth c G B0 nL Q (tgt) (L) (st) (w) (cs) (ss)) (kf : ¬ y < x → YY p l e R s m args below meth c G B0 nL Q (pc') (L) (st) (w) (cs) (ss)) : YY p l e R s m args below meth c G B0 nL Q (pc) (L) (.int y :: .int x :: st) (w) (cs) (ss) := by
  subst hn
  exact fun H locs ls hl hP hD hS => lv_icmp_gt C.1 C.2.1 hd ht (fun q => kt q H locs ls hl hP hD hS) (fun q => kf q H locs ls hl hP hD hS)
theorem yy_icmp_le (C : CX p s m args meth c cc own nL G B0) {x y : Int32} {off : Int} {tgt : Nat} (hd : decode cc pc = .ok (.if_icmp .le off, 3)) (hn : pc + 3 = pc') (ht : (pc : Int) + off = (tgt : Int)) (kt : x ≤ y → YY p l e R s m args below meth c G B0 nL Q (tgt) (L) (st) (w) (cs) (ss)) (kf : ¬ x ≤ y → YY p l e R s m args below meth c G B0 nL Q (pc') (L) (st) (w) (cs) (ss)) : YY p l e R s m args below meth c G B0 nL Q (pc) (L) (.int y :: .int x :: st) (w) (cs) (ss) := by
  subst hn
  exact fun H locs ls hl hP hD hS => lv_icmp_le C.1 C.2.1 hd ht (fun q => kt q H locs ls hl hP hD hS) (fun q => kf q H locs ls hl hP hD hS)
theorem yn_icmp_eq (C : CX p s m args meth c cc own nL G B0) {a b : Nat} (ha : a < 2 ^ 31) (hb : b < 2 ^ 31) {off : Int} {tgt : Nat} (hd : decode cc pc = .ok (.if_icmp .eq off, 3)) (hn : pc + 3 = pc') (ht : (pc : Int) + off = (tgt : Int)) (kt : a = b → YY p l e R s m args below meth c G B0 nL Q (tgt) (L) (st) (w) (cs) (ss)) (kf : ¬ a = b → YY p l e R s m args below meth c G B0 nL Q (pc') (L) (st) (w) (cs) (ss)) : YY p l e R s m args below meth c G B0 nL Q (pc) (L) (.int (nI b) :: .int (nI a) :: st) (w) (cs) (ss) :=
  yy_icmp_eq C hd hn ht (fun q => kt ((nI_eq ha hb).mp q)) (fun q => kf (fun z => q ((nI_eq ha hb).mpr z)))
theorem yn_icmp_lt (C : CX p s m args meth c cc own nL G B0) {a b : Nat} (ha : a < 2 ^ 31) (hb : b < 2 ^ 31) {off : Int} {tgt : Nat} (hd : decode cc pc = .ok (.if_icmp .lt off, 3)) (hn : pc + 3 = pc') (ht : (pc : Int) + off = (tgt : Int)) (kt : a < b → YY p l e R s m args below meth c G B0 nL Q (tgt) (L) (st) (w) (cs) (ss)) (kf : ¬ a < b → YY p l e R s m args below meth c G B0 nL Q (pc') (L) (st) (w) (cs) (ss)) : YY p l e R s m args below meth c G B0 nL Q (pc) (L) (.int (nI b) :: .int (nI a) :: st) (w) (cs) (ss) :=
  yy_icmp_lt C hd hn ht (fun q => kt ((nI_ltI ha hb).mp q)) (fun q => kf (fun z => q ((nI_ltI ha hb).mpr z)))
theorem yn_icmp_ge (C : CX p s m args meth c cc own nL G B0) {a b : Nat} (ha : a < 2 ^ 31) (hb : b < 2 ^ 31) {off : Int} {tgt : Nat} (hd : decode cc pc = .ok (.if_icmp .ge off, 3)) (hn : pc + 3 = pc') (ht : (pc : Int) + off = (tgt : Int)) (kt : b ≤ a → YY p l e R s m args below meth c G B0 nL Q (tgt) (L) (st) (w) (cs) (ss)) (kf : ¬ b ≤ a → YY p l e R s m args below meth c G B0 nL Q (pc') (L) (st) (w) (cs) (ss)) : YY p l e R s m args below meth c G B0 nL Q (pc) (L) (.int (nI b) :: .int (nI a) :: st) (w) (cs) (ss) :=
  yy_icmp_ge C hd hn ht (fun q => kt ((nI_leI hb ha).mp q)) (fun q => kf (fun z => q ((nI_leI hb ha).mpr z)))
theorem yn_icmp_gt (C : CX p s m args meth c cc own nL G B0) {a b : Nat} (ha : a < 2 ^ 31) (hb : b < 2 ^ 31) {off : Int} {tgt : Nat} (hd : decode cc pc = .ok (.if_icmp .gt off, 3)) (hn : pc + 3 = pc') (ht : (pc : Int) + off = (tgt : Int)) (kt : b < a → YY p l e R s m args below meth c G B0 nL Q (tgt) (L) (st) (w) (cs) (ss)) (kf : ¬ b < a → YY p l e R s m args below meth c G B0 nL Q (pc') (L) (st) (w) (cs) (ss)) : YY p l e R s m args below meth c G B0 nL Q (pc) (L) (.int (nI b) :: .int (nI a) :: st) (w) (cs) (ss) :=
  yy_icmp_gt C hd hn ht (fun q => kt ((nI_ltI hb ha).mp q)) (fun q => kf (fun z => q ((nI_ltI hb ha).mpr z)))
theorem yn_icmp_le (C : CX p s m args meth c cc own nL G B0) {a b : Nat} (ha : a < 2 ^ 31) (hb : b < 2 ^ 31) {off : Int} {tgt : Nat} (hd : decode cc pc = .ok (.if_icmp .le off, 3)) (hn : pc + 3 = pc') (ht : (pc : Int) + off = (tgt : Int)) (kt : a ≤ b → YY p l e R s m args below meth c G B0 nL Q (tgt) (L) (st) (w) (cs) (ss)) (kf : ¬ a ≤ b → YY p l e R s m args below meth c G B0 nL Q (pc') (L) (st) (w) (cs) (ss)) : YY p l e R s m args below meth c G B0 nL Q (pc) (L) (.int (nI b) :: .int (nI a) :: st) (w) (cs) (ss) :=
  yy_icmp_le C hd hn ht (fun q => kt ((nI_leI ha hb).mp q)) (fun q => kf (fun z => q ((nI_leI ha hb).mpr z)))
theorem yn_icmp_ne (C : CX p s m args meth c cc own nL G B0) {a b : Nat} (ha : a < 2 ^ 31) (hb : b < 2 ^ 31) {off : Int} {tgt : Nat} (hd : decode cc pc = .ok (.if_icmp .ne off, 3)) (hn : pc + 3 = pc') (ht : (pc : Int) + off = (tgt : Int)) (kt : ¬ a = b → YY p l e R s m args below meth c G B0 nL Q (tgt) (L) (st) (w) (cs) (ss)) (kf : a = b → YY p l e R s m args below meth c G B0 nL Q (pc') (L) (st) (w) (cs) (ss)) : YY p l e R s m args below meth c G B0 nL Q (pc) (L) (.int (nI b) :: .int (nI a) :: st) (w) (cs) (ss) :=
  yy_icmp_ne C hd hn ht (fun q => kt (fun z => q ((nI_eq ha hb).mpr z))) (fun q => kf ((nI_eq ha hb).mp q))
theorem yy_if_eq (C : CX p s m args meth c cc own nL G B0) {x : Int32} {off : Int} {tgt : Nat} (hd : decode cc pc = .ok (.ifCond .eq off, 3)) (hn : pc + 3 = pc') (ht : (pc : Int) + off = (tgt : Int)) (kt : x = 0 → YY p l e R s m args below meth c G B0 nL Q (tgt) (L) (st) (w) (cs) (ss)) (kf : ¬ x = 0 → YY p l e R s m args below meth c G B0 nL Q (pc') (L) (st) (w) (cs) (ss)) : YY p l e R s m args below meth c G B0 nL Q (pc) (L) (.int x :: st) (w) (cs) (ss) := by
  subst hn
  exact fun H locs ls hl hP hD hS => lv_if_eq C.1 C.2.1 hd ht (fun q => kt q H locs ls hl hP hD hS) (fun q => kf q H locs ls hl hP hD hS)
theorem yy_if_ne (C : CX p s m args meth c cc own nL G B0) {x : Int32} {off : Int} {tgt : Nat} (hd : decode cc pc = .ok (.ifCond .ne off, 3)) (hn : pc + 3 = pc') (ht : (pc : Int) + off = (tgt : Int)) (kt : ¬ x = 0 → YY p l e R s m args below meth c G B0 nL Q (tgt) (L) (st) (w) (cs) (ss)) (kf : x = 0 → YY p l e R s m args below meth c G B0 nL Q (pc') (L) (st) (w) (cs) (ss)) : YY p l e R s m args below meth c G B0 nL Q (pc) (L) (.int x :: st) (w) (cs) (ss) := by
  subst hn
  exact fun H locs ls hl hP hD hS => lv_if_ne C.1 C.2.1 hd ht (fun q => kt q H locs ls hl hP hD hS) (fun q => kf q H locs ls hl hP hD hS)
theorem yy_if_lt (C : CX p s m args meth c cc own nL G B0) {x : Int32} {off : Int} {tgt : Nat} (hd : decode cc pc = .ok (.ifCond .lt off, 3)) (hn : pc + 3 = pc') (ht : (pc : Int) + off = (tgt : Int)) (kt : x < 0 → YY p l e R s m args below meth c G B0 nL Q (tgt) (L) (st) (w) (cs) (ss)) (kf : ¬ x < 0 → YY p l e R s m args below meth c G B0 nL Q (pc') (L) (st) (w) (cs) (ss)) : YY p l e R s m args below meth c G B0 nL Q (pc) (L) (.int x :: st) (w) (cs) (ss) := by
  subst hn
  exact fun H locs ls hl hP hD hS => lv_if_lt C.1 C.2.1 hd ht (fun q => kt q H locs ls hl hP hD hS) (fun q => kf q H locs ls hl hP hD hS)
theorem yy_if_ge (C : CX p s m args meth c cc own nL G B0) {x : Int32} {off : Int} {tgt : Nat} (hd : decode cc pc = .ok (.ifCond .ge off, 3)) (hn : pc + 3 = pc') (ht : (pc : Int) + off = (tgt : Int)) (kt : 0 ≤ x → YY p l e R s m args below meth c G B0 nL Q (tgt) (L) (st) (w) (cs) (ss)) (kf : ¬ 0 ≤ x → YY p l e R s m args below meth c G B0 nL Q (pc') (L) (st) (w) (cs) (ss)) : YY p l e R s m args below meth c G B0 nL Q (pc) (L) (.int x :: st) (w) (cs) (ss) := by
  subst hn
  exact fun H locs ls hl hP hD hS => lv_if_ge C.1 C.2.1 hd ht (fun q => kt q H locs ls hl hP hD hS) (fun q => kf q H locs ls hl hP hD hS)
theorem yy_if_gt (C : CX p s m args meth c cc own nL G B0) {x : Int32} {off : Int} {tgt : Nat} (hd : decode cc pc = .ok (.ifCond .gt off, 3)) (hn : pc + 3 = pc') (ht : (pc : Int) + off = (tgt : Int)) (kt : 0 < x → YY p l e R s m args below meth c G B0 nL Q (tgt) (L) (st) (w) (cs) (ss)) (kf : ¬ 0 < x → YY p l e R s m args below meth c G B0 nL Q (pc') (L) (st) (w) (cs) (ss)) : YY p l e R s m args below meth c G B0 nL Q (pc) (L) (.int x :: st) (w) (cs) (ss) := by
  subst hn
  exact fun H locs ls hl hP hD hS => lv_if_gt C.1 C.2.1 hd ht (fun q => kt q H locs ls hl hP hD hS) (fun q => kf q H locs ls hl hP hD hS)
theorem yy_if_le (C : CX p s m args meth c cc own nL G B0) {x : Int32} {off : Int} {tgt : Nat} (hd : decode cc pc = .ok (.ifCond .le off, 3)) (hn : pc + 3 = pc') (ht : (pc : Int) + off = (tgt : Int)) (kt : x ≤ 0 → YY p l e R s m args below meth c G B0 nL Q (tgt) (L) (st) (w) (cs) (ss)) (kf : ¬ x ≤ 0 → YY p l e R s m args below meth c G B0 nL Q (pc') (L) (st) (w) (cs) (ss)) : YY p l e R s m args below meth c G B0 nL Q (pc) (L) (.int x :: st) (w) (cs) (ss) := by
  subst hn
  exact fun H locs ls hl hP hD hS => lv_if_le C.1 C.2.1 hd ht (fun q => kt q H locs ls hl hP hD hS) (fun q => kf q H locs ls hl hP hD hS)
theorem yb_if_eq (C : CX p s m args meth c cc own nL G B0) {b : Bool} {off : Int} {tgt : Nat} (hd : decode cc pc = .ok (.ifCond .eq off, 3)) (hn : pc + 3 = pc') (ht : (pc : Int) + off = (tgt : Int)) (kt : b = false → YY p l e R s m args below meth c G B0 nL Q (tgt) (L) (st) (w) (cs) (ss)) (kf : b = true → YY p l e R s m args below meth c G B0 nL Q (pc') (L) (st) (w) (cs) (ss)) : YY p l e R s m args below meth c G B0 nL Q (pc) (L) (.int (bI b) :: st) (w) (cs) (ss) :=
  yy_if_eq C hd hn ht (fun q => kt (bI_eq q)) (fun q => kf (bI_ne q))
theorem yb_if_ne (C : CX p s m args meth c cc own nL G B0) {b : Bool} {off : Int} {tgt : Nat} (hd : decode cc pc = .ok (.ifCond .ne off, 3)) (hn : pc + 3 = pc') (ht : (pc : Int) + off = (tgt : Int)) (kt : b = true → YY p l e R s m args below meth c G B0 nL Q (tgt) (L) (st) (w) (cs) (ss)) (kf : b = false → YY p l e R s m args below meth c G B0 nL Q (pc') (L) (st) (w) (cs) (ss)) : YY p l e R s m args below meth c G B0 nL Q (pc) (L) (.int (bI b) :: st) (w) (cs) (ss) :=
  yy_if_ne C hd hn ht (fun q => kt (bI_ne q)) (fun q => kf (bI_eq q))
theorem yy_goto (C : CX p s m args meth c cc own nL G B0) {off : Int} {tgt : Nat} (hd : decode cc pc = .ok (.goto off, 3)) (ht : (pc : Int) + off = (tgt : Int)) (k : YY p l e R s m args below meth c G B0 nL Q (tgt) (L) (st) (w) (cs) (ss)) : YY p l e R s m args below meth c G B0 nL Q (pc) (L) (st) (w) (cs) (ss) :=
  fun H locs ls hl hP hD hS => lv_goto C.1 C.2.1 hd ht (k H locs ls hl hP hD hS)
theorem yy_loc (is : List Nat) (h : lv_pick L is = L') (k : YY p l e R s m args below meth c G B0 nL Q (pc) (L') (st) (w) (cs) (ss)) : YY p l e R s m args below meth c G B0 nL Q (pc) (L) (st) (w) (cs) (ss) := fun H locs ls hl hP hD hS => k H locs ls (lv_sub hl is h) hP hD hS
theorem yy_widen {cs2 ss2 : Nat} (h1 : cs ≤ cs2) (h2 : ss ≤ ss2) (k : YY p l e R s m args below meth c G B0 nL Q (pc) (L) (st) (w) (cs2) (ss2)) : YY p l e R s m args below meth c G B0 nL Q (pc) (L) (st) (w) (cs) (ss) := fun H locs ls hl hP hD hS => W.widen h1 h2 (k H locs ls hl hP hD hS)
theorem pP {D : va_G} {cl : List vw_C} {w w' : va_W} {H : Heap} (hp : w.Perm w') (h : va_P D cl w H) : va_P D cl w' H := by
  intro k q hk
  have hm : q ∈ w := hp.mem_iff.mpr (List.mem_of_getElem? hk)
  obtain ⟨i, hi⟩ := List.getElem?_of_mem hm
  exact h i q hi
theorem va_D_iff {A : Nat → Prop} {w : va_W} : va_D A w ↔ (w.map Prod.fst).Nodup ∧ ∀ q ∈ w, A q.1 := by
  constructor
  · intro h
    refine ⟨?_, fun q hq => ?_⟩
    · rw [List.nodup_iff_pairwise_ne, List.pairwise_iff_getElem]
      intro i j hi hj hij hne
      rw [List.length_map] at hi hj
      have h1 := h.1 i j w[i] w[j] (List.getElem?_eq_getElem hi) (List.getElem?_eq_getElem hj) (by simpa using hne)
      omega
    · obtain ⟨i, hi⟩ := List.getElem?_of_mem hq
      exact h.2 i q hi
  · intro h
    refine ⟨fun i j a b hi hj hab => ?_, fun k q hk => h.2 q (List.mem_of_getElem? hk)⟩
    have h1 := h.1
    rw [List.nodup_iff_pairwise_ne, List.pairwise_iff_getElem] at h1
    obtain ⟨li, ei⟩ := List.getElem?_eq_some_iff.mp hi
    obtain ⟨lj, ej⟩ := List.getElem?_eq_some_iff.mp hj
    rcases Nat.lt_trichotomy i j with q | q | q
    · have z := h1 i j (by rw [List.length_map]; exact li) (by rw [List.length_map]; exact lj) q
      simp only [List.getElem_map, ei, ej] at z
      exact absurd hab z
    · exact q
    · have z := h1 j i (by rw [List.length_map]; exact lj) (by rw [List.length_map]; exact li) q
      simp only [List.getElem_map, ei, ej] at z
      exact absurd hab.symm z
theorem pD {A : Nat → Prop} {w w' : va_W} (hp : w.Perm w') (h : va_D A w) : va_D A w' := by
  rw [va_D_iff] at h ⊢
  exact ⟨(hp.map Prod.fst).nodup_iff.mp h.1, fun q hq => h.2 q (hp.mem_iff.mpr hq)⟩
theorem perm_id {α : Type} (x : List α) : ∀ pre : List α, (List.range' pre.length x.length).filterMap (fun i => (pre ++ x)[i]?) = x := by
  induction x with
  | nil => intro pre; rfl
  | cons a x ih =>
    intro pre
    have h1 := ih (pre ++ [a])
    have h3 : (pre ++ [a]) ++ x = pre ++ a :: x := by simp
    rw [h3, List.length_append, List.length_singleton] at h1
    have h2 : (pre ++ a :: x)[pre.length]? = some a := by simp
    rw [List.length_cons, List.range'_succ, List.filterMap_cons_some h2, h1]
theorem perm_at {α : Type} {x y : List α} (is : List Nat) (hp : is.isPerm (List.range x.length) = true) (hy : is.filterMap (fun i => x[i]?) = y) : x.Perm y := by
  have h1 : (List.range x.length).filterMap (fun i => x[i]?) = x := by
    have h := perm_id x []
    rw [List.range_eq_range']
    simpa using h
  subst hy
  have h2 := (List.isPerm_iff.mp hp).filterMap (fun i => x[i]?)
  rw [h1] at h2
  exact h2.symm
theorem yy_perm (hp : w.Perm w') (k : YY p l e R s m args below meth c G B0 nL Q (pc) (L) (st) (w') (cs) (ss)) : YY p l e R s m args below meth c G B0 nL Q (pc) (L) (st) (w) (cs) (ss) := fun H locs ls hl hP hD hS => k H locs ls hl (pP hp hP) (pD hp hD) hS
theorem yy_get (C : CX p s m args meth c cc own nL G B0) {Cn : String} {T : u_T} {N ci k0 index a : Nat} {fs : List Value} {v : Value} (F : fkP own index Cn T N ci k0) (q0 : Nat) (hd : decode cc pc = .ok (.getfield index, 3)) (hn : pc + 3 = pc') (he : w[q0]? = some (a, .inr (ci, fs))) (hv : fs[k0]? = some v) (k : YY p l e R s m args below meth c G B0 nL Q (pc') (L) (v :: st) (w) (cs) (ss)) : YY p l e R s m args below meth c G B0 nL Q (pc) (L) (.ref a :: st) (w) (cs) (ss) := by
  subst hn
  intro H locs ls hl hP hD hS
  obtain ⟨f1, f2, f3, f4, f5⟩ := F
  exact va_get (ref := Cn) (C := Cn) (T := T) (N := N) (ci := ci) C.1 C.2.1 C.2.2.2.2.1 f1 C.2.2.2.1 C.2.2.2.2.2.1 hP q0 he f2 k0 f3 (C.2.2.2.2.1 _ f4) (fun _ h => by rw [f5] at h; exact h) hv hd (k H locs ls hl hP hD hS)
theorem yy_put (C : CX p s m args meth c cc own nL G B0) {Cn : String} {T : u_T} {N ci k0 index a : Nat} {ty : Nat → FieldType} {fs : List Value} {v : Value} (F : fkP own index Cn T N ci k0) (F2 : fpP T N ty) (hfin : (T k0).2.2.2 = false) (q0 : Nat) (hd : decode cc pc = .ok (.putfield index, 3)) (hn : pc + 3 = pc') (he : w[q0]? = some (a, .inr (ci, fs))) (hnr : narrow (ty k0) v = v) (hfit : fits (ty k0) v = true) (hlen : k0 < fs.length) (hw : w.set q0 (a, .inr (ci, fs.set k0 v)) = w') (k : YY p l e R s m args below meth c G B0 nL Q (pc') (L) (st) (w') (cs) (ss)) : YY p l e R s m args below meth c G B0 nL Q (pc) (L) (v :: .ref a :: st) (w) (cs) (ss) := by
  subst hn; subst hw
  intro H locs ls hl hP hD hS
  obtain ⟨f1, f2, f3, f4, f5⟩ := F
  exact va_put (ref := Cn) (C := Cn) (T := T) (N := N) (ci := ci) C.1 C.2.1 C.2.2.2.2.1 f1 ty F2.1 F2.2 C.2.2.2.1 C.2.2.2.2.2.1 hP hD hS q0 he f2 k0 f3 (C.2.2.2.2.1 _ f4) (fun _ h => by rw [f5] at h; exact h) hfin (F2.1 k0 f3) hnr hfit hlen hd (fun H1 locs1 hP1 hD1 hS1 => k H1 locs1 ls hl hP1 hD1 hS1)
theorem yy_putF (C : CX p s m args meth c cc own nL G B0) {T : u_T} {N ci k0 index a : Nat} {ty : Nat → FieldType} {fs : List Value} {v : Value} (F : fkP own index own T N ci k0) (F2 : fpP T N ty) (hin : meth.name = "<init>") (hfin : (T k0).2.2.2 = true) (q0 : Nat) (hd : decode cc pc = .ok (.putfield index, 3)) (hn : pc + 3 = pc') (he : w[q0]? = some (a, .inr (ci, fs))) (hnr : narrow (ty k0) v = v) (hfit : fits (ty k0) v = true) (hlen : k0 < fs.length) (hw : w.set q0 (a, .inr (ci, fs.set k0 v)) = w') (k : YY p l e R s m args below meth c G B0 nL Q (pc') (L) (st) (w') (cs) (ss)) : YY p l e R s m args below meth c G B0 nL Q (pc) (L) (v :: .ref a :: st) (w) (cs) (ss) := by
  subst hn; subst hw
  intro H locs ls hl hP hD hS
  obtain ⟨f1, f2, f3, f4, f5⟩ := F
  exact va_putF (ref := own) (C := own) (T := T) (N := N) (ci := ci) C.1 C.2.1 C.2.2.2.2.1 f1 ty F2.1 F2.2 C.2.2.2.1 C.2.2.2.2.2.1 hP hD hS q0 he f2 k0 f3 (C.2.2.2.2.1 _ f4) (fun _ h => by rw [f5] at h; exact h) hfin hin f5 (F2.1 k0 f3) hnr hfit hlen hd (fun H1 locs1 hP1 hD1 hS1 => k H1 locs1 ls hl hP1 hD1 hS1)
theorem yy_iald (C : CX p s m args meth c cc own nL G B0) {a n i : Nat} {f : Nat → Int32} (q0 : Nat) (hd : decode cc pc = .ok (.iaload, 1)) (hn : pc + 1 = pc') (ha : w[q0]? = some (a, .inl (G.2.1, n, .inl f))) (hi : i < n) (h31 : n < 2 ^ 31) (k : YY p l e R s m args below meth c G B0 nL Q (pc') (L) (.int (f i) :: st) (w) (cs) (ss)) : YY p l e R s m args below meth c G B0 nL Q (pc) (L) (.int (nI i) :: .ref a :: st) (w) (cs) (ss) := by
  subst hn
  intro H locs ls hl hP hD hS
  refine va_iald C.1 C.2.1 C.2.2.2.2.2.1 hP q0 0 ha rfl (vp_in_nI hi h31) hd ?_
  rw [nI_clamp (Nat.lt_trans hi h31)]
  exact k H locs ls hl hP hD hS
theorem yy_lald (C : CX p s m args meth c cc own nL G B0) {a n i : Nat} {f : Nat → Int64} (q0 : Nat) (hd : decode cc pc = .ok (.laload, 1)) (hn : pc + 1 = pc') (ha : w[q0]? = some (a, .inl (G.2.2.1, n, .inr (.inl f)))) (hi : i < n) (h31 : n < 2 ^ 31) (k : YY p l e R s m args below meth c G B0 nL Q (pc') (L) (.long (f i) :: st) (w) (cs) (ss)) : YY p l e R s m args below meth c G B0 nL Q (pc) (L) (.int (nI i) :: .ref a :: st) (w) (cs) (ss) := by
  subst hn
  intro H locs ls hl hP hD hS
  refine va_lald C.1 C.2.1 C.2.2.2.2.2.1 hP q0 1 ha rfl (vp_in_nI hi h31) hd ?_
  rw [nI_clamp (Nat.lt_trans hi h31)]
  exact k H locs ls hl hP hD hS
theorem yy_zald (C : CX p s m args meth c cc own nL G B0) {a n i : Nat} {f : Nat → Int32} (q0 : Nat) (hd : decode cc pc = .ok (.baload, 1)) (hn : pc + 1 = pc') (ha : w[q0]? = some (a, .inl (G.2.2.2.1, n, .inl f))) (hi : i < n) (h31 : n < 2 ^ 31) (k : YY p l e R s m args below meth c G B0 nL Q (pc') (L) (.int (f i) :: st) (w) (cs) (ss)) : YY p l e R s m args below meth c G B0 nL Q (pc) (L) (.int (nI i) :: .ref a :: st) (w) (cs) (ss) := by
  subst hn
  intro H locs ls hl hP hD hS
  refine va_zald C.1 C.2.1 C.2.2.2.2.2.1 hP q0 2 ha rfl (vp_in_nI hi h31) hd ?_
  rw [nI_clamp (Nat.lt_trans hi h31)]
  exact k H locs ls hl hP hD hS
theorem yy_cald (C : CX p s m args meth c cc own nL G B0) {a n i : Nat} {f : Nat → Int32} (q0 : Nat) (hd : decode cc pc = .ok (.caload, 1)) (hn : pc + 1 = pc') (ha : w[q0]? = some (a, .inl (G.2.2.2.2.1, n, .inl f))) (hi : i < n) (h31 : n < 2 ^ 31) (k : YY p l e R s m args below meth c G B0 nL Q (pc') (L) (.int (f i) :: st) (w) (cs) (ss)) : YY p l e R s m args below meth c G B0 nL Q (pc) (L) (.int (nI i) :: .ref a :: st) (w) (cs) (ss) := by
  subst hn
  intro H locs ls hl hP hD hS
  refine va_cald C.1 C.2.1 C.2.2.2.2.2.1 hP q0 3 ha rfl (vp_in_nI hi h31) hd ?_
  rw [nI_clamp (Nat.lt_trans hi h31)]
  exact k H locs ls hl hP hD hS
theorem yy_dald (C : CX p s m args meth c cc own nL G B0) {a n i : Nat} {f : Nat → UInt64} (q0 : Nat) (hd : decode cc pc = .ok (.daload, 1)) (hn : pc + 1 = pc') (ha : w[q0]? = some (a, .inl (G.2.2.2.2.2, n, .inr (.inr (.inr (.inl f)))))) (hi : i < n) (h31 : n < 2 ^ 31) (k : YY p l e R s m args below meth c G B0 nL Q (pc') (L) (.double (f i) :: st) (w) (cs) (ss)) : YY p l e R s m args below meth c G B0 nL Q (pc) (L) (.int (nI i) :: .ref a :: st) (w) (cs) (ss) := by
  subst hn
  intro H locs ls hl hP hD hS
  refine va_dald C.1 C.2.1 C.2.2.2.2.2.1 hP q0 4 ha rfl (vp_in_nI hi h31) hd ?_
  rw [nI_clamp (Nat.lt_trans hi h31)]
  exact k H locs ls hl hP hD hS
theorem yy_iast (C : CX p s m args meth c cc own nL G B0) {a n i : Nat} {x : Int32} {f : Nat → Int32} (q0 : Nat) (hd : decode cc pc = .ok (.iastore, 1)) (hn : pc + 1 = pc') (ha : w[q0]? = some (a, .inl (G.2.1, n, .inl f))) (hi : i < n) (h31 : n < 2 ^ 31) (hw : w.set q0 (a, .inl (G.2.1, n, .inl (upd f i x))) = w') (k : YY p l e R s m args below meth c G B0 nL Q (pc') (L) (st) (w') (cs) (ss)) : YY p l e R s m args below meth c G B0 nL Q (pc) (L) (.int x :: .int (nI i) :: .ref a :: st) (w) (cs) (ss) := by
  subst hn; subst hw
  intro H locs ls hl hP hD hS
  refine va_iast C.1 C.2.1 C.2.2.2.2.2.1 hP hD hS q0 0 ha rfl (vp_in_nI hi h31) hd ?_
  rw [nI_clamp (Nat.lt_trans hi h31)]
  exact fun H1 locs1 hP1 hD1 hS1 => k H1 locs1 ls hl hP1 hD1 hS1
theorem yy_last (C : CX p s m args meth c cc own nL G B0) {a n i : Nat} {x : Int64} {f : Nat → Int64} (q0 : Nat) (hd : decode cc pc = .ok (.lastore, 1)) (hn : pc + 1 = pc') (ha : w[q0]? = some (a, .inl (G.2.2.1, n, .inr (.inl f)))) (hi : i < n) (h31 : n < 2 ^ 31) (hw : w.set q0 (a, .inl (G.2.2.1, n, .inr (.inl (vp_updL f i x)))) = w') (k : YY p l e R s m args below meth c G B0 nL Q (pc') (L) (st) (w') (cs) (ss)) : YY p l e R s m args below meth c G B0 nL Q (pc) (L) (.long x :: .int (nI i) :: .ref a :: st) (w) (cs) (ss) := by
  subst hn; subst hw
  intro H locs ls hl hP hD hS
  refine va_last C.1 C.2.1 C.2.2.2.2.2.1 hP hD hS q0 1 ha rfl (vp_in_nI hi h31) hd ?_
  rw [nI_clamp (Nat.lt_trans hi h31)]
  exact fun H1 locs1 hP1 hD1 hS1 => k H1 locs1 ls hl hP1 hD1 hS1
theorem yy_dast (C : CX p s m args meth c cc own nL G B0) {a n i : Nat} {x : UInt64} {f : Nat → UInt64} (q0 : Nat) (hd : decode cc pc = .ok (.dastore, 1)) (hn : pc + 1 = pc') (ha : w[q0]? = some (a, .inl (G.2.2.2.2.2, n, .inr (.inr (.inr (.inl f)))))) (hi : i < n) (h31 : n < 2 ^ 31) (hw : w.set q0 (a, .inl (G.2.2.2.2.2, n, .inr (.inr (.inr (.inl (vf_upd f i x)))))) = w') (k : YY p l e R s m args below meth c G B0 nL Q (pc') (L) (st) (w') (cs) (ss)) : YY p l e R s m args below meth c G B0 nL Q (pc) (L) (.double x :: .int (nI i) :: .ref a :: st) (w) (cs) (ss) := by
  subst hn; subst hw
  intro H locs ls hl hP hD hS
  refine va_dast C.1 C.2.1 C.2.2.2.2.2.1 hP hD hS q0 4 ha rfl (vp_in_nI hi h31) hd ?_
  rw [nI_clamp (Nat.lt_trans hi h31)]
  exact fun H1 locs1 hP1 hD1 hS1 => k H1 locs1 ls hl hP1 hD1 hS1
theorem yy_zast (C : CX p s m args meth c cc own nL G B0) {a n i : Nat} {x : Int32} {f : Nat → Int32} (q0 : Nat) (hd : decode cc pc = .ok (.bastore, 1)) (hn : pc + 1 = pc') (ha : w[q0]? = some (a, .inl (G.2.2.2.1, n, .inl f))) (hi : i < n) (h31 : n < 2 ^ 31) (hx : vp_nar .boolean x = x) (hw : w.set q0 (a, .inl (G.2.2.2.1, n, .inl (upd f i x))) = w') (k : YY p l e R s m args below meth c G B0 nL Q (pc') (L) (st) (w') (cs) (ss)) : YY p l e R s m args below meth c G B0 nL Q (pc) (L) (.int x :: .int (nI i) :: .ref a :: st) (w) (cs) (ss) := by
  subst hn; subst hw
  intro H locs ls hl hP hD hS
  refine va_zast C.1 C.2.1 C.2.2.2.2.2.1 hP hD hS q0 2 ha rfl (vp_in_nI hi h31) hd ?_
  rw [nI_clamp (Nat.lt_trans hi h31), hx]
  exact fun H1 locs1 hP1 hD1 hS1 => k H1 locs1 ls hl hP1 hD1 hS1
theorem yy_cast (C : CX p s m args meth c cc own nL G B0) {a n i : Nat} {x : Int32} {f : Nat → Int32} (q0 : Nat) (hd : decode cc pc = .ok (.castore, 1)) (hn : pc + 1 = pc') (ha : w[q0]? = some (a, .inl (G.2.2.2.2.1, n, .inl f))) (hi : i < n) (h31 : n < 2 ^ 31) (hx : vp_nar .char x = x) (hw : w.set q0 (a, .inl (G.2.2.2.2.1, n, .inl (upd f i x))) = w') (k : YY p l e R s m args below meth c G B0 nL Q (pc') (L) (st) (w') (cs) (ss)) : YY p l e R s m args below meth c G B0 nL Q (pc) (L) (.int x :: .int (nI i) :: .ref a :: st) (w) (cs) (ss) := by
  subst hn; subst hw
  intro H locs ls hl hP hD hS
  refine va_cast C.1 C.2.1 C.2.2.2.2.2.1 hP hD hS q0 3 ha rfl (vp_in_nI hi h31) hd ?_
  rw [nI_clamp (Nat.lt_trans hi h31), hx]
  exact fun H1 locs1 hP1 hD1 hS1 => k H1 locs1 ls hl hP1 hD1 hS1
end YR
section YM
variable {p : Program} {l : Launch} {e : Env} {R : Room} {s : State} {m : MethodId} {args : Array Value} {below : List Frame} {meth : Method} {c : Code} {cc : ByteArray} {own : String} {nL : Nat} {G : gG} {B0 : Nat} {Q : State → Prop} {pc pc' : Nat} {L L' : List (Nat × Value)} {st rest : List Value} {w w' : va_W} {cs ss : Nat}
theorem pSnoc {x : Nat × va_E} : (w ++ [x]).Perm (x :: w) := List.perm_append_comm
theorem yy_new (C : CX p s m args meth c cc own nL G B0) {Cn : String} {T : u_T} {N ci index : Nat} {ty : Nat → FieldType} {fs : List Value} (F1 : ∀ w ∈ u_ws Cn T N, w ∈ WG) (hc : vwCl[ci]? = some (Cn, T, N)) (F2 : fpP T N ty) (h1 : Cond.classLink own index Cn ∈ WG) (h2 : Cond.instantiable Cn N ∈ WG) (h3 : Cond.initialized Cn ∈ WG) (hd : decode cc pc = .ok (.new index, 3)) (hn : pc + 3 = pc') (hfs : ∀ j, j < N → defaultValue (ty j) = vp_V fs j) (hcc : cs + 1 ≤ R.cells) (hss : ss + N ≤ R.slots) (k : ∀ q : Nat, YY p l e R s m args below meth c G B0 nL Q (pc') (L) (.ref q :: st) ((q, .inr (ci, fs)) :: w) (cs + 1) (ss + N)) : YY p l e R s m args below meth c G B0 nL Q (pc) (L) (st) (w) (cs) (ss) := by
  subst hn
  intro H locs ls hl hP hD hS
  refine va_new (ci := ci) (fs := fs) (C := Cn) (T := T) (N := N) C.1 C.2.1 C.2.2.2.2.1 F1 ty F2.1 C.2.2.2.1 (C.2.2.2.2.1 _ h1) (C.2.2.2.2.1 _ h2) (C.2.2.2.2.1 _ h3) C.2.2.2.2.2.1 hP hD hS (fun q h => Nat.le_trans C.2.2.2.2.2.2.2.1 h) hc hfs hcc hss hd (fun q H1 hP1 hD1 hS1 => ?_)
  exact k q H1 locs ls hl (pP pSnoc hP1) (pD pSnoc hD1) hS1
theorem yy_newaI (C : CX p s m args meth c cc own nL G B0) {N : Nat} (hA : Cond.arrayClass .int ∈ WG) (hd : decode cc pc = .ok (.newarray .int, 2)) (hn : pc + 2 = pc') (hN : N < 2 ^ 31) (hb : N * componentBytes .int ≤ 536870912) (hcc : cs + 1 ≤ R.cells) (hss : ss + N ≤ R.slots) (k : ∀ q : Nat, YY p l e R s m args below meth c G B0 nL Q (pc') (L) (.ref q :: st) ((q, .inl (G.2.1, N, .inl (fun _ => 0))) :: w) (cs + 1) (ss + N)) : YY p l e R s m args below meth c G B0 nL Q (pc) (L) (.int (nI N) :: st) (w) (cs) (ss) := by
  subst hn
  intro H locs ls hl hP hD hS
  refine va_newa (atype := .int) (ty := .int) (N' := N) (a0 := (N, .inl (fun _ => 0))) C.1 C.2.1 (C.2.2.2.2.1 _ hA) rfl C.2.2.2.2.2.1 hP hD hS (fun q h => Nat.le_trans C.2.2.2.2.2.2.2.1 h) (fun cA => by first | exact vp_cell_i | exact vp_cell_l | exact vp_cell_d | rfl) (nI_pos hN) (nI_clamp hN) hb hcc hss hd (fun q cA H1 hK1 hP1 hD1 hS1 => ?_)
  have e1 : s.vm.findClass ("[" ++ (FieldType.toString .int)) = some cA := (hK1.2 5 (cA, .int) rfl).2
  have e2 : s.vm.findClass ("[" ++ (FieldType.toString .int)) = some G.2.1 := (C.2.2.2.2.2.1.2 0 (G.2.1, .int) rfl).2
  have e3 : cA = G.2.1 := Option.some.inj (e1.symm.trans e2)
  subst e3
  exact k q H1 locs ls hl (pP pSnoc hP1) (pD pSnoc hD1) hS1
theorem yy_newaJ (C : CX p s m args meth c cc own nL G B0) {N : Nat} (hA : Cond.arrayClass .long ∈ WG) (hd : decode cc pc = .ok (.newarray .long, 2)) (hn : pc + 2 = pc') (hN : N < 2 ^ 31) (hb : N * componentBytes .long ≤ 536870912) (hcc : cs + 1 ≤ R.cells) (hss : ss + N ≤ R.slots) (k : ∀ q : Nat, YY p l e R s m args below meth c G B0 nL Q (pc') (L) (.ref q :: st) ((q, .inl (G.2.2.1, N, .inr (.inl (fun _ => 0)))) :: w) (cs + 1) (ss + N)) : YY p l e R s m args below meth c G B0 nL Q (pc) (L) (.int (nI N) :: st) (w) (cs) (ss) := by
  subst hn
  intro H locs ls hl hP hD hS
  refine va_newa (atype := .long) (ty := .long) (N' := N) (a0 := (N, .inr (.inl (fun _ => 0)))) C.1 C.2.1 (C.2.2.2.2.1 _ hA) rfl C.2.2.2.2.2.1 hP hD hS (fun q h => Nat.le_trans C.2.2.2.2.2.2.2.1 h) (fun cA => by first | exact vp_cell_i | exact vp_cell_l | exact vp_cell_d | rfl) (nI_pos hN) (nI_clamp hN) hb hcc hss hd (fun q cA H1 hK1 hP1 hD1 hS1 => ?_)
  have e1 : s.vm.findClass ("[" ++ (FieldType.toString .long)) = some cA := (hK1.2 5 (cA, .long) rfl).2
  have e2 : s.vm.findClass ("[" ++ (FieldType.toString .long)) = some G.2.2.1 := (C.2.2.2.2.2.1.2 1 (G.2.2.1, .long) rfl).2
  have e3 : cA = G.2.2.1 := Option.some.inj (e1.symm.trans e2)
  subst e3
  exact k q H1 locs ls hl (pP pSnoc hP1) (pD pSnoc hD1) hS1
theorem yy_newaZ (C : CX p s m args meth c cc own nL G B0) {N : Nat} (hA : Cond.arrayClass .boolean ∈ WG) (hd : decode cc pc = .ok (.newarray .boolean, 2)) (hn : pc + 2 = pc') (hN : N < 2 ^ 31) (hb : N * componentBytes .boolean ≤ 536870912) (hcc : cs + 1 ≤ R.cells) (hss : ss + N ≤ R.slots) (k : ∀ q : Nat, YY p l e R s m args below meth c G B0 nL Q (pc') (L) (.ref q :: st) ((q, .inl (G.2.2.2.1, N, .inl (fun _ => 0))) :: w) (cs + 1) (ss + N)) : YY p l e R s m args below meth c G B0 nL Q (pc) (L) (.int (nI N) :: st) (w) (cs) (ss) := by
  subst hn
  intro H locs ls hl hP hD hS
  refine va_newa (atype := .boolean) (ty := .boolean) (N' := N) (a0 := (N, .inl (fun _ => 0))) C.1 C.2.1 (C.2.2.2.2.1 _ hA) rfl C.2.2.2.2.2.1 hP hD hS (fun q h => Nat.le_trans C.2.2.2.2.2.2.2.1 h) (fun cA => by first | exact vp_cell_i | exact vp_cell_l | exact vp_cell_d | rfl) (nI_pos hN) (nI_clamp hN) hb hcc hss hd (fun q cA H1 hK1 hP1 hD1 hS1 => ?_)
  have e1 : s.vm.findClass ("[" ++ (FieldType.toString .boolean)) = some cA := (hK1.2 5 (cA, .boolean) rfl).2
  have e2 : s.vm.findClass ("[" ++ (FieldType.toString .boolean)) = some G.2.2.2.1 := (C.2.2.2.2.2.1.2 2 (G.2.2.2.1, .boolean) rfl).2
  have e3 : cA = G.2.2.2.1 := Option.some.inj (e1.symm.trans e2)
  subst e3
  exact k q H1 locs ls hl (pP pSnoc hP1) (pD pSnoc hD1) hS1
theorem yy_newaC (C : CX p s m args meth c cc own nL G B0) {N : Nat} (hA : Cond.arrayClass .char ∈ WG) (hd : decode cc pc = .ok (.newarray .char, 2)) (hn : pc + 2 = pc') (hN : N < 2 ^ 31) (hb : N * componentBytes .char ≤ 536870912) (hcc : cs + 1 ≤ R.cells) (hss : ss + N ≤ R.slots) (k : ∀ q : Nat, YY p l e R s m args below meth c G B0 nL Q (pc') (L) (.ref q :: st) ((q, .inl (G.2.2.2.2.1, N, .inl (fun _ => 0))) :: w) (cs + 1) (ss + N)) : YY p l e R s m args below meth c G B0 nL Q (pc) (L) (.int (nI N) :: st) (w) (cs) (ss) := by
  subst hn
  intro H locs ls hl hP hD hS
  refine va_newa (atype := .char) (ty := .char) (N' := N) (a0 := (N, .inl (fun _ => 0))) C.1 C.2.1 (C.2.2.2.2.1 _ hA) rfl C.2.2.2.2.2.1 hP hD hS (fun q h => Nat.le_trans C.2.2.2.2.2.2.2.1 h) (fun cA => by first | exact vp_cell_i | exact vp_cell_l | exact vp_cell_d | rfl) (nI_pos hN) (nI_clamp hN) hb hcc hss hd (fun q cA H1 hK1 hP1 hD1 hS1 => ?_)
  have e1 : s.vm.findClass ("[" ++ (FieldType.toString .char)) = some cA := (hK1.2 5 (cA, .char) rfl).2
  have e2 : s.vm.findClass ("[" ++ (FieldType.toString .char)) = some G.2.2.2.2.1 := (C.2.2.2.2.2.1.2 3 (G.2.2.2.2.1, .char) rfl).2
  have e3 : cA = G.2.2.2.2.1 := Option.some.inj (e1.symm.trans e2)
  subst e3
  exact k q H1 locs ls hl (pP pSnoc hP1) (pD pSnoc hD1) hS1
theorem yy_newaD (C : CX p s m args meth c cc own nL G B0) {N : Nat} (hA : Cond.arrayClass .double ∈ WG) (hd : decode cc pc = .ok (.newarray .double, 2)) (hn : pc + 2 = pc') (hN : N < 2 ^ 31) (hb : N * componentBytes .double ≤ 536870912) (hcc : cs + 1 ≤ R.cells) (hss : ss + N ≤ R.slots) (k : ∀ q : Nat, YY p l e R s m args below meth c G B0 nL Q (pc') (L) (.ref q :: st) ((q, .inl (G.2.2.2.2.2, N, .inr (.inr (.inr (.inl (fun _ => 0)))))) :: w) (cs + 1) (ss + N)) : YY p l e R s m args below meth c G B0 nL Q (pc) (L) (.int (nI N) :: st) (w) (cs) (ss) := by
  subst hn
  intro H locs ls hl hP hD hS
  refine va_newa (atype := .double) (ty := .double) (N' := N) (a0 := (N, .inr (.inr (.inr (.inl (fun _ => 0)))))) C.1 C.2.1 (C.2.2.2.2.1 _ hA) rfl C.2.2.2.2.2.1 hP hD hS (fun q h => Nat.le_trans C.2.2.2.2.2.2.2.1 h) (fun cA => by first | exact vp_cell_i | exact vp_cell_l | exact vp_cell_d | rfl) (nI_pos hN) (nI_clamp hN) hb hcc hss hd (fun q cA H1 hK1 hP1 hD1 hS1 => ?_)
  have e1 : s.vm.findClass ("[" ++ (FieldType.toString .double)) = some cA := (hK1.2 5 (cA, .double) rfl).2
  have e2 : s.vm.findClass ("[" ++ (FieldType.toString .double)) = some G.2.2.2.2.2 := (C.2.2.2.2.2.1.2 4 (G.2.2.2.2.2, .double) rfl).2
  have e3 : cA = G.2.2.2.2.2 := Option.some.inj (e1.symm.trans e2)
  subst e3
  exact k q H1 locs ls hl (pP pSnoc hP1) (pD pSnoc hD1) hS1
theorem lk_len {y : MethodName} {n : Nat} (h : (parseMethodDescriptor y.desc).map (fun d => d.parameters.length) = some n) : ∀ sig, parseMethodDescriptor y.desc = some sig → n = sig.parameters.length := fun sig hs => by
  rw [hs] at h
  exact (Option.some.inj h).symm
theorem cdWG {w : Cond} (cd : w ∈ WG) : GoodIn WG (w :: WG) := mG (fun w' h => (List.mem_cons.mp h).elim (fun e => e ▸ cd) id)
theorem okB (C : CX p s m args meth c cc own nL G B0) {y : MethodName} {bytes : ByteArray} {maxL index n : Nat} {ret : Option FieldType} {rm : Room} (lk : lkP own index y n) (cd : Cond.code y bytes maxL ret ∈ WG) (hR : rm.frames + 1 ≤ R.frames ∧ 8 + (maxL + 11) + rm.locals ≤ R.locals) : CallB R s args own index y bytes maxL ret (Cond.code y bytes maxL ret :: WG) rm rm.cells rm.slots n :=
  ⟨rfl, rfl, hR.1, hR.2, pay_in C.2.2.2.2.1 (cdWG cd), List.mem_cons_self, C.2.2.2.2.1 _ cd, C.2.2.2.2.1 _ lk.2.1, ⟨lk.2.2.1, lk.2.2.2.1⟩, lk_len lk.2.2.2.2, C.2.2.2.2.1 _ lk.1⟩
theorem okN (C : CX p s m args meth c cc own nL G B0) {y : MethodName} {bytes : ByteArray} {maxL index n : Nat} {ret : Option FieldType} {rm : Room} (lk : lkN own index y n) (cd : Cond.code y bytes maxL ret ∈ WG) (hR : rm.frames + 1 ≤ R.frames ∧ 8 + (maxL + 11) + rm.locals ≤ R.locals) : va_CN R s args own index y "Archivepress" bytes maxL ret (Cond.code y bytes maxL ret :: WG) rm rm.cells rm.slots n :=
  ⟨⟨rfl, rfl, hR.1, hR.2, pay_in C.2.2.2.2.1 (cdWG cd), List.mem_cons_self⟩, C.2.2.2.2.1 _ cd, C.2.2.2.2.1 _ lk.2.1, ⟨lk.2.2.1, lk.2.2.2.1⟩, lk_len lk.2.2.2.2, va_Nw.use rfl (C.2.2.2.2.2.2.1.2.2.2.1 _ lk.1)⟩
theorem okSW (C : CX p s m args meth c cc own nL G B0) {y : MethodName} {bytes : ByteArray} {maxL index n : Nat} {ret : Option FieldType} {hh : List (Nat × Nat × Nat × Nat)} {rm : Room} (lk : lkP own index y n) (hst : Cond.static y ∈ WG) (cd : Cond.codeWith y bytes maxL ret hh ∈ WG) (hR : rm.frames + 1 ≤ R.frames ∧ 8 + (maxL + 11) + rm.locals ≤ R.locals) : vx_CSW R s args own index y bytes maxL ret hh (Cond.codeWith y bytes maxL ret hh :: WG) rm rm.cells rm.slots n :=
  ⟨⟨rfl, rfl, hR.1, hR.2, pay_in C.2.2.2.2.1 (cdWG cd), List.mem_cons_self⟩, C.2.2.2.2.1 _ cd, C.2.2.2.2.1 _ lk.2.1, ⟨lk.2.2.1, lk.2.2.2.1⟩, lk_len lk.2.2.2.2, C.2.2.2.2.1 _ lk.1, C.2.2.2.2.1 _ hst⟩
theorem okS (C : CX p s m args meth c cc own nL G B0) {w0 : va_W} {H : Heap} {locs : List Loc} {As : List Value} (hP : va_P G.1 vwCl w0 H) (hD : va_D (fun q => B0 ≤ q) w0) (hS : va_S (fun q => B0 ≤ q) s.heap H locs) : PreS s H (va_Pc As (PR G B0 w0)) As :=
  ⟨PR.blind, fun _ hU hW => ⟨rfl, pr_of C.2.2.2.2.2.2.2.1 C.2.2.2.2.2.1 C.2.2.2.2.2.2.1 hP hD hS hU hW⟩⟩
theorem okV (C : CX p s m args meth c cc own nL G B0) {w0 : va_W} {H : Heap} {locs : List Loc} {As : List Value} {Cn : String} {T : u_T} {N ci b q0 : Nat} {fs : List Value} (he : w0[q0]? = some (b, .inr (ci, fs))) (hcl : vwCl[ci]? = some (Cn, T, N)) (hP : va_P G.1 vwCl w0 H) (hD : va_D (fun q => B0 ≤ q) w0) (hS : va_S (fun q => B0 ≤ q) s.heap H locs) : PreV s H Cn b (va_Pc (.ref b :: As) (PR G B0 w0)) As := by
  refine ⟨PR.blind, ?_, fun _ hU hW => ⟨rfl, pr_of C.2.2.2.2.2.2.2.1 C.2.2.2.2.2.1 C.2.2.2.2.2.2.1 hP hD hS hU hW⟩⟩
  obtain ⟨r, h1, cell, q1, q2, q3, q4⟩ := hP q0 _ he
  obtain ⟨g1, hfc, g3⟩ := C.2.2.2.2.2.1.1 ci _ hcl
  exact ⟨cell, q1, by rw [q3]; rfl, by rw [q2]; exact hfc⟩
theorem yr_V (C : CX p s m args meth c cc own nL G B0) {y : MethodName} {bytes : ByteArray} {maxL index n : Nat} {ret : Option FieldType} {rm : Room} {Qc : Array Value → State → Outcome → State → Prop} {As : List Value} {T : u_T} {N ci b : Nat} {fs : List Value} (lk : lkP own index y n) (cd : Cond.code y bytes maxL ret ∈ WG) (hin : Cond.instanceMethod y ∈ WG) (hse : Cond.selects y.cls y y ∈ WG) (hM : Met l y (Cond.code y bytes maxL ret :: WG) rm (va_Pc (.ref b :: As) (PR G B0 w)) Qc rm.cells rm.slots (fun q => B0 ≤ q)) (hR : rm.frames + 1 ≤ R.frames ∧ 8 + (maxL + 11) + rm.locals ≤ R.locals) (hf : cs + rm.cells ≤ R.cells ∧ ss + rm.slots ≤ R.slots) (q0 : Nat) (he : w[q0]? = some (b, .inr (ci, fs))) (hcl : vwCl[ci]? = some (y.cls, T, N)) (hlen : As.length = n) (hst : st = As.reverse ++ .ref b :: rest) (hcat : (rest.map fun v => v.category).sum ≤ 8) (hd : decode cc pc = .ok (.invokevirtual index, 3)) : ∀ (H : Heap) (locs : List Loc) (ls : Array Slot), lv_has ls nL L → va_P G.1 vwCl w H → va_D (fun q => B0 ≤ q) w → va_S (fun q => B0 ≤ q) s.heap H locs → va_Run p l e R s m args below meth c H locs cs ss rm.cells rm.slots (F0 m pc ls st) rest (Qc (Value.ref b :: As).toArray) (fun q => B0 ≤ q) := by
  intro H locs ls hl hP hD hS
  exact va_runV ⟨C.1, C.2.1, C.2.2.1, C.2.2.2.1, C.2.2.2.2.1⟩ hM ⟨okB C lk cd hR, C.2.2.2.2.1 _ hin, C.2.2.2.2.1 _ hse⟩ (okV C he hcl hP hD hS) rfl hlen hl.1 hst (lv_room hcat) hd hf
theorem yr_S (C : CX p s m args meth c cc own nL G B0) {y : MethodName} {bytes : ByteArray} {maxL index n : Nat} {ret : Option FieldType} {rm : Room} {Qc : Array Value → State → Outcome → State → Prop} {As : List Value} (lk : lkP own index y n) (cd : Cond.code y bytes maxL ret ∈ WG) (hsta : Cond.static y ∈ WG) (hM : Met l y (Cond.code y bytes maxL ret :: WG) rm (va_Pc (As) (PR G B0 w)) Qc rm.cells rm.slots (fun q => B0 ≤ q)) (hR : rm.frames + 1 ≤ R.frames ∧ 8 + (maxL + 11) + rm.locals ≤ R.locals) (hf : cs + rm.cells ≤ R.cells ∧ ss + rm.slots ≤ R.slots) (hlen : As.length = n) (hst : st = As.reverse ++ rest) (hcat : (rest.map fun v => v.category).sum ≤ 8) (hd : decode cc pc = .ok (.invokestatic index, 3)) : ∀ (H : Heap) (locs : List Loc) (ls : Array Slot), lv_has ls nL L → va_P G.1 vwCl w H → va_D (fun q => B0 ≤ q) w → va_S (fun q => B0 ≤ q) s.heap H locs → va_Run p l e R s m args below meth c H locs cs ss rm.cells rm.slots (F0 m pc ls st) rest (Qc As.toArray) (fun q => B0 ≤ q) := by
  intro H locs ls hl hP hD hS
  exact va_runS ⟨C.1, C.2.1, C.2.2.1, C.2.2.2.1, C.2.2.2.2.1⟩ hM ⟨okB C lk cd hR, C.2.2.2.2.1 _ hsta⟩ (okS C hP hD hS) rfl hlen hl.1 hst (lv_room hcat) hd hf
theorem xr_V (C : CX p s m args meth c cc own nL G B0) {y : MethodName} {bytes : ByteArray} {maxL index n : Nat} {ret : Option FieldType} {rm : Room} {Qc : Array Value → State → Outcome → State → Prop} {As : List Value} {XC : String → State → State → Prop} {T : u_T} {N ci b : Nat} {fs : List Value} (lk : lkP own index y n) (cd : Cond.code y bytes maxL ret ∈ WG) (hin : Cond.instanceMethod y ∈ WG) (hse : Cond.selects y.cls y y ∈ WG) (hM : vy_Met l y (Cond.code y bytes maxL ret :: WG) rm (va_Pc (.ref b :: As) (PR G B0 w)) Qc XC rm.cells rm.slots (fun q => B0 ≤ q)) (hR : rm.frames + 1 ≤ R.frames ∧ 8 + (maxL + 11) + rm.locals ≤ R.locals) (hf : cs + rm.cells ≤ R.cells ∧ ss + rm.slots ≤ R.slots) (q0 : Nat) (he : w[q0]? = some (b, .inr (ci, fs))) (hcl : vwCl[ci]? = some (y.cls, T, N)) (hlen : As.length = n) (hst : st = As.reverse ++ .ref b :: rest) (hcat : (rest.map fun v => v.category).sum ≤ 8) (hd : decode cc pc = .ok (.invokevirtual index, 3)) : ∀ (H : Heap) (locs : List Loc) (ls : Array Slot), lv_has ls nL L → va_P G.1 vwCl w H → va_D (fun q => B0 ≤ q) w → va_S (fun q => B0 ≤ q) s.heap H locs → vy_Run p l e R s m args below meth c H locs cs ss rm.cells rm.slots (F0 m pc ls st) rest (Qc (Value.ref b :: As).toArray) XC (fun q => B0 ≤ q) := by
  intro H locs ls hl hP hD hS
  exact vy_runV ⟨C.1, C.2.1, C.2.2.1, C.2.2.2.1, C.2.2.2.2.1⟩ hM ⟨okB C lk cd hR, C.2.2.2.2.1 _ hin, C.2.2.2.2.1 _ hse⟩ (okV C he hcl hP hD hS) rfl hlen hl.1 hst (lv_room hcat) hd hf
theorem xr_S (C : CX p s m args meth c cc own nL G B0) {y : MethodName} {bytes : ByteArray} {maxL index n : Nat} {ret : Option FieldType} {rm : Room} {Qc : Array Value → State → Outcome → State → Prop} {As : List Value} {XC : String → State → State → Prop} (lk : lkP own index y n) (cd : Cond.code y bytes maxL ret ∈ WG) (hsta : Cond.static y ∈ WG) (hM : vy_Met l y (Cond.code y bytes maxL ret :: WG) rm (va_Pc (As) (PR G B0 w)) Qc XC rm.cells rm.slots (fun q => B0 ≤ q)) (hR : rm.frames + 1 ≤ R.frames ∧ 8 + (maxL + 11) + rm.locals ≤ R.locals) (hf : cs + rm.cells ≤ R.cells ∧ ss + rm.slots ≤ R.slots) (hlen : As.length = n) (hst : st = As.reverse ++ rest) (hcat : (rest.map fun v => v.category).sum ≤ 8) (hd : decode cc pc = .ok (.invokestatic index, 3)) : ∀ (H : Heap) (locs : List Loc) (ls : Array Slot), lv_has ls nL L → va_P G.1 vwCl w H → va_D (fun q => B0 ≤ q) w → va_S (fun q => B0 ≤ q) s.heap H locs → vy_Run p l e R s m args below meth c H locs cs ss rm.cells rm.slots (F0 m pc ls st) rest (Qc As.toArray) XC (fun q => B0 ≤ q) := by
  intro H locs ls hl hP hD hS
  exact vy_runS ⟨C.1, C.2.1, C.2.2.1, C.2.2.2.1, C.2.2.2.2.1⟩ hM ⟨okB C lk cd hR, C.2.2.2.2.1 _ hsta⟩ (okS C hP hD hS) rfl hlen hl.1 hst (lv_room hcat) hd hf
theorem yr_SN (C : CX p s m args meth c cc own nL G B0) {y : MethodName} {bytes : ByteArray} {maxL index n : Nat} {ret : Option FieldType} {rm : Room} {Qc : Array Value → State → Outcome → State → Prop} {As : List Value} (lk : lkN own index y n) (cd : Cond.code y bytes maxL ret ∈ WG) (hsta : Cond.static y ∈ WG) (hM : Met l y (Cond.code y bytes maxL ret :: WG) rm (va_Pc (As) (PR G B0 w)) Qc rm.cells rm.slots (fun q => B0 ≤ q)) (hR : rm.frames + 1 ≤ R.frames ∧ 8 + (maxL + 11) + rm.locals ≤ R.locals) (hf : cs + rm.cells ≤ R.cells ∧ ss + rm.slots ≤ R.slots) (hlen : As.length = n) (hst : st = As.reverse ++ rest) (hcat : (rest.map fun v => v.category).sum ≤ 8) (hd : decode cc pc = .ok (.invokestatic index, 3)) : ∀ (H : Heap) (locs : List Loc) (ls : Array Slot), lv_has ls nL L → va_P G.1 vwCl w H → va_D (fun q => B0 ≤ q) w → va_S (fun q => B0 ≤ q) s.heap H locs → va_Run p l e R s m args below meth c H locs cs ss rm.cells rm.slots (F0 m pc ls st) rest (Qc As.toArray) (fun q => B0 ≤ q) := by
  intro H locs ls hl hP hD hS
  exact va_runSN ⟨C.1, C.2.1, C.2.2.1, C.2.2.2.1, C.2.2.2.2.1⟩ hM ⟨okN C lk cd hR, C.2.2.2.2.1 _ hsta, trivial⟩ (okS C hP hD hS) rfl hlen hl.1 hst (lv_room hcat) hd hf
theorem yr_SW (C : CX p s m args meth c cc own nL G B0) {y : MethodName} {bytes : ByteArray} {maxL index n : Nat} {ret : Option FieldType} {rm : Room} {Qc : Array Value → State → Outcome → State → Prop} {As : List Value} {hh : List (Nat × Nat × Nat × Nat)} (lk : lkP own index y n) (cd : Cond.codeWith y bytes maxL ret hh ∈ WG) (hsta : Cond.static y ∈ WG) (hM : Met l y (Cond.codeWith y bytes maxL ret hh :: WG) rm (va_Pc (As) (PR G B0 w)) Qc rm.cells rm.slots (fun q => B0 ≤ q)) (hR : rm.frames + 1 ≤ R.frames ∧ 8 + (maxL + 11) + rm.locals ≤ R.locals) (hf : cs + rm.cells ≤ R.cells ∧ ss + rm.slots ≤ R.slots) (hlen : As.length = n) (hst : st = As.reverse ++ rest) (hcat : (rest.map fun v => v.category).sum ≤ 8) (hd : decode cc pc = .ok (.invokestatic index, 3)) : ∀ (H : Heap) (locs : List Loc) (ls : Array Slot), lv_has ls nL L → va_P G.1 vwCl w H → va_D (fun q => B0 ≤ q) w → va_S (fun q => B0 ≤ q) s.heap H locs → va_Run p l e R s m args below meth c H locs cs ss rm.cells rm.slots (F0 m pc ls st) rest (Qc As.toArray) (fun q => B0 ≤ q) := by
  intro H locs ls hl hP hD hS
  exact vx_runSW ⟨C.1, C.2.1, C.2.2.1, C.2.2.2.1, C.2.2.2.2.1⟩ hM (okSW C lk hsta cd hR) (okS C hP hD hS) rfl hlen hl.1 hst (lv_room hcat) hd hf
theorem yr_I (C : CX p s m args meth c cc own nL G B0) {y : MethodName} {bytes : ByteArray} {maxL index n : Nat} {rm : Room} {Qc : Array Value → State → Outcome → State → Prop} {As : List Value} {b : Nat} (lk : lkP own index y n) (cd : Cond.code y bytes maxL none ∈ WG) (hin : Cond.instanceMethod y ∈ WG) (hy1 : y.name = "<init>") (hM : Met l y (Cond.code y bytes maxL none :: WG) rm (va_Pc (.ref b :: As) (PR G B0 w)) Qc rm.cells rm.slots (fun q => B0 ≤ q)) (hR : rm.frames + 1 ≤ R.frames ∧ 8 + (maxL + 11) + rm.locals ≤ R.locals) (hf : cs + rm.cells ≤ R.cells ∧ ss + rm.slots ≤ R.slots) (hlen : As.length = n) (hst : st = As.reverse ++ .ref b :: rest) (hcat : (rest.map fun v => v.category).sum ≤ 8) (hd : decode cc pc = .ok (.invokespecial index, 3)) : ∀ (H : Heap) (locs : List Loc) (ls : Array Slot), lv_has ls nL L → va_P G.1 vwCl w H → va_D (fun q => B0 ≤ q) w → va_S (fun q => B0 ≤ q) s.heap H locs → va_Run p l e R s m args below meth c H locs cs ss rm.cells rm.slots (F0 m pc ls st) rest (Qc (Value.ref b :: As).toArray) (fun q => B0 ≤ q) := by
  intro H locs ls hl hP hD hS
  exact va_runI ⟨C.1, C.2.1, C.2.2.1, C.2.2.2.1, C.2.2.2.2.1⟩ hM ⟨okB C lk cd hR, hy1, C.2.2.2.2.1 _ hin⟩ (okS C hP hD hS) rfl hlen hl.1 hst (lv_room hcat) hd hf
theorem yr_IN (C : CX p s m args meth c cc own nL G B0) {y : MethodName} {bytes : ByteArray} {maxL index n : Nat} {rm : Room} {Qc : Array Value → State → Outcome → State → Prop} {As : List Value} {b : Nat} (lk : lkN own index y n) (cd : Cond.code y bytes maxL none ∈ WG) (hin : Cond.instanceMethod y ∈ WG) (hy1 : y.name = "<init>") (hM : Met l y (Cond.code y bytes maxL none :: WG) rm (va_Pc (.ref b :: As) (PR G B0 w)) Qc rm.cells rm.slots (fun q => B0 ≤ q)) (hR : rm.frames + 1 ≤ R.frames ∧ 8 + (maxL + 11) + rm.locals ≤ R.locals) (hf : cs + rm.cells ≤ R.cells ∧ ss + rm.slots ≤ R.slots) (hlen : As.length = n) (hst : st = As.reverse ++ .ref b :: rest) (hcat : (rest.map fun v => v.category).sum ≤ 8) (hd : decode cc pc = .ok (.invokespecial index, 3)) : ∀ (H : Heap) (locs : List Loc) (ls : Array Slot), lv_has ls nL L → va_P G.1 vwCl w H → va_D (fun q => B0 ≤ q) w → va_S (fun q => B0 ≤ q) s.heap H locs → va_Run p l e R s m args below meth c H locs cs ss rm.cells rm.slots (F0 m pc ls st) rest (Qc (Value.ref b :: As).toArray) (fun q => B0 ≤ q) := by
  intro H locs ls hl hP hD hS
  exact va_runIN ⟨C.1, C.2.1, C.2.2.1, C.2.2.2.1, C.2.2.2.2.1⟩ hM ⟨okN C lk cd hR, hy1, C.2.2.2.2.1 _ hin⟩ (okS C hP hD hS) rfl hlen hl.1 hst (lv_room hcat) hd hf
theorem yc_i {S : Type} {mc ms : Nat} {a : Array Value} {post : Int32 → S → Prop} {W2 : S → va_W} (hr : ∀ (H : Heap) (locs : List Loc) (ls : Array Slot), lv_has ls nL L → va_P G.1 vwCl w H → va_D (fun q => B0 ≤ q) w → va_S (fun q => B0 ≤ q) s.heap H locs → va_Run p l e R s m args below meth c H locs cs ss mc ms (F0 m pc ls st) rest (va_Qi post (fun (u : S) (t : State) => va_P G.1 vwCl (W2 u) t.heap ∧ va_D (fun q => B0 ≤ q) (W2 u)) (fun q => B0 ≤ q) a) (fun q => B0 ≤ q)) (hn : pc + 3 = pc') (k : ∀ (r : Int32) (u : S), post r u → YY p l e R s m args below meth c G B0 nL Q (pc') (L) (.int r :: rest) (W2 u) (cs + mc) (ss + ms)) : YY p l e R s m args below meth c G B0 nL Q (pc) (L) (st) (w) (cs) (ss) := by
  subst hn
  intro H locs ls hl hP hD hS
  refine va_calli (hr H locs ls hl hP hD hS) hS (fun q _ h => h) (fun q h => h) (fun r u t H1 locs1 ht hvm hw hB hz hk hS1 => ?_)
  rw [ht] at hB
  exact k r u hw H1 locs1 ls hl hB.1 hB.2 hS1
theorem xc_i {S SX : Type} {mc ms : Nat} {a : Array Value} {post : Int32 → S → Prop} {W2 : S → va_W} {pX : String → SX → Prop} {WX : SX → va_W} (hr : ∀ (H : Heap) (locs : List Loc) (ls : Array Slot), lv_has ls nL L → va_P G.1 vwCl w H → va_D (fun q => B0 ≤ q) w → va_S (fun q => B0 ≤ q) s.heap H locs → vy_Run p l e R s m args below meth c H locs cs ss mc ms (F0 m pc ls st) rest (va_Qi post (fun (u : S) (t : State) => va_P G.1 vwCl (W2 u) t.heap ∧ va_D (fun q => B0 ≤ q) (W2 u)) (fun q => B0 ≤ q) a) (vx_X (fun _ : SX => True) (fun (E : String) (u : SX) (t : State) => pX E u ∧ va_P G.1 vwCl (WX u) t.heap ∧ va_D (fun q => B0 ≤ q) (WX u)) (fun q => B0 ≤ q)) (fun q => B0 ≤ q)) (hn : pc + 3 = pc') (kx : ∀ (E : String) (u : SX), pX E u → YX p l e R s m args below meth c G B0 nL Q (pc) (L) (rest) (WX u) (cs + mc) (ss + ms) (E)) (k : ∀ (r : Int32) (u : S), post r u → YY p l e R s m args below meth c G B0 nL Q (pc') (L) (.int r :: rest) (W2 u) (cs) (ss)) : YY p l e R s m args below meth c G B0 nL Q (pc) (L) (st) (w) (cs) (ss) := by
  subst hn
  intro H locs ls hl hP hD hS
  refine vy_calli (hr H locs ls hl hP hD hS) hS (fun q _ h => h) (fun q h => h) (fun q _ h => h) (fun E ce q9 u t H1 locs1 ht hvm _ hB hz hk hS1 h1 h2 h3 => ?_) (fun r u t H1 locs1 ht hvm hw hB hz hk hS1 => ?_)
  · rw [ht] at hB
    exact kx E u hB.1 H1 locs1 ls ce q9 hl hB.2.1 hB.2.2 hS1 h1 h2 h3
  · rw [ht] at hB
    exact k r u hw H1 locs1 ls hl hB.1 hB.2 hS1
theorem yc_l {S : Type} {mc ms : Nat} {a : Array Value} {post : Int64 → S → Prop} {W2 : S → va_W} (hr : ∀ (H : Heap) (locs : List Loc) (ls : Array Slot), lv_has ls nL L → va_P G.1 vwCl w H → va_D (fun q => B0 ≤ q) w → va_S (fun q => B0 ≤ q) s.heap H locs → va_Run p l e R s m args below meth c H locs cs ss mc ms (F0 m pc ls st) rest (va_Ql post (fun (u : S) (t : State) => va_P G.1 vwCl (W2 u) t.heap ∧ va_D (fun q => B0 ≤ q) (W2 u)) (fun q => B0 ≤ q) a) (fun q => B0 ≤ q)) (hn : pc + 3 = pc') (k : ∀ (r : Int64) (u : S), post r u → YY p l e R s m args below meth c G B0 nL Q (pc') (L) (.long r :: rest) (W2 u) (cs + mc) (ss + ms)) : YY p l e R s m args below meth c G B0 nL Q (pc) (L) (st) (w) (cs) (ss) := by
  subst hn
  intro H locs ls hl hP hD hS
  refine va_calll (hr H locs ls hl hP hD hS) hS (fun q _ h => h) (fun q h => h) (fun r u t H1 locs1 ht hvm hw hB hz hk hS1 => ?_)
  rw [ht] at hB
  exact k r u hw H1 locs1 ls hl hB.1 hB.2 hS1
theorem xc_l {S SX : Type} {mc ms : Nat} {a : Array Value} {post : Int64 → S → Prop} {W2 : S → va_W} {pX : String → SX → Prop} {WX : SX → va_W} (hr : ∀ (H : Heap) (locs : List Loc) (ls : Array Slot), lv_has ls nL L → va_P G.1 vwCl w H → va_D (fun q => B0 ≤ q) w → va_S (fun q => B0 ≤ q) s.heap H locs → vy_Run p l e R s m args below meth c H locs cs ss mc ms (F0 m pc ls st) rest (va_Ql post (fun (u : S) (t : State) => va_P G.1 vwCl (W2 u) t.heap ∧ va_D (fun q => B0 ≤ q) (W2 u)) (fun q => B0 ≤ q) a) (vx_X (fun _ : SX => True) (fun (E : String) (u : SX) (t : State) => pX E u ∧ va_P G.1 vwCl (WX u) t.heap ∧ va_D (fun q => B0 ≤ q) (WX u)) (fun q => B0 ≤ q)) (fun q => B0 ≤ q)) (hn : pc + 3 = pc') (kx : ∀ (E : String) (u : SX), pX E u → YX p l e R s m args below meth c G B0 nL Q (pc) (L) (rest) (WX u) (cs + mc) (ss + ms) (E)) (k : ∀ (r : Int64) (u : S), post r u → YY p l e R s m args below meth c G B0 nL Q (pc') (L) (.long r :: rest) (W2 u) (cs) (ss)) : YY p l e R s m args below meth c G B0 nL Q (pc) (L) (st) (w) (cs) (ss) := by
  subst hn
  intro H locs ls hl hP hD hS
  refine vy_calll (hr H locs ls hl hP hD hS) hS (fun q _ h => h) (fun q h => h) (fun q _ h => h) (fun E ce q9 u t H1 locs1 ht hvm _ hB hz hk hS1 h1 h2 h3 => ?_) (fun r u t H1 locs1 ht hvm hw hB hz hk hS1 => ?_)
  · rw [ht] at hB
    exact kx E u hB.1 H1 locs1 ls ce q9 hl hB.2.1 hB.2.2 hS1 h1 h2 h3
  · rw [ht] at hB
    exact k r u hw H1 locs1 ls hl hB.1 hB.2 hS1
theorem yc_f {S : Type} {mc ms : Nat} {a : Array Value} {post : UInt32 → S → Prop} {W2 : S → va_W} (hr : ∀ (H : Heap) (locs : List Loc) (ls : Array Slot), lv_has ls nL L → va_P G.1 vwCl w H → va_D (fun q => B0 ≤ q) w → va_S (fun q => B0 ≤ q) s.heap H locs → va_Run p l e R s m args below meth c H locs cs ss mc ms (F0 m pc ls st) rest (va_Qf post (fun (u : S) (t : State) => va_P G.1 vwCl (W2 u) t.heap ∧ va_D (fun q => B0 ≤ q) (W2 u)) (fun q => B0 ≤ q) a) (fun q => B0 ≤ q)) (hn : pc + 3 = pc') (k : ∀ (r : UInt32) (u : S), post r u → YY p l e R s m args below meth c G B0 nL Q (pc') (L) (.float r :: rest) (W2 u) (cs + mc) (ss + ms)) : YY p l e R s m args below meth c G B0 nL Q (pc) (L) (st) (w) (cs) (ss) := by
  subst hn
  intro H locs ls hl hP hD hS
  refine va_callf (hr H locs ls hl hP hD hS) hS (fun q _ h => h) (fun q h => h) (fun r u t H1 locs1 ht hvm hw hB hz hk hS1 => ?_)
  rw [ht] at hB
  exact k r u hw H1 locs1 ls hl hB.1 hB.2 hS1
theorem xc_f {S SX : Type} {mc ms : Nat} {a : Array Value} {post : UInt32 → S → Prop} {W2 : S → va_W} {pX : String → SX → Prop} {WX : SX → va_W} (hr : ∀ (H : Heap) (locs : List Loc) (ls : Array Slot), lv_has ls nL L → va_P G.1 vwCl w H → va_D (fun q => B0 ≤ q) w → va_S (fun q => B0 ≤ q) s.heap H locs → vy_Run p l e R s m args below meth c H locs cs ss mc ms (F0 m pc ls st) rest (va_Qf post (fun (u : S) (t : State) => va_P G.1 vwCl (W2 u) t.heap ∧ va_D (fun q => B0 ≤ q) (W2 u)) (fun q => B0 ≤ q) a) (vx_X (fun _ : SX => True) (fun (E : String) (u : SX) (t : State) => pX E u ∧ va_P G.1 vwCl (WX u) t.heap ∧ va_D (fun q => B0 ≤ q) (WX u)) (fun q => B0 ≤ q)) (fun q => B0 ≤ q)) (hn : pc + 3 = pc') (kx : ∀ (E : String) (u : SX), pX E u → YX p l e R s m args below meth c G B0 nL Q (pc) (L) (rest) (WX u) (cs + mc) (ss + ms) (E)) (k : ∀ (r : UInt32) (u : S), post r u → YY p l e R s m args below meth c G B0 nL Q (pc') (L) (.float r :: rest) (W2 u) (cs) (ss)) : YY p l e R s m args below meth c G B0 nL Q (pc) (L) (st) (w) (cs) (ss) := by
  subst hn
  intro H locs ls hl hP hD hS
  refine vy_callf (hr H locs ls hl hP hD hS) hS (fun q _ h => h) (fun q h => h) (fun q _ h => h) (fun E ce q9 u t H1 locs1 ht hvm _ hB hz hk hS1 h1 h2 h3 => ?_) (fun r u t H1 locs1 ht hvm hw hB hz hk hS1 => ?_)
  · rw [ht] at hB
    exact kx E u hB.1 H1 locs1 ls ce q9 hl hB.2.1 hB.2.2 hS1 h1 h2 h3
  · rw [ht] at hB
    exact k r u hw H1 locs1 ls hl hB.1 hB.2 hS1
theorem yc_v {S : Type} {mc ms : Nat} {a : Array Value} {post : S → Prop} {W2 : S → va_W} (hr : ∀ (H : Heap) (locs : List Loc) (ls : Array Slot), lv_has ls nL L → va_P G.1 vwCl w H → va_D (fun q => B0 ≤ q) w → va_S (fun q => B0 ≤ q) s.heap H locs → va_Run p l e R s m args below meth c H locs cs ss mc ms (F0 m pc ls st) rest (va_Qv post (fun (u : S) (t : State) => va_P G.1 vwCl (W2 u) t.heap ∧ va_D (fun q => B0 ≤ q) (W2 u)) (fun q => B0 ≤ q) a) (fun q => B0 ≤ q)) (hn : pc + 3 = pc') (k : ∀ (u : S), post u → YY p l e R s m args below meth c G B0 nL Q (pc') (L) (rest) (W2 u) (cs + mc) (ss + ms)) : YY p l e R s m args below meth c G B0 nL Q (pc) (L) (st) (w) (cs) (ss) := by
  subst hn
  intro H locs ls hl hP hD hS
  refine va_callv (hr H locs ls hl hP hD hS) hS (fun q _ h => h) (fun q h => h) (fun u t H1 locs1 ht hvm hw hB hz hk hS1 => ?_)
  rw [ht] at hB
  exact k u hw H1 locs1 ls hl hB.1 hB.2 hS1
theorem xc_v {S SX : Type} {mc ms : Nat} {a : Array Value} {post : S → Prop} {W2 : S → va_W} {pX : String → SX → Prop} {WX : SX → va_W} (hr : ∀ (H : Heap) (locs : List Loc) (ls : Array Slot), lv_has ls nL L → va_P G.1 vwCl w H → va_D (fun q => B0 ≤ q) w → va_S (fun q => B0 ≤ q) s.heap H locs → vy_Run p l e R s m args below meth c H locs cs ss mc ms (F0 m pc ls st) rest (va_Qv post (fun (u : S) (t : State) => va_P G.1 vwCl (W2 u) t.heap ∧ va_D (fun q => B0 ≤ q) (W2 u)) (fun q => B0 ≤ q) a) (vx_X (fun _ : SX => True) (fun (E : String) (u : SX) (t : State) => pX E u ∧ va_P G.1 vwCl (WX u) t.heap ∧ va_D (fun q => B0 ≤ q) (WX u)) (fun q => B0 ≤ q)) (fun q => B0 ≤ q)) (hn : pc + 3 = pc') (kx : ∀ (E : String) (u : SX), pX E u → YX p l e R s m args below meth c G B0 nL Q (pc) (L) (rest) (WX u) (cs + mc) (ss + ms) (E)) (k : ∀ (u : S), post u → YY p l e R s m args below meth c G B0 nL Q (pc') (L) (rest) (W2 u) (cs) (ss)) : YY p l e R s m args below meth c G B0 nL Q (pc) (L) (st) (w) (cs) (ss) := by
  subst hn
  intro H locs ls hl hP hD hS
  refine vy_callv (hr H locs ls hl hP hD hS) hS (fun q _ h => h) (fun q h => h) (fun q _ h => h) (fun E ce q9 u t H1 locs1 ht hvm _ hB hz hk hS1 h1 h2 h3 => ?_) (fun u t H1 locs1 ht hvm hw hB hz hk hS1 => ?_)
  · rw [ht] at hB
    exact kx E u hB.1 H1 locs1 ls ce q9 hl hB.2.1 hB.2.2 hS1 h1 h2 h3
  · rw [ht] at hB
    exact k u hw H1 locs1 ls hl hB.1 hB.2 hS1
theorem ye_i (C : CX p s m args meth c cc own nL G B0) {S : Type} {post : Int32 → S → Prop} {v : Int32} {W2 : S → va_W} {mc ms : Nat} {rty : FieldType} (hr : meth.sig.returnType = some rty) (hnr : narrow rty (.int v) = .int v) (u : S) (hd : decode cc pc = .ok (.ireturn, 1)) (hw : W2 u = w) (hc : cs ≤ mc) (hs : ss ≤ ms) (hp : post v u) : YY p l e R s m args below meth c G B0 nL (MQ below (va_Qi post (fun (u : S) (t : State) => va_P G.1 vwCl (W2 u) t.heap ∧ va_D (fun q => B0 ≤ q) (W2 u)) (fun q => B0 ≤ q)) args s mc ms (fun q => B0 ≤ q)) (pc) (L) (.int v :: []) (w) (cs) (ss) := by
  subst hw
  intro H locs ls hl hP hD hS
  have hlocks := C.2.2.2.2.2.2.2.2
  refine W.widen hc hs ?_
  skip
  exact W.zret C.1 C.2.1 hr hnr (fun t ht hW => ⟨⟨v, u, rfl, hp, by subst ht; exact ⟨hP, hD⟩⟩, hS.F ht⟩) hS.2.2 hd
theorem xe_i (C : CX p s m args meth c cc own nL G B0) {S : Type} {post : Int32 → S → Prop} {v : Int32} {W2 : S → va_W} {mc ms : Nat} {XC : String → State → State → Prop} {rty : FieldType} (hr : meth.sig.returnType = some rty) (hnr : narrow rty (.int v) = .int v) (u : S) (hd : decode cc pc = .ok (.ireturn, 1)) (hw : W2 u = w) (hc : cs ≤ 0) (hs : ss ≤ 0) (hp : post v u) : YY p l e R s m args below meth c G B0 nL (vy_MQ below (va_Qi post (fun (u : S) (t : State) => va_P G.1 vwCl (W2 u) t.heap ∧ va_D (fun q => B0 ≤ q) (W2 u)) (fun q => B0 ≤ q)) XC args s mc ms (fun q => B0 ≤ q)) (pc) (L) (.int v :: []) (w) (cs) (ss) := by
  subst hw
  intro H locs ls hl hP hD hS
  have hlocks := C.2.2.2.2.2.2.2.2
  refine W.widen hc hs ?_
  refine vy_ret ?_
  exact W.zret C.1 C.2.1 hr hnr (fun t ht hW => ⟨⟨v, u, rfl, hp, by subst ht; exact ⟨hP, hD⟩⟩, hS.F ht⟩) hS.2.2 hd
theorem ye_l (C : CX p s m args meth c cc own nL G B0) {S : Type} {post : Int64 → S → Prop} {v : Int64} {W2 : S → va_W} {mc ms : Nat} (hr : meth.sig.returnType = some .long) (u : S) (hd : decode cc pc = .ok (.lreturn, 1)) (hw : W2 u = w) (hc : cs ≤ mc) (hs : ss ≤ ms) (hp : post v u) : YY p l e R s m args below meth c G B0 nL (MQ below (va_Ql post (fun (u : S) (t : State) => va_P G.1 vwCl (W2 u) t.heap ∧ va_D (fun q => B0 ≤ q) (W2 u)) (fun q => B0 ≤ q)) args s mc ms (fun q => B0 ≤ q)) (pc) (L) (.long v :: []) (w) (cs) (ss) := by
  subst hw
  intro H locs ls hl hP hD hS
  have hlocks := C.2.2.2.2.2.2.2.2
  refine W.widen hc hs ?_
  skip
  exact W.lret C.1 C.2.1 hr (fun t ht hW => ⟨⟨v, u, rfl, hp, by subst ht; exact ⟨hP, hD⟩⟩, hS.F ht⟩) hS.2.2 hd
theorem xe_l (C : CX p s m args meth c cc own nL G B0) {S : Type} {post : Int64 → S → Prop} {v : Int64} {W2 : S → va_W} {mc ms : Nat} {XC : String → State → State → Prop} (hr : meth.sig.returnType = some .long) (u : S) (hd : decode cc pc = .ok (.lreturn, 1)) (hw : W2 u = w) (hc : cs ≤ 0) (hs : ss ≤ 0) (hp : post v u) : YY p l e R s m args below meth c G B0 nL (vy_MQ below (va_Ql post (fun (u : S) (t : State) => va_P G.1 vwCl (W2 u) t.heap ∧ va_D (fun q => B0 ≤ q) (W2 u)) (fun q => B0 ≤ q)) XC args s mc ms (fun q => B0 ≤ q)) (pc) (L) (.long v :: []) (w) (cs) (ss) := by
  subst hw
  intro H locs ls hl hP hD hS
  have hlocks := C.2.2.2.2.2.2.2.2
  refine W.widen hc hs ?_
  refine vy_ret ?_
  exact W.lret C.1 C.2.1 hr (fun t ht hW => ⟨⟨v, u, rfl, hp, by subst ht; exact ⟨hP, hD⟩⟩, hS.F ht⟩) hS.2.2 hd
theorem ye_f (C : CX p s m args meth c cc own nL G B0) {S : Type} {post : UInt32 → S → Prop} {v : UInt32} {W2 : S → va_W} {mc ms : Nat} (hr : meth.sig.returnType = some .float) (u : S) (hd : decode cc pc = .ok (.freturn, 1)) (hw : W2 u = w) (hc : cs ≤ mc) (hs : ss ≤ ms) (hp : post v u) : YY p l e R s m args below meth c G B0 nL (MQ below (va_Qf post (fun (u : S) (t : State) => va_P G.1 vwCl (W2 u) t.heap ∧ va_D (fun q => B0 ≤ q) (W2 u)) (fun q => B0 ≤ q)) args s mc ms (fun q => B0 ≤ q)) (pc) (L) (.float v :: []) (w) (cs) (ss) := by
  subst hw
  intro H locs ls hl hP hD hS
  have hlocks := C.2.2.2.2.2.2.2.2
  refine W.widen hc hs ?_
  skip
  exact W.fret C.1 C.2.1 hr (fun t ht hW => ⟨⟨v, u, rfl, hp, by subst ht; exact ⟨hP, hD⟩⟩, hS.F ht⟩) hS.2.2 hd
theorem xe_f (C : CX p s m args meth c cc own nL G B0) {S : Type} {post : UInt32 → S → Prop} {v : UInt32} {W2 : S → va_W} {mc ms : Nat} {XC : String → State → State → Prop} (hr : meth.sig.returnType = some .float) (u : S) (hd : decode cc pc = .ok (.freturn, 1)) (hw : W2 u = w) (hc : cs ≤ 0) (hs : ss ≤ 0) (hp : post v u) : YY p l e R s m args below meth c G B0 nL (vy_MQ below (va_Qf post (fun (u : S) (t : State) => va_P G.1 vwCl (W2 u) t.heap ∧ va_D (fun q => B0 ≤ q) (W2 u)) (fun q => B0 ≤ q)) XC args s mc ms (fun q => B0 ≤ q)) (pc) (L) (.float v :: []) (w) (cs) (ss) := by
  subst hw
  intro H locs ls hl hP hD hS
  have hlocks := C.2.2.2.2.2.2.2.2
  refine W.widen hc hs ?_
  refine vy_ret ?_
  exact W.fret C.1 C.2.1 hr (fun t ht hW => ⟨⟨v, u, rfl, hp, by subst ht; exact ⟨hP, hD⟩⟩, hS.F ht⟩) hS.2.2 hd
theorem ye_v (C : CX p s m args meth c cc own nL G B0) {S : Type} {post : S → Prop} {W2 : S → va_W} {mc ms : Nat} (hr : meth.sig.returnType = none) (u : S) (hd : decode cc pc = .ok (.return_, 1)) (hw : W2 u = w) (hc : cs ≤ mc) (hs : ss ≤ ms) (hp : post u) : YY p l e R s m args below meth c G B0 nL (MQ below (va_Qv post (fun (u : S) (t : State) => va_P G.1 vwCl (W2 u) t.heap ∧ va_D (fun q => B0 ≤ q) (W2 u)) (fun q => B0 ≤ q)) args s mc ms (fun q => B0 ≤ q)) (pc) (L) ([]) (w) (cs) (ss) := by
  subst hw
  intro H locs ls hl hP hD hS
  have hlocks := C.2.2.2.2.2.2.2.2
  refine W.widen hc hs ?_
  skip
  exact W.vret C.1 C.2.1 hr (fun t ht hW => ⟨⟨u, rfl, hp, by subst ht; exact ⟨hP, hD⟩⟩, hS.F ht⟩) hS.2.2 hd
theorem xe_v (C : CX p s m args meth c cc own nL G B0) {S : Type} {post : S → Prop} {W2 : S → va_W} {mc ms : Nat} {XC : String → State → State → Prop} (hr : meth.sig.returnType = none) (u : S) (hd : decode cc pc = .ok (.return_, 1)) (hw : W2 u = w) (hc : cs ≤ 0) (hs : ss ≤ 0) (hp : post u) : YY p l e R s m args below meth c G B0 nL (vy_MQ below (va_Qv post (fun (u : S) (t : State) => va_P G.1 vwCl (W2 u) t.heap ∧ va_D (fun q => B0 ≤ q) (W2 u)) (fun q => B0 ≤ q)) XC args s mc ms (fun q => B0 ≤ q)) (pc) (L) ([]) (w) (cs) (ss) := by
  subst hw
  intro H locs ls hl hP hD hS
  have hlocks := C.2.2.2.2.2.2.2.2
  refine W.widen hc hs ?_
  refine vy_ret ?_
  exact W.vret C.1 C.2.1 hr (fun t ht hW => ⟨⟨u, rfl, hp, by subst ht; exact ⟨hP, hD⟩⟩, hS.F ht⟩) hS.2.2 hd
/-- an exception that a callee has thrown goes on to the caller -/
theorem xe_out (C : CX p s m args meth c cc own nL G B0) {SX : Type} {pX : String → SX → Prop} {WX : SX → va_W} {mc ms : Nat} {Qc : Array Value → State → Outcome → State → Prop} {E : String} (hno : ∀ x ∈ c.exceptionTable.toList, False) (u : SX) (hw : WX u = w) (hp : pX E u) (hc : cs ≤ mc) (hs : ss ≤ ms) : YX p l e R s m args below meth c G B0 nL (vy_MQ below Qc (vx_X (fun _ : SX => True) (fun (E : String) (u : SX) (t : State) => pX E u ∧ va_P G.1 vwCl (WX u) t.heap ∧ va_D (fun q => B0 ≤ q) (WX u)) (fun q => B0 ≤ q)) args s mc ms (fun q => B0 ≤ q)) (pc) (L) (st) (w) (cs) (ss) (E) := by
  subst hw
  intro H locs ls ce q hl hP hD hS h1 h2 h3
  exact vy_out (fun x hx => (hno x hx).elim) C.2.2.2.2.2.2.2.2 h1 h2 h3 (fun t ht hW => ⟨u, trivial, ⟨hp, by subst ht; exact hP, hD⟩, hS.F ht⟩) hS.2.2 hc hs
theorem xe_throwS (C : CX p s m args meth c cc own nL G B0) {SX : Type} {pX : String → SX → Prop} {WX : SX → va_W} {mc ms ik is ic : Nat} {text cls : String} {Qc : Array Value → State → Outcome → State → Prop} (hl0 : l.stackTraces = false) (T : thP own ik ic cls) (hno : ∀ x ∈ c.exceptionTable.toList, False) (hstr : (own, is, text) ∈ eStr) (d0 : decode cc pc = .ok (.new ik, 3)) (d3 : decode cc (pc + 3) = .ok (.dup, 1)) (d4 : decode cc (pc + 4) = .ok (.ldc is, 2)) (d6 : decode cc (pc + 6) = .ok (.invokespecial ic, 3)) (d9 : decode cc (pc + 9) = .ok (.athrow, 1)) (u : SX) (hw : WX u = w) (hp : pX cls u) (hf : 6 ≤ R.frames) (hlo : (st.map fun v => v.category).sum + 82 ≤ R.locals) (hcc : cs + 1 ≤ R.cells) (hss : ss + 6 ≤ R.slots) (hc : cs + 1 ≤ mc) (hs : ss + 6 ≤ ms) : YY p l e R s m args below meth c G B0 nL (vy_MQ below Qc (vx_X (fun _ : SX => True) (fun (E : String) (u : SX) (t : State) => pX E u ∧ va_P G.1 vwCl (WX u) t.heap ∧ va_D (fun q => B0 ≤ q) (WX u)) (fun q => B0 ≤ q)) args s mc ms (fun q => B0 ≤ q)) (pc) (L) (st) (w) (cs) (ss) := by
  subst hw
  intro H locs ls hl hP hD hS
  obtain ⟨a, ha⟩ := C.2.2.2.2.2.2.1.2.2.1 _ hstr
  refine vy_throwS (names := ["java/lang/RuntimeException", "java/lang/Exception"]) (A := fun q => B0 ≤ q) C.1 C.2.1 hl0 C.2.2.2.1 T.2.2.2.2.2.2 (by decide +kernel) (C.2.2.2.2.1 _ T.1) (C.2.2.2.2.1 _ T.2.1) ha (vx_hat (fun w hw => C.2.2.2.2.1 _ (T.2.2.1 w hw)) (B := Cond.castable cls cls :: eDecl.map Cond.declares) (fun w hw => T.2.2.2.1 w hw) (vx_c (va_Nw.use rfl (C.2.2.2.2.2.2.1.2.2.2.2.1 _ T.2.2.2.2.1)) (fun w hw => by obtain ⟨y, hy, rfl⟩ := List.mem_map.mp hw; exact va_Nw.use rfl (C.2.2.2.2.2.2.1.2.2.2.2.2.2 _ hy)))) T.2.2.2.2.2.1 C.2.2.2.2.2.2.1.1 C.2.2.2.2.2.2.1.2.1 hS (hl.1.trans C.2.2.1.symm) d0 d3 d4 d6 d9 (fun x hx => (hno x hx).elim) hf hlo hcc hss C.2.2.2.2.2.2.2.2 (fun t hW hz hk => ?_) hS.2.2 hc hs
  refine ⟨u, trivial, ⟨hp, hP.kept (fun k q hq => hk q.1 (hP k q hq).lt), hD⟩, Nat.le_trans hS.1 hz, fun q h1 h2 => ?_⟩
  rw [hk q (Nat.lt_of_lt_of_le h1 hS.1)]
  exact hS.2.1 q h1 h2
theorem xe_throwSW (C : CX p s m args meth c cc own nL G B0) {SX : Type} {pX : String → SX → Prop} {WX : SX → va_W} {mc ms ik is ic : Nat} {text cls : String} {Qc : Array Value → State → Outcome → State → Prop} (hl0 : l.stackTraces = false) (T : thP own ik ic cls) (hno : ∀ x ∈ c.exceptionTable.toList, False) (hstr : (own, is, text) ∈ eStr) (d0 : decode cc pc = .ok (.new ik, 3)) (d3 : decode cc (pc + 3) = .ok (.dup, 1)) (d4 : decode cc (pc + 4) = .ok (.ldc_w is, 3)) (d6 : decode cc (pc + 7) = .ok (.invokespecial ic, 3)) (d9 : decode cc (pc + 10) = .ok (.athrow, 1)) (u : SX) (hw : WX u = w) (hp : pX cls u) (hf : 6 ≤ R.frames) (hlo : (st.map fun v => v.category).sum + 82 ≤ R.locals) (hcc : cs + 1 ≤ R.cells) (hss : ss + 6 ≤ R.slots) (hc : cs + 1 ≤ mc) (hs : ss + 6 ≤ ms) : YY p l e R s m args below meth c G B0 nL (vy_MQ below Qc (vx_X (fun _ : SX => True) (fun (E : String) (u : SX) (t : State) => pX E u ∧ va_P G.1 vwCl (WX u) t.heap ∧ va_D (fun q => B0 ≤ q) (WX u)) (fun q => B0 ≤ q)) args s mc ms (fun q => B0 ≤ q)) (pc) (L) (st) (w) (cs) (ss) := by
  subst hw
  intro H locs ls hl hP hD hS
  obtain ⟨a, ha⟩ := C.2.2.2.2.2.2.1.2.2.1 _ hstr
  refine vy_throwSW (names := ["java/lang/RuntimeException", "java/lang/Exception"]) (A := fun q => B0 ≤ q) C.1 C.2.1 hl0 C.2.2.2.1 T.2.2.2.2.2.2 (by decide +kernel) (C.2.2.2.2.1 _ T.1) (C.2.2.2.2.1 _ T.2.1) ha (vx_hat (fun w hw => C.2.2.2.2.1 _ (T.2.2.1 w hw)) (B := Cond.castable cls cls :: eDecl.map Cond.declares) (fun w hw => T.2.2.2.1 w hw) (vx_c (va_Nw.use rfl (C.2.2.2.2.2.2.1.2.2.2.2.1 _ T.2.2.2.2.1)) (fun w hw => by obtain ⟨y, hy, rfl⟩ := List.mem_map.mp hw; exact va_Nw.use rfl (C.2.2.2.2.2.2.1.2.2.2.2.2.2 _ hy)))) T.2.2.2.2.2.1 C.2.2.2.2.2.2.1.1 C.2.2.2.2.2.2.1.2.1 hS (hl.1.trans C.2.2.1.symm) d0 d3 d4 d6 d9 (fun x hx => (hno x hx).elim) hf hlo hcc hss C.2.2.2.2.2.2.2.2 (fun t hW hz hk => ?_) hS.2.2 hc hs
  refine ⟨u, trivial, ⟨hp, hP.kept (fun k q hq => hk q.1 (hP k q hq).lt), hD⟩, Nat.le_trans hS.1 hz, fun q h1 h2 => ?_⟩
  rw [hk q (Nat.lt_of_lt_of_le h1 hS.1)]
  exact hS.2.1 q h1 h2
/-- caught here -/
theorem xe_catch (C : CX p s m args meth c cc own nL G B0) {name E : String} (pre : List ExceptionTableEntry) (x : ExceptionTableEntry) (suf : List ExceptionTableEntry) (hsp : c.exceptionTable.toList = pre ++ x :: suf) (hpass : ∀ z ∈ pre, covers z pc = false ∨ (z.catchType ≠ 0 ∧ ∃ nm : String, Cond.classLink own z.catchType nm ∈ WG ∧ (E, nm) ∈ eNc)) (hx : covers x pc = true) (h0 : x.catchType ≠ 0) (hlink : Cond.classLink own x.catchType name ∈ WG) (hcast : (E, name) ∈ eCast) (hpc : x.handlerPc = pc') (k : ∀ q : Nat, YY p l e R s m args below meth c G B0 nL Q (pc') (L) (.ref q :: []) (w) (cs) (ss)) : YX p l e R s m args below meth c G B0 nL Q (pc) (L) (st) (w) (cs) (ss) (E) := by
  subst hpc
  intro H locs ls ce q hl hP hD hS h1 h2 h3
  refine vx_catch C.2.2.2.1 pre x suf hsp (fun z hz => ?_) hx h0 (C.2.2.2.2.1 _ hlink) (va_Nw.use rfl (C.2.2.2.2.2.2.1.2.2.2.2.1 _ hcast)) h1 h2 h3 (k q H locs ls hl hP hD hS)
  rcases hpass z hz with h | ⟨h4, nm, h5, h6⟩
  · exact Or.inl h
  · exact Or.inr ⟨h4, nm, C.2.2.2.2.1 _ h5, C.2.2.2.2.2.2.1.2.2.2.2.2.1 _ h6⟩
theorem yy_objInit (C : CX p s m args meth c cc own nL G B0) {q : Nat} {idx : Nat} (h1 : Cond.methodLink own idx Lib.objectInit ∈ WG) (h2 : Cond.instanceMethod Lib.objectInit ∈ WG) (h3 : Cond.code Lib.objectInit ⟨#[0xb1]⟩ 1 none ∈ WG) (hd : decode cc pc = .ok (.invokespecial idx, 3)) (hn : pc + 3 = pc') (hf : 1 ≤ R.frames) (hlo : (st.map fun v => v.category).sum + 12 ≤ R.locals) (k : YY p l e R s m args below meth c G B0 nL Q (pc') (L) (st) (w) (cs) (ss)) : YY p l e R s m args below meth c G B0 nL Q (pc) (L) (.ref q :: st) (w) (cs) (ss) := by
  subst hn
  intro H locs ls hl hP hD hS
  refine W.objInit C.1 C.2.1 C.2.2.2.1 (C.2.2.2.2.1 _ h1) (C.2.2.2.2.1 _ h2) (C.2.2.2.2.1 _ h3) rfl (hl.1.trans C.2.2.1.symm) rfl hd hf (by show 2 * 0 + _ + 12 ≤ _; omega) ?_
  exact W.eq (g2 := F0 m (pc + 3) ls st) rfl (k H locs ls hl hP hD hS)
end YM
theorem met_of {l : Launch} {y : MethodName} {cc : ByteArray} {maxL : Nat} {ret : Option FieldType} {rm : Room} {av : List Value} {G : gG} {B0 : Nat} {w : va_W} {Qc : Array Value → State → Outcome → State → Prop} (own : String) (L : List (Nat × Value)) (hown : y.cls = own) (hy : plainName y.cls = true) (hLl : (lg_sl av).length ≤ maxL) (hL : lv_args 0 av = L)
    (body : ∀ (p : Program) (e : Env) (s : State) (m : MethodId) (args : Array Value) (below : List Frame) (meth : Method) (c : Code), CX p s m args meth c cc own maxL G B0 → meth.sig.returnType = ret → meth.name = y.name → YY p l e rm s m args below meth c G B0 maxL (MQ below Qc args s rm.cells rm.slots (fun q => B0 ≤ q)) 0 L [] w 0 0) : Met l y (Cond.code y cc maxL ret :: WG) rm (va_Pc av (PR G B0 w)) Qc rm.cells rm.slots (fun q => B0 ≤ q) := by
  refine Met.ofW (cc := cc) (maxL := maxL) (ret := ret) hy rfl ?_
  intro p e s m args below meth c s₁ B hml hv
  obtain ⟨rfl, h1, h2, h3, h4, h5⟩ := hv
  have hts := atoms_spec (ws := Cond.code y cc maxL ret :: WG) B.pre
  have hl := lv_entry av (n := maxL) hLl
  rw [lg_entry_eq]
  subst hown; subst hL
  exact body p e s m _ below meth c ⟨B.exec, B.bytes, hml, findClass_of_methodNamed B.named, fun w hw => hts w (List.mem_cons_of_mem _ hw), h3, h5, h1, B.notSynchronized⟩ B.returns (name_of_methodNamed B.named B.method).1  s.heap [] _ hl h2 h4 va_S.rf
theorem xmet_of {l : Launch} {y : MethodName} {cc : ByteArray} {maxL : Nat} {ret : Option FieldType} {rm : Room} {av : List Value} {G : gG} {B0 : Nat} {w : va_W} {Qc : Array Value → State → Outcome → State → Prop} {XC : String → State → State → Prop} (own : String) (L : List (Nat × Value)) (hown : y.cls = own) (hy : plainName y.cls = true) (hLl : (lg_sl av).length ≤ maxL) (hL : lv_args 0 av = L)
    (body : ∀ (p : Program) (e : Env) (s : State) (m : MethodId) (args : Array Value) (below : List Frame) (meth : Method) (c : Code), CX p s m args meth c cc own maxL G B0 → meth.sig.returnType = ret → meth.name = y.name → (∀ x ∈ c.exceptionTable.toList, False) → YY p l e rm s m args below meth c G B0 maxL (vy_MQ below Qc XC args s rm.cells rm.slots (fun q => B0 ≤ q)) 0 L [] w 0 0) : vy_Met l y (Cond.code y cc maxL ret :: WG) rm (va_Pc av (PR G B0 w)) Qc XC rm.cells rm.slots (fun q => B0 ≤ q) := by
  refine vy_ofW (cc := cc) (maxL := maxL) (ret := ret) hy rfl ?_
  intro p e s m args below meth c s₁ B hml ht hv
  obtain ⟨rfl, h1, h2, h3, h4, h5⟩ := hv
  have hts := atoms_spec (ws := Cond.code y cc maxL ret :: WG) B.pre
  have hl := lv_entry av (n := maxL) hLl
  rw [lg_entry_eq]
  subst hown; subst hL
  exact body p e s m _ below meth c ⟨B.exec, B.bytes, hml, findClass_of_methodNamed B.named, fun w hw => hts w (List.mem_cons_of_mem _ hw), h3, h5, h1, B.notSynchronized⟩ B.returns (name_of_methodNamed B.named B.method).1 ht s.heap [] _ hl h2 h4 va_S.rf
theorem metW_of {l : Launch} {y : MethodName} {cc : ByteArray} {maxL : Nat} {ret : Option FieldType} {hh : List (Nat × Nat × Nat × Nat)} {rm : Room} {av : List Value} {G : gG} {B0 : Nat} {w : va_W} {Qc : Array Value → State → Outcome → State → Prop} (own : String) (L : List (Nat × Value)) (hown : y.cls = own) (hy : plainName y.cls = true) (hLl : (lg_sl av).length ≤ maxL) (hL : lv_args 0 av = L)
    (body : ∀ (p : Program) (e : Env) (s : State) (m : MethodId) (args : Array Value) (below : List Frame) (meth : Method) (c : Code), CX p s m args meth c cc own maxL G B0 → meth.sig.returnType = ret → meth.name = y.name → c.exceptionTable.toList = tableOf hh → YY p l e rm s m args below meth c G B0 maxL (MQ below Qc args s rm.cells rm.slots (fun q => B0 ≤ q)) 0 L [] w 0 0) : Met l y (Cond.codeWith y cc maxL ret hh :: WG) rm (va_Pc av (PR G B0 w)) Qc rm.cells rm.slots (fun q => B0 ≤ q) := by
  refine va_MetW (cc := cc) (maxL := maxL) (ret := ret) (hh := hh) hy rfl ?_
  intro p e s m args below meth c s₁ B hml hv
  obtain ⟨rfl, h1, h2, h3, h4, h5⟩ := hv
  have hts := atoms_spec (ws := Cond.codeWith y cc maxL ret hh :: WG) B.pre
  have hl := lv_entry av (n := maxL) hLl
  rw [lg_entry_eq]
  subst hown; subst hL
  exact body p e s m _ below meth c ⟨B.exec, B.bytes, hml, findClass_of_methodNamed B.named, fun w hw => hts w (List.mem_cons_of_mem _ hw), h3, h5, h1, B.notSynchronized⟩ B.returns (name_of_methodNamed B.named B.method).1 (vx_table (x := y) B (atoms_spec (ws := Cond.codeWith y cc maxL ret hh :: WG) B.pre _ List.mem_cons_self)) s.heap [] _ hl h2 h4 va_S.rf
end
section
/-! plain facts to paste, each family by itself; over the kit's nI, lN and upd -/
/-! ===== drawers: more things than places ===== -/
theorem fb_holes : ∀ (m n : Nat) (f : Nat → Nat), (∀ i, i < n → f i < m) → (∀ i j, i < j → j < n → f i ≠ f j) → n ≤ m := by
  intro m
  induction m with
  | zero =>
    intro n f h1 _
    rcases Nat.eq_zero_or_pos n with h | h
    · omega
    · exact absurd (h1 0 h) (Nat.not_lt_zero _)
  | succ m ih =>
    intro n f h1 h2
    by_cases hx : ∃ i, i < n ∧ f i = m
    · obtain ⟨a, ha, hfa⟩ := hx
      have hg := ih (n - 1) (fun i => if i < a then f i else f (i + 1)) (by
        intro i hi
        by_cases q : i < a
        · simp only [if_pos q]
          have b1 := h1 i (by omega)
          have b2 := h2 i a q ha
          omega
        · simp only [if_neg q]
          have b1 := h1 (i + 1) (by omega)
          have b2 := h2 a (i + 1) (by omega) (by omega)
          omega) (by
        intro i j hij hj
        by_cases q : i < a
        · by_cases r : j < a
          · simp only [if_pos q, if_pos r]
            exact h2 i j hij (by omega)
          · simp only [if_pos q, if_neg r]
            exact h2 i (j + 1) (by omega) (by omega)
        · have r : ¬ j < a := by omega
          simp only [if_neg q, if_neg r]
          exact h2 (i + 1) (j + 1) (by omega) (by omega))
      omega
    · have hg := ih n f (fun i hi => by
        have b1 := h1 i hi
        have b2 : f i ≠ m := fun e => hx ⟨i, hi, e⟩
        omega) h2
      omega
/-- two of them in one place -/
theorem fb_twice {m n : Nat} {f : Nat → Nat} (h : ∀ i, i < n → f i < m) (hm : m < n) : ∃ i j, i < j ∧ j < n ∧ f i = f j := by
  refine Classical.byContradiction fun hx => ?_
  have := fb_holes m n f h (fun i j hij hj e => hx ⟨i, j, hij, hj, e⟩)
  omega
/-- as many as places, none twice: each place is taken -/
theorem fb_onto {n : Nat} {f : Nat → Nat} (h : ∀ i, i < n → f i < n) (h2 : ∀ i j, i < j → j < n → f i ≠ f j) {y : Nat} (hy : y < n) : ∃ i, i < n ∧ f i = y := by
  refine Classical.byContradiction fun hx => ?_
  have hne : ∀ i, i < n → f i ≠ y := fun i hi e => hx ⟨i, hi, e⟩
  have := fb_holes (n - 1) n (fun i => if f i < y then f i else f i - 1) (by
    intro i hi
    have b1 := h i hi
    have b2 := hne i hi
    by_cases q : f i < y
    · simp only [if_pos q]; omega
    · simp only [if_neg q]; omega) (by
    intro i j hij hj
    have b1 := hne i (by omega)
    have b2 := hne j hj
    have b3 := h2 i j hij hj
    by_cases q : f i < y
    · by_cases r : f j < y
      · simp only [if_pos q, if_pos r]; exact b3
      · simp only [if_pos q, if_neg r]; omega
    · by_cases r : f j < y
      · simp only [if_neg q, if_pos r]; omega
      · simp only [if_neg q, if_neg r]; omega)
  omega
/-! ===== how many places have a property ===== -/
def fb_ct (p : Nat → Bool) : Nat → Nat
  | 0 => 0
  | n + 1 => fb_ct p n + (if p n then 1 else 0)
theorem fb_ct_succ (p : Nat → Bool) (n : Nat) : fb_ct p (n + 1) = fb_ct p n + (if p n then 1 else 0) := rfl
theorem fb_ct_le (p : Nat → Bool) : ∀ n, fb_ct p n ≤ n
  | 0 => Nat.le_refl _
  | n + 1 => by
    have h := fb_ct_le p n
    rw [fb_ct_succ]
    split <;> omega
theorem fb_ct_step (p : Nat → Bool) (m : Nat) : ∀ n, fb_ct p m ≤ fb_ct p (m + n)
  | 0 => Nat.le_refl _
  | n + 1 => by
    have h := fb_ct_step p m n
    show fb_ct p m ≤ fb_ct p (m + n + 1)
    rw [fb_ct_succ]
    omega
theorem fb_ct_mono (p : Nat → Bool) {m n : Nat} (h : m ≤ n) : fb_ct p m ≤ fb_ct p n := by
  have := fb_ct_step p m (n - m)
  rwa [Nat.add_sub_cancel' h] at this
theorem fb_ct_cong {p q : Nat → Bool} : ∀ {n : Nat}, (∀ k, k < n → p k = q k) → fb_ct p n = fb_ct q n
  | 0, _ => rfl
  | n + 1, h => by
    rw [fb_ct_succ, fb_ct_succ, fb_ct_cong (fun k hk => h k (by omega)), h n (by omega)]
/-- one place changed -/
theorem fb_ct_out (p : Nat → Bool) (b : Bool) {i n : Nat} (h : n ≤ i) : fb_ct (fun k => if k = i then b else p k) n = fb_ct p n :=
  fb_ct_cong fun k hk => if_neg (by omega)
theorem fb_ct_upd (p : Nat → Bool) (b : Bool) {i : Nat} : ∀ {n : Nat}, i < n → fb_ct (fun k => if k = i then b else p k) n + (if p i then 1 else 0) = fb_ct p n + (if b then 1 else 0)
  | 0, h => absurd h (Nat.not_lt_zero i)
  | n + 1, h => by
    rw [fb_ct_succ, fb_ct_succ]
    rcases Nat.lt_or_ge i n with q | q
    · have := fb_ct_upd p b q
      have e : (if n = i then b else p n) = p n := if_neg (by omega)
      rw [e]
      omega
    · have e : i = n := by omega
      subst e
      rw [fb_ct_out p b (Nat.le_refl _)]
      simp only [if_true]
      omega
theorem fb_ct_sub {p q : Nat → Bool} : ∀ {n : Nat}, (∀ k, k < n → p k = true → q k = true) → fb_ct p n ≤ fb_ct q n
  | 0, _ => Nat.le_refl _
  | n + 1, h => by
    have h1 := fb_ct_sub (n := n) (p := p) (q := q) (fun k hk => h k (by omega))
    have h2 := h n (by omega)
    rw [fb_ct_succ, fb_ct_succ]
    cases hp : p n <;> cases hq : q n <;> simp_all <;> omega
theorem fb_ct_or {p q : Nat → Bool} : ∀ {n : Nat}, (∀ k, k < n → ¬ (p k = true ∧ q k = true)) → fb_ct (fun k => p k || q k) n = fb_ct p n + fb_ct q n
  | 0, _ => rfl
  | n + 1, h => by
    have h1 := fb_ct_or (n := n) (p := p) (q := q) (fun k hk => h k (by omega))
    have h2 := h n (by omega)
    rw [fb_ct_succ, fb_ct_succ, fb_ct_succ, h1]
    cases hp : p n <;> cases hq : q n <;> simp_all <;> omega
theorem fb_ct_not (p : Nat → Bool) : ∀ n, fb_ct p n + fb_ct (fun k => !p k) n = n
  | 0 => rfl
  | n + 1 => by
    have h := fb_ct_not p n
    rw [fb_ct_succ, fb_ct_succ]
    cases p n <;> simp <;> omega
theorem fb_ct_split (p : Nat → Bool) (m : Nat) : ∀ n, fb_ct p (m + n) = fb_ct p m + fb_ct (fun k => p (m + k)) n
  | 0 => rfl
  | n + 1 => by
    have h := fb_ct_split p m n
    show fb_ct p (m + n + 1) = _
    rw [fb_ct_succ, fb_ct_succ, h, Nat.add_assoc]
theorem fb_ct_zero {p : Nat → Bool} : ∀ {n : Nat}, fb_ct p n = 0 ↔ ∀ k, k < n → p k = false
  | 0 => ⟨fun _ k hk => absurd hk (Nat.not_lt_zero k), fun _ => rfl⟩
  | n + 1 => by
    have h := fb_ct_zero (p := p) (n := n)
    rw [fb_ct_succ]
    constructor
    · intro e k hk
      have e1 : fb_ct p n = 0 := by omega
      rcases Nat.lt_or_ge k n with q | q
      · exact h.mp e1 k q
      · have ek : k = n := by omega
        subst ek
        cases hp : p k
        · rfl
        · simp [hp] at e
    · intro a
      rw [h.mpr (fun k hk => a k (by omega)), a n (by omega)]
      rfl
theorem fb_ct_pos {p : Nat → Bool} {n : Nat} : 0 < fb_ct p n ↔ ∃ k, k < n ∧ p k = true := by
  constructor
  · intro h
    refine Classical.byContradiction fun hx => ?_
    have := fb_ct_zero.mpr (fun k hk => by
      cases hp : p k
      · rfl
      · exact absurd ⟨k, hk, hp⟩ hx : ∀ k, k < n → p k = false)
    omega
  · rintro ⟨k, hk, hp⟩
    rcases Nat.eq_zero_or_pos (fb_ct p n) with e | e
    · have := fb_ct_zero.mp e k hk
      rw [this] at hp
      cases hp
    · exact e
theorem fb_ct_all {p : Nat → Bool} {n : Nat} : fb_ct p n = n ↔ ∀ k, k < n → p k = true := by
  have h := fb_ct_not p n
  constructor
  · intro e k hk
    have z : fb_ct (fun k => !p k) n = 0 := by omega
    have := fb_ct_zero.mp z k hk
    cases hp : p k
    · simp [hp] at this
    · rfl
  · intro a
    have z : fb_ct (fun k => !p k) n = 0 := fb_ct_zero.mpr (fun k hk => by simp [a k hk])
    omega
/-- the k-th place with the property -/
theorem fb_ct_kth {p : Nat → Bool} {k : Nat} : ∀ {n : Nat}, k < fb_ct p n → ∃ i, i < n ∧ p i = true ∧ fb_ct p i = k
  | 0, h => absurd h (Nat.not_lt_zero k)
  | n + 1, h => by
    rcases Nat.lt_or_ge k (fb_ct p n) with q | q
    · obtain ⟨i, h1, h2⟩ := fb_ct_kth q
      exact ⟨i, by omega, h2⟩
    · rw [fb_ct_succ] at h
      cases hp : p n
      · simp [hp] at h; omega
      · simp [hp] at h
        exact ⟨n, by omega, hp, by omega⟩
theorem fb_ct_kth_one {p : Nat → Bool} {i j : Nat} (hi : p i = true) (hj : p j = true) (e : fb_ct p i = fb_ct p j) : i = j := by
  have key : ∀ a b : Nat, a < b → p a = true → fb_ct p a < fb_ct p b := by
    intro a b hab ha
    have h := fb_ct_mono p (show a + 1 ≤ b from hab)
    rw [fb_ct_succ, ha] at h
    simp at h
    omega
  rcases Nat.lt_trichotomy i j with q | q | q
  · have := key i j q hi; omega
  · exact q
  · have := key j i q hj; omega
/-! ===== sums over a range: one place changed, parts, bounds ===== -/
def fb_sm (f : Nat → Nat) : Nat → Nat
  | 0 => 0
  | n + 1 => fb_sm f n + f n
theorem fb_sm_succ (f : Nat → Nat) (n : Nat) : fb_sm f (n + 1) = fb_sm f n + f n := rfl
theorem fb_sm_cong {f g : Nat → Nat} : ∀ {n : Nat}, (∀ k, k < n → f k = g k) → fb_sm f n = fb_sm g n
  | 0, _ => rfl
  | n + 1, h => by rw [fb_sm_succ, fb_sm_succ, fb_sm_cong (fun k hk => h k (by omega)), h n (by omega)]
theorem fb_sm_out (f : Nat → Nat) (v : Nat) {i n : Nat} (h : n ≤ i) : fb_sm (fun k => if k = i then v else f k) n = fb_sm f n :=
  fb_sm_cong fun k hk => if_neg (by omega)
theorem fb_sm_upd (f : Nat → Nat) (v : Nat) {i : Nat} : ∀ {n : Nat}, i < n → fb_sm (fun k => if k = i then v else f k) n + f i = fb_sm f n + v
  | 0, h => absurd h (Nat.not_lt_zero i)
  | n + 1, h => by
    rw [fb_sm_succ, fb_sm_succ]
    rcases Nat.lt_or_ge i n with q | q
    · have := fb_sm_upd f v q
      have e : (if n = i then v else f n) = f n := if_neg (by omega)
      rw [e]
      omega
    · have e : i = n := by omega
      subst e
      rw [fb_sm_out f v (Nat.le_refl _)]
      simp only [if_true]
      omega
theorem fb_sm_add (f g : Nat → Nat) : ∀ n, fb_sm (fun k => f k + g k) n = fb_sm f n + fb_sm g n
  | 0 => rfl
  | n + 1 => by
    have h := fb_sm_add f g n
    rw [fb_sm_succ, fb_sm_succ, fb_sm_succ, h]
    omega
theorem fb_sm_le {f g : Nat → Nat} : ∀ {n : Nat}, (∀ k, k < n → f k ≤ g k) → fb_sm f n ≤ fb_sm g n
  | 0, _ => Nat.le_refl _
  | n + 1, h => by
    have h1 := fb_sm_le (n := n) (f := f) (g := g) (fun k hk => h k (by omega))
    have h2 := h n (by omega)
    rw [fb_sm_succ, fb_sm_succ]
    omega
theorem fb_sm_const (c : Nat) : ∀ n, fb_sm (fun _ => c) n = n * c
  | 0 => by rw [Nat.zero_mul]; rfl
  | n + 1 => by rw [fb_sm_succ, fb_sm_const c n, Nat.succ_mul]
theorem fb_sm_bound {f : Nat → Nat} {c n : Nat} (h : ∀ k, k < n → f k ≤ c) : fb_sm f n ≤ n * c := by
  rw [← fb_sm_const c n]
  exact fb_sm_le h
theorem fb_sm_mono (f : Nat → Nat) (m : Nat) : ∀ n, fb_sm f m ≤ fb_sm f (m + n)
  | 0 => Nat.le_refl _
  | n + 1 => by
    have h := fb_sm_mono f m n
    show fb_sm f m ≤ fb_sm f (m + n + 1)
    rw [fb_sm_succ]
    omega
theorem fb_sm_part (f : Nat → Nat) {i n : Nat} (h : i < n) : fb_sm f i + f i ≤ fb_sm f n := by
  have := fb_sm_mono f (i + 1) (n - (i + 1))
  rw [fb_sm_succ, show i + 1 + (n - (i + 1)) = n by omega] at this
  exact this
theorem fb_sm_split (f : Nat → Nat) (m : Nat) : ∀ n, fb_sm f (m + n) = fb_sm f m + fb_sm (fun k => f (m + k)) n
  | 0 => rfl
  | n + 1 => by
    have h := fb_sm_split f m n
    show fb_sm f (m + n + 1) = _
    rw [fb_sm_succ, fb_sm_succ, h, Nat.add_assoc]
theorem fb_sm_zero {f : Nat → Nat} {n : Nat} (h : fb_sm f n = 0) : ∀ k, k < n → f k = 0 := fun k hk => by
  have := fb_sm_part f hk
  omega
/-- the same over whole numbers -/
def fb_si (f : Nat → Int) : Nat → Int
  | 0 => 0
  | n + 1 => fb_si f n + f n
theorem fb_si_succ (f : Nat → Int) (n : Nat) : fb_si f (n + 1) = fb_si f n + f n := rfl
theorem fb_si_cong {f g : Nat → Int} : ∀ {n : Nat}, (∀ k, k < n → f k = g k) → fb_si f n = fb_si g n
  | 0, _ => rfl
  | n + 1, h => by rw [fb_si_succ, fb_si_succ, fb_si_cong (fun k hk => h k (by omega)), h n (by omega)]
theorem fb_si_out (f : Nat → Int) (v : Int) {i n : Nat} (h : n ≤ i) : fb_si (fun k => if k = i then v else f k) n = fb_si f n :=
  fb_si_cong fun k hk => if_neg (by omega)
theorem fb_si_upd (f : Nat → Int) (v : Int) {i : Nat} : ∀ {n : Nat}, i < n → fb_si (fun k => if k = i then v else f k) n = fb_si f n - f i + v
  | 0, h => absurd h (Nat.not_lt_zero i)
  | n + 1, h => by
    rw [fb_si_succ, fb_si_succ]
    rcases Nat.lt_or_ge i n with q | q
    · have := fb_si_upd f v q
      have e : (if n = i then v else f n) = f n := if_neg (by omega)
      rw [e]
      omega
    · have e : i = n := by omega
      subst e
      rw [fb_si_out f v (Nat.le_refl _)]
      simp only [if_true]
      omega
theorem fb_si_add (f g : Nat → Int) : ∀ n, fb_si (fun k => f k + g k) n = fb_si f n + fb_si g n
  | 0 => rfl
  | n + 1 => by
    have h := fb_si_add f g n
    rw [fb_si_succ, fb_si_succ, fb_si_succ, h]
    omega
theorem fb_si_sub (f g : Nat → Int) : ∀ n, fb_si (fun k => f k - g k) n = fb_si f n - fb_si g n
  | 0 => rfl
  | n + 1 => by
    have h := fb_si_sub f g n
    rw [fb_si_succ, fb_si_succ, fb_si_succ, h]
    omega
theorem fb_si_mul (c : Int) (f : Nat → Int) : ∀ n, fb_si (fun k => c * f k) n = c * fb_si f n
  | 0 => (Int.mul_zero c).symm
  | n + 1 => by
    have h := fb_si_mul c f n
    rw [fb_si_succ, fb_si_succ, h, Int.mul_add]
theorem fb_si_split (f : Nat → Int) (m : Nat) : ∀ n, fb_si f (m + n) = fb_si f m + fb_si (fun k => f (m + k)) n
  | 0 => (Int.add_zero _).symm
  | n + 1 => by
    have h := fb_si_split f m n
    show fb_si f (m + n + 1) = _
    rw [fb_si_succ, fb_si_succ, h, Int.add_assoc]
theorem fb_si_nat (f : Nat → Nat) : ∀ n, fb_si (fun k => (f k : Int)) n = (fb_sm f n : Int)
  | 0 => rfl
  | n + 1 => by
    have h := fb_si_nat f n
    rw [fb_si_succ, fb_sm_succ, h]
    omega
theorem fb_si_bound {f : Nat → Int} {c : Int} (hc : 0 ≤ c) : ∀ {n : Nat}, (∀ k, k < n → -c ≤ f k ∧ f k ≤ c) → -(n * c) ≤ fb_si f n ∧ fb_si f n ≤ n * c
  | 0, _ => by simp [fb_si]
  | n + 1, h => by
    have h1 := fb_si_bound (n := n) (f := f) hc (fun k hk => h k (by omega))
    have h2 := h n (by omega)
    have e : ((n + 1 : Nat) : Int) * c = n * c + c := by rw [Int.natCast_add, Int.add_mul]; simp
    rw [fb_si_succ, e]
    omega
/-! ===== bits of a long that isn't negative ===== -/
theorem fb_andL (a b : Nat) : lN a &&& lN b = lN (a &&& b) := by
  apply Int64.toBitVec_inj.1
  show BitVec.ofNat 64 a &&& BitVec.ofNat 64 b = BitVec.ofNat 64 (a &&& b)
  apply BitVec.eq_of_getLsbD_eq
  intro i hi
  simp [hi]
theorem fb_orL (a b : Nat) : lN a ||| lN b = lN (a ||| b) := by
  apply Int64.toBitVec_inj.1
  show BitVec.ofNat 64 a ||| BitVec.ofNat 64 b = BitVec.ofNat 64 (a ||| b)
  apply BitVec.eq_of_getLsbD_eq
  intro i hi
  simp [hi]
theorem fb_xorL (a b : Nat) : lN a ^^^ lN b = lN (a ^^^ b) := by
  apply Int64.toBitVec_inj.1
  show BitVec.ofNat 64 a ^^^ BitVec.ofNat 64 b = BitVec.ofNat 64 (a ^^^ b)
  apply BitVec.eq_of_getLsbD_eq
  intro i hi
  simp [hi]
theorem fb_xorI (a b : Nat) : nI a ^^^ nI b = nI (a ^^^ b) := by
  apply Int32.toBitVec_inj.1
  show BitVec.ofNat 32 a ^^^ BitVec.ofNat 32 b = BitVec.ofNat 32 (a ^^^ b)
  apply BitVec.eq_of_getLsbD_eq
  intro i hi
  simp [hi]
theorem fb_maskL (n k : Nat) : lN n &&& lN (2 ^ k - 1) = lN (n % 2 ^ k) := by rw [fb_andL, Nat.and_two_pow_sub_one_eq_mod]
theorem fb_or_sumL {a k : Nat} (b : Nat) (h : a < 2 ^ k) : lN (2 ^ k * b) ||| lN a = lN (2 ^ k * b + a) := by rw [fb_orL, Nat.two_pow_add_eq_or_of_lt h]
theorem fb_lN_inj {a b : Nat} (ha : a < 2 ^ 63) (hb : b < 2 ^ 63) : lN a = lN b ↔ a = b := by
  constructor
  · intro h
    have h1 : (BitVec.ofNat 64 a).toNat = (BitVec.ofNat 64 b).toNat := congrArg (fun x : Int64 => x.toBitVec.toNat) h
    rw [BitVec.toNat_ofNat, BitVec.toNat_ofNat, Nat.mod_eq_of_lt (by omega), Nat.mod_eq_of_lt (by omega)] at h1
    exact h1
  · rintro rfl; rfl
theorem fb_bit_nat (n j : Nat) : n &&& 2 ^ j = 0 ↔ n.testBit j = false := by
  constructor
  · intro h
    have h1 : (n &&& 2 ^ j).testBit j = false := by rw [h]; simp
    rw [Nat.testBit_and] at h1
    simpa using h1
  · intro h
    apply Nat.eq_of_testBit_eq
    intro i
    rw [Nat.testBit_and]
    by_cases hi : j = i
    · subst hi; simp [h]
    · first | (simp [Nat.testBit_two_pow, hi]; done) | (simp [Nat.testBit_two_pow_of_ne hi]; done)
/-- one bit of a long -/
theorem fb_bitL {n j : Nat} (hj : j < 63) : lN n &&& lN (2 ^ j) = 0 ↔ n.testBit j = false := by
  have h2 : (2 : Nat) ^ j < 2 ^ 63 := Nat.pow_lt_pow_right (by decide) hj
  have hle : n &&& 2 ^ j ≤ 2 ^ j := Nat.and_le_right
  rw [fb_andL, ← fb_bit_nat, show (0 : Int64) = lN 0 from rfl]
  exact fb_lN_inj (by omega) (by decide)
/-- a bit set, a bit taken off -/
theorem fb_bit_set (n j i : Nat) : (n ||| 2 ^ j).testBit i = (n.testBit i || decide (i = j)) := by
  rw [Nat.testBit_or]
  by_cases h : j = i
  · subst h; simp
  · have h2 : ¬ i = j := fun e => h e.symm
    first | (simp [Nat.testBit_two_pow, h, h2]; done) | (simp [Nat.testBit_two_pow_of_ne h, h2]; done)
theorem fb_bit_flip (n j i : Nat) : (n ^^^ 2 ^ j).testBit i = (n.testBit i ^^ decide (i = j)) := by
  rw [Nat.testBit_xor]
  by_cases h : j = i
  · subst h; simp
  · have h2 : ¬ i = j := fun e => h e.symm
    first | (simp [Nat.testBit_two_pow, h, h2]; done) | (simp [Nat.testBit_two_pow_of_ne h, h2]; done)
/-! ===== a stretch of an array written over by a function ===== -/
def fb_put {α : Type} (f g : Nat → α) (a n : Nat) : Nat → α := fun k => if a ≤ k ∧ k < a + n then g (k - a) else f k
theorem fb_put_0 {α : Type} (f g : Nat → α) (a : Nat) : fb_put f g a 0 = f := funext fun k => if_neg (by omega)
theorem fb_put_in {α : Type} {f g : Nat → α} {a n k : Nat} (h1 : a ≤ k) (h2 : k < a + n) : fb_put f g a n k = g (k - a) := if_pos ⟨h1, h2⟩
theorem fb_put_out {α : Type} {f g : Nat → α} {a n k : Nat} (h : k < a ∨ a + n ≤ k) : fb_put f g a n k = f k := if_neg (by omega)
theorem fb_put_succ (f g : Nat → Int32) (a n : Nat) : upd (fb_put f g a n) (a + n) (g n) = fb_put f g a (n + 1) := by
  funext k
  by_cases h : k = a + n
  · subst h
    simp [upd, fb_put]
  · by_cases h1 : a ≤ k ∧ k < a + n
    · have h2 : a ≤ k ∧ k < a + (n + 1) := by omega
      simp only [upd, fb_put, if_neg h, if_pos h1, if_pos h2]
    · have h2 : ¬ (a ≤ k ∧ k < a + (n + 1)) := by omega
      simp only [upd, fb_put, if_neg h, if_neg h1, if_neg h2]
/-- .. from the far end down -/
theorem fb_put_down (f g : Nat → Int32) {a n m : Nat} (h : m < n) : upd (fb_put f (fun k => g (k + (m + 1))) (a + (m + 1)) (n - (m + 1))) (a + m) (g m) = fb_put f (fun k => g (k + m)) (a + m) (n - m) := by
  funext k
  by_cases h0 : k = a + m
  · subst h0
    simp only [upd, if_true]
    rw [fb_put_in (by omega) (by omega)]
    exact congrArg g (by omega)
  · simp only [upd, if_neg h0]
    by_cases h1 : a + (m + 1) ≤ k ∧ k < a + (m + 1) + (n - (m + 1))
    · rw [fb_put_in h1.1 h1.2, fb_put_in (by omega) (by omega)]
      exact congrArg g (by omega)
    · rw [fb_put_out (by omega), fb_put_out (by omega)]
theorem fb_put_cong {α : Type} {f f2 g g2 : Nat → α} {a n : Nat} (hf : ∀ k, (k < a ∨ a + n ≤ k) → f k = f2 k) (hg : ∀ k, k < n → g k = g2 k) : fb_put f g a n = fb_put f2 g2 a n := by
  funext k
  by_cases h : a ≤ k ∧ k < a + n
  · rw [fb_put_in h.1 h.2, fb_put_in h.1 h.2, hg _ (by omega)]
  · rw [fb_put_out (by omega), fb_put_out (by omega), hf _ (by omega)]
/-! ===== the least, the first, the best so far; that there is one alone ===== -/
theorem fb_first {p : Nat → Prop} [DecidablePred p] : ∀ {n : Nat}, (∃ i, i < n ∧ p i) → ∃ i, i < n ∧ p i ∧ ∀ j, j < i → ¬ p j
  | 0, h => by obtain ⟨i, hi, -⟩ := h; exact absurd hi (Nat.not_lt_zero i)
  | n + 1, h => by
    by_cases q : ∃ i, i < n ∧ p i
    · obtain ⟨i, h1, h2⟩ := fb_first q
      exact ⟨i, by omega, h2⟩
    · obtain ⟨i, h1, h2⟩ := h
      have e : i = n := by
        rcases Nat.lt_or_ge i n with r | r
        · exact absurd ⟨i, r, h2⟩ q
        · omega
      subst e
      exact ⟨i, by omega, h2, fun j hj hp => q ⟨j, hj, hp⟩⟩
theorem fb_first_one {p : Nat → Prop} {i j : Nat} (hi : p i) (hi2 : ∀ k, k < i → ¬ p k) (hj : p j) (hj2 : ∀ k, k < j → ¬ p k) : i = j := by
  rcases Nat.lt_trichotomy i j with q | q | q
  · exact absurd hi (hj2 i q)
  · exact q
  · exact absurd hj (hi2 j q)
theorem fb_last {p : Nat → Prop} [DecidablePred p] : ∀ {n : Nat}, (∃ i, i < n ∧ p i) → ∃ i, i < n ∧ p i ∧ ∀ j, i < j → j < n → ¬ p j
  | 0, h => by obtain ⟨i, hi, -⟩ := h; exact absurd hi (Nat.not_lt_zero i)
  | n + 1, h => by
    by_cases q : p n
    · exact ⟨n, by omega, q, fun j h1 h2 => by omega⟩
    · obtain ⟨i, h1, h2⟩ := h
      have hi : i < n := by
        rcases Nat.lt_or_ge i n with r | r
        · exact r
        · have e : i = n := by omega
          subst e
          exact absurd h2 q
      obtain ⟨i2, a1, a2, a3⟩ := fb_last (n := n) ⟨i, hi, h2⟩
      refine ⟨i2, by omega, a2, fun j b1 b2 => ?_⟩
      rcases Nat.lt_or_ge j n with r | r
      · exact a3 j b1 r
      · have e : j = n := by omega
        subst e
        exact q
/-- the first greatest -/
theorem fb_best (f : Nat → Int) : ∀ {n : Nat}, 0 < n → ∃ i, i < n ∧ (∀ j, j < n → f j ≤ f i) ∧ ∀ j, j < i → f j < f i
  | 0, h => absurd h (Nat.lt_irrefl 0)
  | 1, _ => ⟨0, by omega, fun j hj => by have e : j = 0 := by omega
                                         subst e; exact Int.le_refl _, fun j hj => absurd hj (Nat.not_lt_zero j)⟩
  | n + 2, _ => by
    obtain ⟨i, h1, h2, h3⟩ := fb_best f (n := n + 1) (by omega)
    by_cases q : f i < f (n + 1)
    · refine ⟨n + 1, by omega, fun j hj => ?_, fun j hj => ?_⟩
      · rcases Nat.lt_or_ge j (n + 1) with r | r
        · have := h2 j r; omega
        · have e : j = n + 1 := by omega
          subst e; exact Int.le_refl _
      · have := h2 j hj; omega
    · refine ⟨i, by omega, fun j hj => ?_, h3⟩
      rcases Nat.lt_or_ge j (n + 1) with r | r
      · exact h2 j r
      · have e : j = n + 1 := by omega
        subst e; omega
theorem fb_best_one {f : Nat → Int} {n i j : Nat} (hi : i < n) (hi2 : ∀ k, k < n → f k ≤ f i) (hi3 : ∀ k, k < i → f k < f i) (hj : j < n) (hj2 : ∀ k, k < n → f k ≤ f j) (hj3 : ∀ k, k < j → f k < f j) : i = j := by
  rcases Nat.lt_trichotomy i j with q | q | q
  · have a := hj3 i q
    have b := hi2 j hj
    omega
  · exact q
  · have a := hi3 j q
    have b := hj2 i hi
    omega
/-- the first least -/
theorem fb_low (f : Nat → Int) {n : Nat} (h : 0 < n) : ∃ i, i < n ∧ (∀ j, j < n → f i ≤ f j) ∧ ∀ j, j < i → f i < f j := by
  obtain ⟨i, h1, h2, h3⟩ := fb_best (fun k => -f k) h
  exact ⟨i, h1, fun j hj => by have := h2 j hj; omega, fun j hj => by have := h3 j hj; omega⟩
/-! ===== signed ints as whole numbers, within bounds ===== -/
theorem fb_rng (x : Int32) : -2147483648 ≤ x.toInt ∧ x.toInt < 2147483648 := by
  have h1 := Int32.le_toInt x
  have h2 := Int32.toInt_lt x
  omega
theorem fb_bmod {z : Int} (h1 : -2147483648 ≤ z) (h2 : z < 2147483648) : z.bmod (2 ^ 32) = z := by
  rw [Int.bmod_eq_of_le (by omega) (by omega)]
theorem fb_addI {x y : Int32} (h1 : -2147483648 ≤ x.toInt + y.toInt) (h2 : x.toInt + y.toInt < 2147483648) : (x + y).toInt = x.toInt + y.toInt := by
  rw [Int32.toInt_add, fb_bmod h1 h2]
theorem fb_subI {x y : Int32} (h1 : -2147483648 ≤ x.toInt - y.toInt) (h2 : x.toInt - y.toInt < 2147483648) : (x - y).toInt = x.toInt - y.toInt := by
  rw [Int32.toInt_sub, fb_bmod h1 h2]
theorem fb_mulI {x y : Int32} (h1 : -2147483648 ≤ x.toInt * y.toInt) (h2 : x.toInt * y.toInt < 2147483648) : (x * y).toInt = x.toInt * y.toInt := by
  rw [Int32.toInt_mul, fb_bmod h1 h2]
theorem fb_negI {x : Int32} (h : x.toInt ≠ -2147483648) : (-x).toInt = -x.toInt := by
  have := fb_rng x
  rw [Int32.toInt_neg, fb_bmod (by omega) (by omega)]
theorem fb_ofI {z : Int} (h1 : -2147483648 ≤ z) (h2 : z < 2147483648) : (Int32.ofInt z).toInt = z := by
  rw [Int32.toInt_ofInt, fb_bmod h1 h2]
theorem fb_asI (x : Int32) : Int32.ofInt x.toInt = x := Int32.ofInt_toInt x
theorem fb_rngL (x : Int64) : -9223372036854775808 ≤ x.toInt ∧ x.toInt < 9223372036854775808 := by
  have h1 := Int64.le_toInt x
  have h2 := Int64.toInt_lt x
  omega
theorem fb_bmodL {z : Int} (h1 : -9223372036854775808 ≤ z) (h2 : z < 9223372036854775808) : z.bmod (2 ^ 64) = z := by
  rw [Int.bmod_eq_of_le (by omega) (by omega)]
theorem fb_addL {x y : Int64} (h1 : -9223372036854775808 ≤ x.toInt + y.toInt) (h2 : x.toInt + y.toInt < 9223372036854775808) : (x + y).toInt = x.toInt + y.toInt := by
  rw [Int64.toInt_add, fb_bmodL h1 h2]
theorem fb_subL {x y : Int64} (h1 : -9223372036854775808 ≤ x.toInt - y.toInt) (h2 : x.toInt - y.toInt < 9223372036854775808) : (x - y).toInt = x.toInt - y.toInt := by
  rw [Int64.toInt_sub, fb_bmodL h1 h2]
theorem fb_mulL {x y : Int64} (h1 : -9223372036854775808 ≤ x.toInt * y.toInt) (h2 : x.toInt * y.toInt < 9223372036854775808) : (x * y).toInt = x.toInt * y.toInt := by
  rw [Int64.toInt_mul, fb_bmodL h1 h2]
/-! ===== cuts of what is narrow already ===== -/
theorem fb_byte {x : Int32} (h1 : -128 ≤ x.toInt) (h2 : x.toInt < 128) : x.toInt8.toInt32 = x := by
  apply Int32.toInt_inj.1
  rw [Int8.toInt_toInt32, Int32.toInt_toInt8, Int.bmod_eq_of_le (by omega) (by omega)]
theorem fb_short {x : Int32} (h1 : -32768 ≤ x.toInt) (h2 : x.toInt < 32768) : x.toInt16.toInt32 = x := by
  apply Int32.toInt_inj.1
  rw [Int16.toInt_toInt32, Int32.toInt_toInt16, Int.bmod_eq_of_le (by omega) (by omega)]
theorem fb_byte_rng (x : Int32) : -128 ≤ x.toInt8.toInt32.toInt ∧ x.toInt8.toInt32.toInt < 128 := by
  rw [Int8.toInt_toInt32]
  have h1 := Int8.le_toInt x.toInt8
  have h2 := Int8.toInt_lt x.toInt8
  omega
theorem fb_short_rng (x : Int32) : -32768 ≤ x.toInt16.toInt32.toInt ∧ x.toInt16.toInt32.toInt < 32768 := by
  rw [Int16.toInt_toInt32]
  have h1 := Int16.le_toInt x.toInt16
  have h2 := Int16.toInt_lt x.toInt16
  omega
theorem fb_byte_twice (x : Int32) : x.toInt8.toInt32.toInt8.toInt32 = x.toInt8.toInt32 := fb_byte (fb_byte_rng x).1 (fb_byte_rng x).2
theorem fb_short_twice (x : Int32) : x.toInt16.toInt32.toInt16.toInt32 = x.toInt16.toInt32 := fb_short (fb_short_rng x).1 (fb_short_rng x).2
theorem fb_char {n : Nat} (h : n < 65536) : (nI n).toUInt32.toUInt16.toUInt32.toInt32 = nI n := by
  apply Int32.toBitVec_inj.1
  apply BitVec.eq_of_toNat_eq
  have e1 : (nI n).toBitVec.toNat = n := by
    show (BitVec.ofNat 32 n).toNat = n
    rw [BitVec.toNat_ofNat, Nat.mod_eq_of_lt (by omega)]
  have e2 : ((nI n).toUInt32.toUInt16.toUInt32).toNat = n := by
    rw [UInt16.toNat_toUInt32, UInt32.toNat_toUInt16]
    show (nI n).toBitVec.toNat % 2 ^ 16 = n
    rw [e1, Nat.mod_eq_of_lt (by omega)]
  rw [e1]
  exact e2
end
section
/-! what a state is: the class's and the reference's cells, and the words for them -/
abbrev SA : Type := (Nat → Nat) × (Nat → Nat → Int32) × (Nat → Nat → Int64)
abbrev SM : Type := (Nat → Nat) × (Nat → Nat → Int32)
def sN (S : SA) (k v : Nat) : SA := (va_up S.1 k v, S.2.1, S.2.2)
def sI (S : SA) (k : Nat) (f : Nat → Int32) : SA := (S.1, va_up S.2.1 k f, S.2.2)
def sJ (S : SA) (k : Nat) (f : Nat → Int64) : SA := (S.1, S.2.1, va_up S.2.2 k f)
def mN (M : SM) (k v : Nat) : SM := (va_up M.1 k v, M.2)
def mI (M : SM) (k : Nat) (f : Nat → Int32) : SM := (M.1, va_up M.2 k f)
def wA (G : gG) (ad : Nat → Nat) (S : SA) : va_W := [(ad 0, .inr (6, [.ref (ad 1), .ref (ad 2), .ref (ad 3), .ref (ad 4), .ref (ad 5), .ref (ad 6), .ref (ad 7), .ref (ad 8), .int (nI (S.1 8)), .int (nI (S.1 7)), .long (lN (S.1 9))])), (ad 1, .inr (1, [.ref (ad 9), .ref (ad 10), .ref (ad 11), .ref (ad 12), .int (nI (S.1 0)), .int (nI (S.1 1))])), (ad 2, .inr (4, [.ref (ad 13), .ref (ad 14), .ref (ad 15), .int (nI (S.1 2))])), (ad 3, .inr (5, [.ref (ad 16), .ref (ad 17), .ref (ad 18), .ref (ad 19), .ref (ad 20), .int (nI (S.1 3))])), (ad 4, .inr (0, [.ref (ad 21), .ref (ad 22), .int (nI (S.1 4))])), (ad 5, .inr (2, [.ref (ad 23), .ref (ad 24), .int (nI (S.1 5))])), (ad 6, .inr (3, [.ref (ad 25), .ref (ad 26), .ref (ad 27), .ref (ad 28), .int (nI (S.1 6))])), (ad 7, .inl (G.2.2.1, 5, .inr (.inl (S.2.2 0)))), (ad 8, .inl (G.2.1, 5, .inl (S.2.1 0))), (ad 9, .inl (G.2.1, 8, .inl (S.2.1 1))), (ad 10, .inl (G.2.1, 40, .inl (S.2.1 2))), (ad 11, .inl (G.2.1, 40, .inl (S.2.1 3))), (ad 12, .inl (G.2.1, 40, .inl (S.2.1 4))), (ad 13, .inl (G.2.1, 8, .inl (S.2.1 5))), (ad 14, .inl (G.2.1, 8, .inl (S.2.1 6))), (ad 15, .inl (G.2.1, 8, .inl (S.2.1 7))), (ad 16, .inl (G.2.1, 12, .inl (S.2.1 8))), (ad 17, .inl (G.2.1, 12, .inl (S.2.1 9))), (ad 18, .inl (G.2.1, 12, .inl (S.2.1 10))), (ad 19, .inl (G.2.1, 12, .inl (S.2.1 11))), (ad 20, .inl (G.2.2.2.1, 12, .inl (S.2.1 12))), (ad 21, .inl (G.2.2.1, 10, .inr (.inl (S.2.2 1)))), (ad 22, .inl (G.2.2.1, 10, .inr (.inl (S.2.2 2)))), (ad 23, .inl (G.2.1, 200, .inl (S.2.1 13))), (ad 24, .inl (G.2.1, 200, .inl (S.2.1 14))), (ad 25, .inl (G.2.1, 20, .inl (S.2.1 15))), (ad 26, .inl (G.2.1, 20, .inl (S.2.1 16))), (ad 27, .inl (G.2.2.2.2.1, 20, .inl (S.2.1 17))), (ad 28, .inl (G.2.1, 20, .inl (S.2.1 18)))]
def wM (G : gG) (bd : Nat → Nat) (M : SM) : va_W := [(bd 0, .inr (7, [.int (nI (M.1 0)), .int (nI (M.1 1)), .int (nI (M.1 2)), .int (nI (M.1 3)), .int (nI (M.1 4)), .int (nI (M.1 5)), .int (nI (M.1 6)), .int (nI (M.1 7)), .int (nI (M.1 8)), .long (lN (M.1 9)), .ref (bd 1), .ref (bd 2), .ref (bd 3), .ref (bd 4), .ref (bd 5), .ref (bd 6), .ref (bd 7), .ref (bd 8), .ref (bd 9), .ref (bd 10), .ref (bd 11), .ref (bd 12), .ref (bd 13), .ref (bd 14), .ref (bd 15), .ref (bd 16), .ref (bd 17), .ref (bd 18), .ref (bd 19), .ref (bd 20), .ref (bd 21)])), (bd 1, .inl (G.2.1, 40, .inl (M.2 0))), (bd 2, .inl (G.2.1, 40, .inl (M.2 1))), (bd 3, .inl (G.2.1, 8, .inl (M.2 2))), (bd 4, .inl (G.2.1, 8, .inl (M.2 3))), (bd 5, .inl (G.2.1, 8, .inl (M.2 4))), (bd 6, .inl (G.2.1, 12, .inl (M.2 5))), (bd 7, .inl (G.2.1, 12, .inl (M.2 6))), (bd 8, .inl (G.2.1, 12, .inl (M.2 7))), (bd 9, .inl (G.2.1, 12, .inl (M.2 8))), (bd 10, .inl (G.2.1, 10, .inl (M.2 9))), (bd 11, .inl (G.2.1, 10, .inl (M.2 10))), (bd 12, .inl (G.2.1, 10, .inl (M.2 11))), (bd 13, .inl (G.2.1, 20, .inl (M.2 12))), (bd 14, .inl (G.2.1, 20, .inl (M.2 13))), (bd 15, .inl (G.2.1, 20, .inl (M.2 14))), (bd 16, .inl (G.2.1, 5, .inl (M.2 15))), (bd 17, .inl (G.2.1, 5, .inl (M.2 16))), (bd 18, .inl (G.2.2.2.1, 12, .inl (M.2 17))), (bd 19, .inl (G.2.2.2.1, 200, .inl (M.2 18))), (bd 20, .inl (G.2.2.2.1, 40, .inl (M.2 19))), (bd 21, .inl (G.2.2.2.2.1, 20, .inl (M.2 20)))]
def mk (z : Int64) : Nat := z.toBitVec.toNat
theorem lN_mk (z : Int64) : lN (mk z) = z := by
  unfold lN mk
  apply Int64.toBitVec_inj.mp
  simp
theorem mk_lN {n : Nat} (h : n < 2 ^ 64) : mk (lN n) = n := by
  unfold lN mk
  simp
  omega
def ix (v : Int32) : Nat := v.toBitVec.toNat
theorem nI_ix (v : Int32) : nI (ix v) = v := by
  unfold nI ix
  apply Int32.toBitVec_inj.mp
  simp
theorem ix_nI {n : Nat} (h : n < 2 ^ 32) : ix (nI n) = n := by
  unfold nI ix
  simp
  omega
def anyB (p : Nat → Bool) : Nat → Bool
  | 0 => false
  | n + 1 => anyB p n || p n
theorem anyB_t {p : Nat → Bool} {i : Nat} : ∀ {n : Nat}, i < n → p i = true → anyB p n = true
  | 0, h, _ => absurd h (Nat.not_lt_zero _)
  | n + 1, h, hp => by
    rcases Nat.lt_succ_iff_lt_or_eq.mp h with h | rfl
    · simp [anyB, anyB_t h hp]
    · simp [anyB, hp]
theorem anyB_s {p : Nat → Bool} {i : Nat} (h : anyB p i = false) (hp : p i = false) : anyB p (i + 1) = false := by simp [anyB, h, hp]
theorem anyB_c {p q : Nat → Bool} : ∀ {n : Nat}, (∀ k, k < n → p k = q k) → anyB p n = anyB q n
  | 0, _ => rfl
  | n + 1, h => by rw [anyB, anyB, anyB_c (fun k hk => h k (Nat.lt_succ_of_lt hk)), h n (Nat.lt_succ_self n)]
def fstB (p : Nat → Bool) : Nat → Option Nat
  | 0 => none
  | n + 1 => match fstB p n with | some k => some k | none => if p n then some n else none
theorem ct_t {p : Nat → Bool} {i : Nat} (h : p i = true) : fb_ct p (i + 1) = fb_ct p i + 1 := by rw [fb_ct_succ, if_pos h]
theorem ct_f {p : Nat → Bool} {i : Nat} (h : p i = false) : fb_ct p (i + 1) = fb_ct p i := by rw [fb_ct_succ, if_neg (by simp [h])]; rfl
theorem nar_b (b : Bool) : narrow .boolean (.int (bI b)) = .int (bI b) := by cases b <;> rfl
theorem bI_t {b : Bool} (h : b = true) : nI 1 = bI b := by rw [h]; rfl
theorem bI_f {b : Bool} (h : b = false) : nI 0 = bI b := by rw [h]; rfl
def inB (x lo hi : Int32) : Bool := !decide (x < lo) && !decide (hi < x)
def inR (x : Int32) (n : Nat) : Bool := !decide (x < 0) && decide (x < nI n)
theorem inR_of {x : Int32} {n : Nat} (hn : n < 2 ^ 31) (h : inR x n = true) : ∃ j : Nat, j < n ∧ x = nI j := by
  simp only [inR, Bool.and_eq_true, Bool.not_eq_true', decide_eq_false_iff_not, decide_eq_true_eq] at h
  obtain ⟨j, hj, rfl⟩ := nI_of h.1
  exact ⟨j, (nI_ltI hj hn).mp h.2, rfl⟩
theorem inR_nI {j n : Nat} (hn : n < 2 ^ 31) (h : j < n) : inR (nI j) n = true := by
  simp only [inR, Bool.and_eq_true, Bool.not_eq_true', decide_eq_false_iff_not, decide_eq_true_eq]
  exact ⟨nI_pos (Nat.lt_trans h hn), nI_lt h hn⟩
section YG
variable {p : Program} {l : Launch} {e : Env} {R : Room} {s : State} {m : MethodId} {args : Array Value} {below : List Frame} {meth : Method} {c : Code} {cc : ByteArray} {own : String} {nL : Nat} {G : gG} {B0 : Nat} {Q : State → Prop} {pc pc' : Nat} {L L' : List (Nat × Value)} {st rest : List Value} {w w' : va_W} {cs ss : Nat}
theorem yq (h : ∀ QQ : State → Prop, QQ = Q → YY p l e R s m args below meth c G B0 nL QQ pc L st w cs ss) : YY p l e R s m args below meth c G B0 nL Q pc L st w cs ss := h Q rfl
theorem yy_mk {z : Int64} (k : YY p l e R s m args below meth c G B0 nL Q pc L (.long (lN (mk z)) :: st) w cs ss) : YY p l e R s m args below meth c G B0 nL Q pc L (.long z :: st) w cs ss := by rw [lN_mk] at k; exact k
theorem yy_ix {z : Int32} (k : YY p l e R s m args below meth c G B0 nL Q pc L (.int (nI (ix z)) :: st) w cs ss) : YY p l e R s m args below meth c G B0 nL Q pc L (.int z :: st) w cs ss := by rw [nI_ix] at k; exact k
theorem yy_eqi {z z' : Int32} (h : z = z') (k : YY p l e R s m args below meth c G B0 nL Q pc L (.int z' :: st) w cs ss) : YY p l e R s m args below meth c G B0 nL Q pc L (.int z :: st) w cs ss := by rw [h]; exact k
theorem lg_0 {a b : Nat} (ha : a < 2 ^ 63) (hb : b < 2 ^ 63) : lg_cmp (lN a) (lN b) = 0 ↔ a = b := by
  rw [← fb_lN_inj ha hb]
  unfold lg_cmp
  constructor
  · intro h
    split at h
    · exact absurd h (by decide)
    · split at h
      · assumption
      · exact absurd h (by decide)
  · intro h
    rw [h]
    simp
theorem yl_if_ne (C : CX p s m args meth c cc own nL G B0) {a b : Nat} (ha : a < 2 ^ 63) (hb : b < 2 ^ 63) {off : Int} {tgt : Nat} (hd : decode cc pc = .ok (.ifCond .ne off, 3)) (hn : pc + 3 = pc') (ht : (pc : Int) + off = (tgt : Int)) (kt : ¬ a = b → YY p l e R s m args below meth c G B0 nL Q tgt L st w cs ss) (kf : a = b → YY p l e R s m args below meth c G B0 nL Q pc' L st w cs ss) : YY p l e R s m args below meth c G B0 nL Q pc L (.int (lg_cmp (lN a) (lN b)) :: st) w cs ss :=
  yy_if_ne C hd hn ht (fun q => kt (fun z => q ((lg_0 ha hb).mpr z))) (fun q => kf ((lg_0 ha hb).mp q))
theorem yl_if_eq (C : CX p s m args meth c cc own nL G B0) {a b : Nat} (ha : a < 2 ^ 63) (hb : b < 2 ^ 63) {off : Int} {tgt : Nat} (hd : decode cc pc = .ok (.ifCond .eq off, 3)) (hn : pc + 3 = pc') (ht : (pc : Int) + off = (tgt : Int)) (kt : a = b → YY p l e R s m args below meth c G B0 nL Q tgt L st w cs ss) (kf : ¬ a = b → YY p l e R s m args below meth c G B0 nL Q pc' L st w cs ss) : YY p l e R s m args below meth c G B0 nL Q pc L (.int (lg_cmp (lN a) (lN b)) :: st) w cs ss :=
  yy_if_eq C hd hn ht (fun q => kt ((lg_0 ha hb).mp q)) (fun q => kf (fun z => q ((lg_0 ha hb).mpr z)))
end YG
end
section
def zz_chain (X : String) (ix : Nat) (rx : ByteArray) : List String → List Cond
  | [] => Bundle.passSAtoms X Bundle.tN ix rx
  | Y :: r => Bundle.passSAtoms X Y ix rx ++ Bundle.chainSAtoms Y r
def zz_own (own : String) (ic : Nat) (X : String) (ix : Nat) (rx : ByteArray) (names : List String) : List Cond :=
  Bundle.throwableAtoms ++ Bundle.throwableSAtoms ++ zz_chain X ix rx names ++
  [.methodLink own ic (Bundle.initS X), .instantiable X 6, .castable X X, .selects X Bundle.tFill0 Bundle.tFill0, .selects X Bundle.tFill Bundle.tFill,
   .lays X Bundle.tN "cause" "Ljava/lang/Throwable;", .lays X Bundle.tN "stackTrace" Bundle.steD, .lays X Bundle.tN "suppressedExceptions" Bundle.listD, .lays X Bundle.tN "detailMessage" "Ljava/lang/String;",
   .isRef (.static Bundle.tN "UNASSIGNED_STACK" Bundle.steD), .isRef (.static Bundle.tN "SUPPRESSED_SENTINEL" Bundle.listD),
   .fieldLink Bundle.tN 198 Bundle.tN "backtrace" "Ljava/lang/Object;", .lays Bundle.tN Bundle.tN "backtrace" "Ljava/lang/Object;", .lays X Bundle.tN "backtrace" "Ljava/lang/Object;"]
def zz_at (own : String) (ic : Nat) (X : String) (ix : Nat) (rx : ByteArray) (names : List String) : List Cond := (zz_own own ic X ix rx names).filter vx_no
theorem zz_chainS {args : Array Value} {s : State} {pl : Platform} (hpl : pl.magicAccessors = ({} : Platform).magicAccessors) {top : MethodId} (htop : s.methodNamed? (Bundle.initS Bundle.tN) = some top)
    {ix : Nat} {rx : ByteArray} (x0 : decode rx 0 = .ok (.aload_n 0, 1)) (x1 : decode rx 1 = .ok (.aload_n 1, 1)) (x2 : decode rx 2 = .ok (.invokespecial ix, 3)) (x5 : decode rx 5 = .ok (.return_, 1)) (names : List String) (X : String) (hX : Bundle.fit X = true) (hn : ∀ n ∈ names, Bundle.fit n = true) (h : ∀ c ∈ zz_chain X ix rx names, c.before args s = true) :
      ∃ (P1 : PassC) (Ps : List PassC), Ps.length = names.length ∧ P1.LinksS pl s ∧ (∀ P, P ∈ Ps → P.LinksS pl s) ∧ s.methodNamed? (Bundle.initS X) = some P1.m ∧
        P1.sup = firstOf top (Ps.map (·.toPassT)) ∧ PassesOn top (Ps.map (·.toPassT)) := by
  cases names with
  | nil =>
    obtain ⟨P, L, hm, hs⟩ := PassC.ofS_atoms (args := args) (s := s) hpl (X := X) (Y := Bundle.tN) (Bundle.fit_spec hX).1 (by decide) x0 x1 x2 x5 h
    exact ⟨P, [], rfl, L, (fun _ hP => by cases hP), hm, Option.some.inj (hs.symm.trans htop), trivial⟩
  | cons Y r =>
    obtain ⟨P, L, hm, hs⟩ := PassC.ofS_atoms (args := args) (s := s) hpl (X := X) (Y := Y) (Bundle.fit_spec hX).1 (Bundle.fit_spec (hn Y List.mem_cons_self)).2 x0 x1 x2 x5
      (fun c hc => h c (by simp only [zz_chain, List.mem_append]; exact Or.inl hc))
    obtain ⟨P', Ps, hlen, L', hL, hm', hsup, hpass⟩ := Bundle.chainS (args := args) hpl htop r Y (hn Y List.mem_cons_self) (fun n hn' => hn n (List.mem_cons_of_mem _ hn')) (fun c hc => h c (by simp only [zz_chain, List.mem_append]; exact Or.inr hc))
    refine ⟨P, P' :: Ps, by simp [hlen], L, ?_, hm, Option.some.inj (hs.symm.trans hm'), hsup, hpass⟩
    intro Q hQ
    rcases List.mem_cons.mp hQ with rfl | hQ
    · exact L'
    · exact hL Q hQ
section ZZ
variable {p : Program} {l : Launch} {e : Env} {R : Room} {s : State} {m₀ : MethodId} {args : Array Value} {below : List Frame} {meth : Method} {c : Code} {W : State} {locs : List Loc} {cells slots : Nat}
set_option maxHeartbeats 1000000 in
theorem zz_ctorMade (X : Stand p l e R s m₀ args below meth c W locs cells slots) (hexec : p.tables.exec = Jvm.exec) (htr : e.platform.stackTraces = false) {own cls : String} {names : List String} {ic : Nat} {ix : Nat} {rx : ByteArray} (x0 : decode rx 0 = .ok (.aload_n 0, 1)) (x1 : decode rx 1 = .ok (.aload_n 1, 1)) (x2 : decode rx 2 = .ok (.invokespecial ix, 3)) (x5 : decode rx 5 = .ok (.return_, 1)) 
    (hown : s.vm.findClass own = some m₀.cls) (hcls : Bundle.fit cls = true) (hnames : ∀ n ∈ names, Bundle.fit n = true)
    (h : ∀ a ∈ zz_own own ic cls ix rx names, a.before args s = true)
    (hlocs : ∀ x ∈ locs, ∀ cell, s.heap[x.base]? = some cell → cell.vm.isStatics = false)
    {a : Addr} {cX : ClassId} {kX : Class} (hfoundX : s.vm.findClass cls = some cX) (hkX : s.vm.classes[cX]? = some kX) (hcell : W.heap[a]? = some (freshCell cX kX)) (hnew : s.heap.size ≤ a)
    {msg : Value} (hmsg : msg.isRef = true)
    {g : JFrame} (hg : g.method = m₀) (hsize : g.locals.size = c.maxLocals) {rest : List Value} (hstack : g.stack = msg :: .ref a :: .ref a :: rest)
    (hd6 : decode c.code g.pc = .ok (.invokespecial ic, 3))
    (hRframes : names.length + 3 < R.frames) (hRlocals : 2 * g.monitorRoom + ((Value.ref a :: rest).map fun v => v.category).sum + (13 * (names.length + 1) + 42) ≤ R.locals) :
    ∃ (V : State) (ce : Cell) (L : List Loc), Stand p l e R s m₀ args below meth c (V.setCell a ce) (locs ++ L) cells slots ∧ (∀ y ∈ L, y.base = a) ∧ a < V.heap.size ∧ ce.cls = cX ∧ ce.vm = .none ∧
      ∀ target, Steps p.tables e below ((V.setCell a ce).setTop { g with stack := .ref a :: rest, pc := g.pc + 3 }) target → Steps p.tables e below (W.setTop g) target := by
  have howns : e.platform.frameOwnsMonitors = true := by rw [X.admits.platform]
  have hfin : e.platform.finalization = false := by rw [X.admits.platform]
  have hpl : e.platform.magicAccessors = ({} : Platform).magicAccessors := by rw [X.admits.platform]
  have a' : ∀ x, x ∈ zz_own own ic cls ix rx names → x.holds args s none s [] = true := fun x hx => h x hx
  obtain ⟨T, Z0, L, -, Y⟩ := ThrowableC.of_atoms (args := args) howns hfin hpl (fun x hx => h x (by simp [zz_own, hx]))
  obtain ⟨Z, M, LZ, LM, hnZ⟩ := Init0T.ofS_atoms (args := args) hpl L Y (fun x hx => h x (by simp [zz_own, hx]))
  obtain ⟨P1, Ps, hlen, L1, hL, hP1m, hlink1, hlink⟩ := zz_chainS (args := args) hpl hnZ x0 x1 x2 x5 names cls hcls hnames (fun x hx => h x (by simp [zz_own, hx]))
  have hfound : s.vm.findClass cls = some P1.m.cls := findClass_of_methodNamed hP1m
  cases Option.some.inj (hfoundX.symm.trans hfound)
  obtain ⟨c1, kX', hc1, hk, hord, -, -, hn6⟩ := Cond.instantiable_spec (a' (.instantiable cls 6) (by simp [zz_own]))
  cases Option.some.inj (hc1.symm.trans hfound)
  cases Option.some.inj (hkX.symm.trans hk)
  have hsel0 : selectMethod e.platform s.vm P1.m.cls T.fill0 = .method T.fill0 := by
    obtain ⟨c2, r2, m2, q1, q2, q3, q4, -⟩ := Cond.selects_spec (a' (.selects cls Bundle.tFill0 Bundle.tFill0) (by simp [zz_own]))
    cases Option.some.inj (q1.symm.trans hfound)
    cases Option.some.inj (q2.symm.trans (State.methodFound?_of_named Y.fill0 (by decide)))
    cases Option.some.inj (q3.symm.trans Y.fill0)
    rw [Launch.admits_selectMethod X.admits]; exact q4
  have hselF : selectMethod e.platform s.vm P1.m.cls T.fill = .method T.fill := by
    obtain ⟨c2, r2, m2, q1, q2, q3, q4, -⟩ := Cond.selects_spec (a' (.selects cls Bundle.tFill Bundle.tFill) (by simp [zz_own]))
    cases Option.some.inj (q1.symm.trans hfound)
    cases Option.some.inj (q2.symm.trans (State.methodFound?_of_named Y.fill (by decide)))
    cases Option.some.inj (q3.symm.trans Y.fill)
    rw [Launch.admits_selectMethod X.admits]; exact q4
  obtain ⟨cellS0, hcS0, hiss⟩ := Y.statics
  obtain ⟨u0, hu0⟩ := Cond.staticRefV Y.unassigned L.unassignedStatic L.statics hcS0 hiss (a' (.isRef (.static Bundle.tN "UNASSIGNED_STACK" Bundle.steD)) (by simp [zz_own]))
  obtain ⟨sen, hsen⟩ := Cond.staticRefV Y.sentinel L.sentinelStatic L.statics hcS0 hiss (a' (.isRef (.static Bundle.tN "SUPPRESSED_SENTINEL" Bundle.listD)) (by simp [zz_own]))
  obtain ⟨ci198, i198, fB, hk198, hg198, ha198, hsB, -, hnB, htB, hffB⟩ := Cond.ownField (t := .object "java/lang/Object") Y.found L.cls (by decide +kernel) (a' (.fieldLink Bundle.tN 198 Bundle.tN "backtrace" "Ljava/lang/Object;") (by simp [zz_own])) (a' (.lays Bundle.tN Bundle.tN "backtrace" "Ljava/lang/Object;") (by simp [zz_own])) e.platform hpl
  obtain ⟨cellS, hcS', heS, -, hkeep⟩ := X.same.2.2.2.2.2 T.aS cellS0 hcS0
  have hcellS : W.heap[T.aS]? = some cellS := hcS'
  have hout' : ∀ i, (⟨T.aS, i⟩ : Loc) ∉ locs := fun i hmem => by
    have := hlocs _ hmem cellS0 hcS0
    rw [hiss] at this; cases this
  have hknownS : cellS.vm ≠ .unknown := by
    rw [heS]; intro hu
    rw [show cellS0.vm = .unknown from hu] at hiss
    cases hiss
  have hneS : T.aS ≠ a := Nat.ne_of_lt (Nat.lt_of_lt_of_le (Array.getElem?_eq_some_iff.mp hcS0).1 hnew)
  obtain ⟨iM, hffM⟩ := Y.msg
  obtain ⟨tyC, dC, hdC, hdnC⟩ := Cond.laysAt hfound hk Y.cause (a' (.lays cls Bundle.tN "cause" "Ljava/lang/Throwable;") (by simp [zz_own]))
  obtain ⟨tyS, dS, hdS, hdnS⟩ := Cond.laysAt hfound hk Y.stack (a' (.lays cls Bundle.tN "stackTrace" Bundle.steD) (by simp [zz_own]))
  obtain ⟨tyP, dP, hdP, hdnP⟩ := Cond.laysAt hfound hk Y.supp (a' (.lays cls Bundle.tN "suppressedExceptions" Bundle.listD) (by simp [zz_own]))
  obtain ⟨tyM, dM, hdM, hdnM⟩ := Cond.laysAt hfound hk hffM (a' (.lays cls Bundle.tN "detailMessage" "Ljava/lang/String;") (by simp [zz_own]))
  obtain ⟨tyB, dB, hdB, hdnB⟩ := Cond.laysAt hfound hk hffB (a' (.lays cls Bundle.tN "backtrace" "Ljava/lang/Object;") (by simp [zz_own]))
  have bC := Cond.laysApart hdB hdC hdnB hdnC (by rw [hnB, Y.causeName]; decide)
  have bS := Cond.laysApart hdB hdS hdnB hdnS (by rw [hnB, Y.stackName]; decide)
  have bP := Cond.laysApart hdB hdP hdnB hdnP (by rw [hnB, Y.suppName]; decide)
  have hskip : SkipFacts T e.platform s (fun u => u) u0 ((preparedCellV T.toThrowableT (freshCell P1.m.cls kX) a u0 sen).withEntry W.cur) :=
    ⟨{ ci198 := ci198, i198 := i198, fBack := fB }, ⟨hk198, hg198, ha198, hsB⟩, by
      have := fresh_default (c := P1.m.cls) tyB
      rw [htB] at this
      simpa [preparedCellV, Cell.setSlot, Cell.withEntry, Array.getElem?_setIfInBounds, bC, bS, bP, bC.symm, bS.symm, bP.symm, defaultValue] using this, fun _ _ => rfl⟩
  obtain ⟨tm, methC, cdC, kC, vm₁, hnC, -, -, -, -, -, -, -, hW₁, st1⟩ := Steps.initColdS (tb := p.tables) (e := e) (below := below) (s := s) (U := W) X.here hexec X.warmed hpl hown (t := Bundle.initS cls) rfl rfl (Bundle.fit_spec hcls).2
    (a' (.methodLink own ic (Bundle.initS cls)) (by simp [zz_own])) (h (.instanceMethod (Bundle.initS cls)) (by cases names <;> simp [zz_own, zz_chain, Bundle.passSAtoms])) (bytes := rx) (maxL := 2) (h (.code (Bundle.initS cls) rx 2 none) (by cases names <;> simp [zz_own, zz_chain, Bundle.passSAtoms]))
    (f := g) hg (a := a) (msg := msg) (rest := .ref a :: rest) hstack hd6
  cases Option.some.inj (hnC.symm.trans hP1m)
  have X₁ := X.noted hW₁
  obtain ⟨vm₂, X₂, st2⟩ := X₁.ctorMessageOffV hexec (g := { g with stack := .ref a :: rest }) hg hsize T L Z LZ M LM (P1 :: Ps)
    (fun P hP => by rcases List.mem_cons.mp hP with rfl | hP; exact L1; exact hL P hP) ⟨hlink1, hlink⟩ (u0 := u0) (sen := sen) (self := a) hmsg (cell := freshCell P1.m.cls kX) (cellS := cellS)
    hcell (fun _ => by simp) (by simp) rfl rfl hsel0 hselF hcellS hneS hknownS (by rw [hkeep _ (hout' _)]; exact hu0) (by rw [hkeep _ (hout' _)]; exact hsen)
    (Takes.of_laid hk hord tyC (by rw [Y.causeType]; rfl)) (Takes.of_laid hk hord tyS (by rw [Y.stackType]; exact fits_refV_array _ u0)) (Takes.of_laid hk hord tyP (by rw [Y.suppType]; exact fits_refV_object _ sen))
    (Takes.of_laid hk hord tyM (by rw [Y.msgType]; exact fits_refV_object _ ⟨msg, hmsg⟩)) Y.objLocals hskip htr [] hd6
    (by simp only [List.length_cons, hlen]; omega) (by simp only [List.length_cons, hlen]; exact hRlocals)
  have hlt : a < ((W.setVm vm₁).setVm vm₂).heap.size := (Array.getElem?_eq_some_iff.mp hcell).1
  refine ⟨(W.setVm vm₁).setVm vm₂, _, _, X₂, fun y hy => ?_, hlt, rfl, rfl, fun target hwalk => st1 _ (fun acts => ?_)⟩
  · simp only [List.mem_cons, List.not_mem_nil, or_false] at hy
    rcases hy with rfl | rfl | rfl | rfl | rfl <;> rfl
  · rw [doInvoke_state]
    exact st2 _ hwalk
end ZZ
section ZY
variable {p : Program} {l : Launch} {e : Env} {R : Room} {s : State} {m : MethodId} {args : Array Value} {below : List Frame} {meth : Method} {c : Code} {H : Heap} {locs : List Loc} {cells slots : Nat} {Q : State → Prop}
variable {ls : Array Slot} {rest : List Value}
theorem vx_back9 {T S : State} {R' : Room} {k n : Nat} (X : Stand p l e R s m args below meth c T locs cells slots) (Y : Stand p l e R' ((T.setVm s.vm).setFrames (.invoking m args :: below)) m args below meth c T [] 0 0) (Z : Stand p l e R' ((T.setVm s.vm).setFrames (.invoking m args :: below)) m args below meth c S [] k n) :
    Stand p l e R s m args below meth c S locs (cells + k) (slots + n) := by
  have hW0 : s.WarmedH ((T.setVm s.vm).setFrames (.invoking m args :: below)).vm := State.WarmedH.refl s
  refine { admits := X.admits, cas := X.cas, clock := X.clock, frames := X.frames, room := X.room, hears := X.hears, method := X.method, code := X.code, here := Z.here, tail := Z.tail, warmed := State.WarmedH.trans hW0 Z.warmed, limits := Z.limits.trans (Y.limits.symm.trans X.limits), bytes := Z.bytes.trans (Y.bytes.symm.trans X.bytes), same := ?_ }
  obtain ⟨e1, e2⟩ := Z.same
  rw [State.setFrames_setFrames] at e1
  have h2 : (T.setVm s.vm).sameButNew (S.setVm s.vm) [] k n := ⟨e1, e2⟩
  have h3 := X.same.trans h2
  rw [List.append_nil] at h3
  exact h3
theorem vx_athrow {cc : ByteArray} {pc : Nat} (hexec : p.tables.exec = Jvm.exec) (hb : c.code = cc) {q : Addr} (hdg : decode cc pc = .ok (.athrow, 1)) (k : vx_W p l e R s m args below meth c H locs cells slots Q (F0 m pc ls rest) q) : W p l e R s m args below meth c H locs cells slots Q (F0 m pc ls (.ref q :: rest)) := by
  intro T hT X
  obtain ⟨t, st, hq⟩ := k T hT X
  refine ⟨t, ?_, hq⟩
  have hdg' : decode c.code pc = .ok (.athrow, 1) := by rw [hb]; exact hdg
  jvm_step X.here [X.here.top, hexec, hdg', athrow.wp_sem]
  exact st
theorem zz_make {cc : ByteArray} {pc : Nat} (hexec : p.tables.exec = Jvm.exec) (hb : c.code = cc) (hl : l.stackTraces = false) {own cls text : String} {names : List String} {ik is ic sa : Nat} {A : Nat → Prop} {ix : Nat} {rx : ByteArray} (x0 : decode rx 0 = .ok (.aload_n 0, 1)) (x1 : decode rx 1 = .ok (.aload_n 1, 1)) (x2 : decode rx 2 = .ok (.invokespecial ix, 3)) (x5 : decode rx 5 = .ok (.return_, 1)) 
    (hown : s.vm.findClass own = some m.cls) (hcls : Bundle.fit cls = true) (hnames : ∀ n ∈ names, Bundle.fit n = true)
    (hk : (Cond.classLink own ik cls).before args s = true) (hini : (Cond.initialized cls).before args s = true) (hstr : vk_R own is text sa s) (hat : ∀ w ∈ zz_at own ic cls ix rx names, w.before args s = true)
    (hgood : ∀ w ∈ Cond.classLink own ik cls :: Cond.initialized cls :: zz_at own ic cls ix rx names, vx_ot w = true)
    (hU : vx_Zq Bundle.tN "UNASSIGNED_STACK" Bundle.steD A s s.heap) (hN : vx_Zq Bundle.tN "SUPPRESSED_SENTINEL" Bundle.listD A s s.heap) (hS : va_S A s.heap H locs) (hsize : ls.size = c.maxLocals)
    (d0 : decode cc pc = .ok (.new ik, 3)) (d3 : decode cc (pc + 3) = .ok (.dup, 1)) (d4 : decode cc (pc + 4) = .ok (.ldc is, 2)) (d6 : decode cc (pc + 6) = .ok (.invokespecial ic, 3))
    (hRframes : names.length + 3 < R.frames) (hRlocals : (rest.map fun v => v.category).sum + (13 * (names.length + 1) + 43) ≤ R.locals) (hRcells : cells + 1 ≤ R.cells) (hRslots : slots + 6 ≤ R.slots)
    (kk : ∀ (q : Nat) (H1 : Heap) (ce : Cell), H1[q]? = some ce → ce.vm = .none → s.vm.findClass cls = some ce.cls → H.size ≤ H1.size → (∀ z : Nat, z < H.size → H1[z]? = H[z]?) → W p l e R s m args below meth c H1 locs (cells + 1) (slots + 6) Q (F0 m (pc + 9) ls (.ref q :: rest))) :
    W p l e R s m args below meth c H locs cells slots Q (F0 m pc ls rest) := by
  intro T hT X
  subst hT
  have htr : e.platform.stackTraces = false := (show e.platform.stackTraces = l.stackTraces by rw [X.admits.platform]).trans hl
  have Y := vx_rebase X (R' := { frames := R.frames, locals := R.locals, cells := 1, slots := 6 }) (Nat.le_refl _) (Nat.le_refl _) hRcells hRslots
  obtain ⟨s', hA'⟩ : ∃ z, z = (T.setVm s.vm).setFrames (.invoking m args :: below) := ⟨_, rfl⟩
  rw [← hA'] at Y
  have hvm : s'.vm = s.vm := by rw [hA']; rfl
  have hhp : s'.heap = T.heap := by rw [hA']; rfl
  have hW0 : s.WarmedH s'.vm := by rw [hvm]; exact State.WarmedH.refl s
  have hat' : ∀ w ∈ zz_at own ic cls ix rx names, w.before args s' = true := fun w hw => vx_ot_at hW0 hvm.symm (hgood w (List.mem_cons_of_mem _ (List.mem_cons_of_mem _ hw))) (hat w hw)
  have hk' : (Cond.classLink own ik cls).before args s' = true := vx_ot_at hW0 hvm.symm (hgood _ List.mem_cons_self) hk
  have hini' : (Cond.initialized cls).before args s' = true := vx_ot_at hW0 hvm.symm (hgood _ (List.mem_cons_of_mem _ List.mem_cons_self)) hini
  have hU' : vx_Zq Bundle.tN "UNASSIGNED_STACK" Bundle.steD A s' s'.heap := by rw [hhp]; exact vx_Zq.moved hW0.alike (hU.kept hS.2.1)
  have hN' : vx_Zq Bundle.tN "SUPPRESSED_SENTINEL" Bundle.listD A s' s'.heap := by rw [hhp]; exact vx_Zq.moved hW0.alike (hN.kept hS.2.1)
  have h : ∀ w ∈ zz_own own ic cls ix rx names, w.before args s' = true := vx_own hat' (vx_isRefq hU'.1) (vx_isRefq hN'.1) hU'.2.word hN'.2.word
  have hown' : s'.vm.findClass own = some m.cls := by rw [hvm]; exact hown
  have hins : (Cond.instantiable cls 6).before args s' = true := h _ (by simp [zz_own])
  obtain ⟨vm₁, cX, kX, hfX, hkX, -, -, X₁, st1⟩ := Y.newCold hexec (own := own) (C := cls) (index := ik) (n := 6) hown' hk' hins hini'
    (g := F0 m pc ls rest) rfl (by rw [hb]; exact d0) (Nat.le_refl _) (Nat.le_refl _)
  generalize hT1 : (T.setVm vm₁).pushCell { cls := cX, slots := kX.instanceTypes.map defaultValue, vm := .none } = T1 at X₁ st1
  have hcat : (Value.ref T.heap.size).category = 1 := rfl
  have hcellA : T1.heap[T.heap.size]? = some (freshCell cX kX) := by rw [← hT1]; exact State.heap_pushCell_size _ _
  have d3' : decode c.code (pc + 3) = .ok (.dup, 1) := by rw [hb]; exact d3
  have d4' : decode c.code (pc + 4) = .ok (.ldc is, 2) := by rw [hb]; exact d4
  have hstr' : vk_R own is text sa s' := vk_R.warm hW0 hstr
  obtain ⟨V, ce, L, Z, hL, hlt, hcl9, hvm9, st⟩ := zz_ctorMade X₁ hexec htr x0 x1 x2 x5 (own := own) (cls := cls) (names := names) (ic := ic) hown' hcls hnames h (fun x hx => nomatch hx) hfX hkX hcellA (by rw [hhp]; exact Nat.le_refl _) (msg := .ref sa) rfl
    (g := { method := m, pc := pc + 6, locals := ls, stack := .ref sa :: .ref T.heap.size :: .ref T.heap.size :: rest, locked := none }) rfl hsize (rest := rest) rfl
    (by rw [hb]; exact d6) hRframes (by simp only [List.map_cons, List.sum_cons, hcat]; omega)
  have Z0 := Stand.forget (locs := []) Z (fun y hy => by rw [hL y hy, hhp]; exact Nat.le_refl _)
  obtain ⟨f1, f2⟩ := vx_frame Z0.same
  rw [hhp] at f1 f2
  have hfc : s.vm.findClass cls = some ce.cls := by
    rw [hcl9]
    rw [hvm] at hfX
    exact hfX
  have hh : (V.setCell T.heap.size ce).heap[T.heap.size]? = some ce := heapAt_setCell_self (s := V) ce hlt
  subst hA'
  have X5 := vx_back9 X Y Z0
  have X6 : Stand p l e R s m args below meth c (V.setCell T.heap.size ce) locs (cells + 1) (slots + 6) := { X5 with same := X5.same.mono (by omega) (by omega) }
  obtain ⟨t, a1, b1⟩ := kk T.heap.size (V.setCell T.heap.size ce).heap ce hh hvm9 hfc f1 (fun z hz => f2 z hz (fun y hy => nomatch hy)) _ rfl X6
  refine ⟨t, st1 _ ?_, b1⟩
  show Steps p.tables e below (T1.setTop { method := m, pc := pc + 3, locals := ls, stack := .ref T.heap.size :: rest, locked := none }) _
  jvm_step X₁.here [X₁.here.top, hexec, d3', Value.category]
  exact X₁.ldcString hexec (own := own) (text := text) (index := is) (a := sa) hown' hstr'.1 hstr'.2
    (g := { method := m, pc := pc + 4, locals := ls, stack := .ref T.heap.size :: .ref T.heap.size :: rest, locked := none }) rfl d4' _ (st _ a1)
end ZY
def thX (own : String) (ik ic : Nat) (cls : String) (ix : Nat) (rx : ByteArray) : Prop := Cond.classLink own ik cls ∈ WG ∧ Cond.initialized cls ∈ WG ∧ (∀ w ∈ (zz_at own ic cls ix rx ["java/lang/RuntimeException", "java/lang/Exception"]).filter goodWord, w ∈ WG) ∧ (∀ w ∈ (zz_at own ic cls ix rx ["java/lang/RuntimeException", "java/lang/Exception"]).filter (fun w => !goodWord w), w ∈ Cond.castable cls cls :: eDecl.map Cond.declares) ∧ (cls, cls) ∈ eCast ∧ (∀ w ∈ Cond.classLink own ik cls :: Cond.initialized cls :: zz_at own ic cls ix rx ["java/lang/RuntimeException", "java/lang/Exception"], vx_ot w = true) ∧ Bundle.fit cls = true
theorem thN : thX RX6 181 185 "java/util/NoSuchElementException" 13 prog_20_method_4_code := ⟨cl_X6_181, mW 51 (by decide +kernel) rfl, mWs (by decide +kernel) (by decide +kernel), (by decide +kernel), (by decide +kernel), (by decide +kernel), (by decide +kernel)⟩
section ZK
variable {p : Program} {l : Launch} {e : Env} {R : Room} {s : State} {m : MethodId} {args : Array Value} {below : List Frame} {meth : Method} {c : Code} {cc : ByteArray} {own : String} {nL : Nat} {G : gG} {B0 : Nat} {Q : State → Prop} {pc pc' : Nat} {L L' : List (Nat × Value)} {st rest : List Value} {w w' : va_W} {cs ss : Nat}
theorem xe_throwX (C : CX p s m args meth c cc own nL G B0) {SX : Type} {pX : String → SX → Prop} {WX : SX → va_W} {mc ms ik is ic ix : Nat} {rx : ByteArray} {text cls : String} {Qc : Array Value → State → Outcome → State → Prop} (hl0 : l.stackTraces = false) (T : thX own ik ic cls ix rx) (x0 : decode rx 0 = .ok (.aload_n 0, 1)) (x1 : decode rx 1 = .ok (.aload_n 1, 1)) (x2 : decode rx 2 = .ok (.invokespecial ix, 3)) (x5 : decode rx 5 = .ok (.return_, 1)) (hno : ∀ x ∈ c.exceptionTable.toList, False) (hstr : (own, is, text) ∈ eStr) (d0 : decode cc pc = .ok (.new ik, 3)) (d3 : decode cc (pc + 3) = .ok (.dup, 1)) (d4 : decode cc (pc + 4) = .ok (.ldc is, 2)) (d6 : decode cc (pc + 6) = .ok (.invokespecial ic, 3)) (d9 : decode cc (pc + 9) = .ok (.athrow, 1)) (u : SX) (hw : WX u = w) (hp : pX cls u) (hf : 6 ≤ R.frames) (hlo : (st.map fun v => v.category).sum + 82 ≤ R.locals) (hcc : cs + 1 ≤ R.cells) (hss : ss + 6 ≤ R.slots) (hc : cs + 1 ≤ mc) (hs : ss + 6 ≤ ms) : YY p l e R s m args below meth c G B0 nL (vy_MQ below Qc (vx_X (fun _ : SX => True) (fun (E : String) (u : SX) (t : State) => pX E u ∧ va_P G.1 vwCl (WX u) t.heap ∧ va_D (fun q => B0 ≤ q) (WX u)) (fun q => B0 ≤ q)) args s mc ms (fun q => B0 ≤ q)) (pc) (L) (st) (w) (cs) (ss) := by
  subst hw
  intro H locs ls hl hP hD hS
  obtain ⟨a, ha⟩ := C.2.2.2.2.2.2.1.2.2.1 _ hstr
  refine zz_make (names := ["java/lang/RuntimeException", "java/lang/Exception"]) (A := fun q => B0 ≤ q) C.1 C.2.1 hl0 x0 x1 x2 x5 C.2.2.2.1 T.2.2.2.2.2.2 (by decide +kernel) (C.2.2.2.2.1 _ T.1) (C.2.2.2.2.1 _ T.2.1) ha (vx_hat (fun w hw => C.2.2.2.2.1 _ (T.2.2.1 w hw)) (B := Cond.castable cls cls :: eDecl.map Cond.declares) (fun w hw => T.2.2.2.1 w hw) (vx_c (va_Nw.use rfl (C.2.2.2.2.2.2.1.2.2.2.2.1 _ T.2.2.2.2.1)) (fun w hw => by obtain ⟨y, hy, rfl⟩ := List.mem_map.mp hw; exact va_Nw.use rfl (C.2.2.2.2.2.2.1.2.2.2.2.2.2 _ hy)))) T.2.2.2.2.2.1 C.2.2.2.2.2.2.1.1 C.2.2.2.2.2.2.1.2.1 hS (hl.1.trans C.2.2.1.symm) d0 d3 d4 d6 hf hlo hcc hss (fun q H1 ce h1 h2 h3 hz hk => ?_)
  refine vx_athrow C.1 C.2.1 d9 ?_
  refine vy_out (fun x hx => (hno x hx).elim) C.2.2.2.2.2.2.2.2 h1 h2 h3 (fun t ht hW => ?_) hS.2.2 hc hs
  subst ht
  refine ⟨u, trivial, ⟨hp, hP.kept (fun k q hq => hk q.1 (hP k q hq).lt), hD⟩, Nat.le_trans hS.1 hz, fun q h1 h2 => ?_⟩
  rw [hk q (Nat.lt_of_lt_of_le h1 hS.1)]
  exact hS.2.1 q h1 h2
end ZK
end
