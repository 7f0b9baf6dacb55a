theorem ge5 {i n : Nat} (hi : i < 2 ^ 30) (hn : n ≤ 2560) (h : ¬ (nI n - nI 5 < nI i)) : i + 5 ≤ n := by
  by_cases h5 : 5 ≤ n
  · rw [pk_sub h5, nI_ltI (by omega) (by omega)] at h
    omega
  · exfalso
    apply h
    have h0 : nI n - nI 5 < 0 := by
      have h6 : n = 0 ∨ n = 1 ∨ n = 2 ∨ n = 3 ∨ n = 4 := by omega
      rcases h6 with rfl | rfl | rfl | rfl | rfl <;> decide
    rw [Int32.lt_iff_toInt_lt] at h0 ⊢
    rw [nI_toInt (by omega)]
    have h7 : ((0 : Int32)).toInt = 0 := by decide
    rw [h7] at h0
    omega
set_option maxHeartbeats 4000000 in
theorem law_switch (op_addDocument : Op_addDocument) (op_addLine : Op_addLine) (op_rescan : Op_rescan) (op_documentOf : Op_documentOf) (op_indexOf : Op_indexOf) (op_lines : Op_lines) (op_addRule : Op_addRule) (op_addSpan : Op_addSpan) (op_lift : Op_lift) (op_isHidden : Op_isHidden) (op_hidden : Op_hidden) (op_addJoin : Op_addJoin) (op_holds : Op_holds) (op_holdsByLog : Op_holdsByLog) (op_held : Op_held) (op_given : Op_given) (op_holders : Op_holders) (op_why : Op_why) (op_root : Op_root) (op_causes : Op_causes) (op_request : Op_request) (op_state : Op_state) (op_answer : Op_answer) (op_withdraw : Op_withdraw) (op_setPrice : Op_setPrice) (op_owed : Op_owed) (op_pay : Op_pay) (op_pass : Op_pass) (op_day : Op_day) (op_late : Op_late) (op_fees : Op_fees) (op_answeredShare : Op_answeredShare) {p : Program} {l : Launch} (hl0 : l.stackTraces = false) {e : Env} {s : State} {m : MethodId} {args : Array Value} {below : List Frame} {meth : Method} {c : Code} {G : gG} {B0 : Nat} {Q : State → Prop} (C : CX p s m args meth c cL_law RL 8 G B0) {b L0 : Nat} {xs : Nat → Int32} (hX : va_X b L0 xs s s.heap) (hbl : b < s.heap.size) (hbB : b < B0) (hL : L0 ≤ 2560) {i : Nat} (hi : i + 5 ≤ L0) {ad bd : Nat → Nat} {o1 o2 cs ss : Nat} {S : SA} {M : SM} {fo : Nat → Int64} {fd : Nat → UInt64} (hR : Rel S M) (hcs : cs + 1 ≤ room_1.cells) (hss : ss + 6 ≤ room_1.slots) (K : ∀ (S' : SA) (M' : SM) (fo' : Nat → Int64) (fd' : Nat → UInt64) (cs' ss' : Nat), cs' ≤ cs + 1 → ss' ≤ ss + 6 → Rel S' M' → YY p l e room_1 s m args below meth c G B0 8 Q 2020 [(5, .int (nI i)), (0, .ref (b)), (1, .ref (ad 0)), (2, .ref (bd 0)), (3, .ref (o1)), (4, .ref (o2))] [] (w1L G ad bd o1 o2 S' M' fo' fd') cs' ss') {j : Nat} (hj : j < 32) : YY p l e room_1 s m args below meth c G B0 8 Q 44 [(5, .int (nI i)), (0, .ref (b)), (1, .ref (ad 0)), (2, .ref (bd 0)), (3, .ref (o1)), (4, .ref (o2))] [.int (nI j)] (w1L G ad bd o1 o2 S M fo fd) cs ss := by
  by_cases h0 : j = 0
  · subst h0
    refine yy_tab C (tgt := 188) (off := 144) dL_law_44 (by decide) (by decide) rfl (by decide) ?_
    exact law_0 op_addDocument hl0 C hX hbl hbB hL hi hR hcs hss (fun S' M' fo' fd' h => K S' M' fo' fd' (cs + 1) (ss + 6) (Nat.le_refl _) (Nat.le_refl _) h)
  by_cases h1 : j = 1
  · subst h1
    refine yy_tab C (tgt := 232) (off := 188) dL_law_44 (by decide) (by decide) rfl (by decide) ?_
    exact law_1 op_addLine hl0 C hX hbl hbB hL hi hR hcs hss (fun S' M' fo' fd' h => K S' M' fo' fd' (cs + 1) (ss + 6) (Nat.le_refl _) (Nat.le_refl _) h)
  by_cases h2 : j = 2
  · subst h2
    refine yy_tab C (tgt := 300) (off := 256) dL_law_44 (by decide) (by decide) rfl (by decide) ?_
    exact law_2 op_rescan hl0 C hX hbl hbB hL hi hR hcs hss (fun S' M' fo' fd' h => K S' M' fo' fd' (cs + 1) (ss + 6) (Nat.le_refl _) (Nat.le_refl _) h)
  by_cases h3 : j = 3
  · subst h3
    refine yy_tab C (tgt := 368) (off := 324) dL_law_44 (by decide) (by decide) rfl (by decide) ?_
    exact law_3 op_documentOf hl0 C hX hbl hbB hL hi hR hcs hss (fun S' M' fo' fd' h => K S' M' fo' fd' (cs + 1) (ss + 6) (Nat.le_refl _) (Nat.le_refl _) h)
  by_cases h4 : j = 4
  · subst h4
    refine yy_tab C (tgt := 424) (off := 380) dL_law_44 (by decide) (by decide) rfl (by decide) ?_
    exact law_4 op_indexOf hl0 C hX hbl hbB hL hi hR hcs hss (fun S' M' fo' fd' h => K S' M' fo' fd' (cs + 1) (ss + 6) (Nat.le_refl _) (Nat.le_refl _) h)
  by_cases h5 : j = 5
  · subst h5
    refine yy_tab C (tgt := 480) (off := 436) dL_law_44 (by decide) (by decide) rfl (by decide) ?_
    exact law_5 op_lines hl0 C hX hbl hbB hL hi hR hcs hss (fun S' M' fo' fd' h => K S' M' fo' fd' (cs + 1) (ss + 6) (Nat.le_refl _) (Nat.le_refl _) h)
  by_cases h6 : j = 6
  · subst h6
    refine yy_tab C (tgt := 536) (off := 492) dL_law_44 (by decide) (by decide) rfl (by decide) ?_
    exact law_6 op_addRule hl0 C hX hbl hbB hL hi hR hcs hss (fun S' M' fo' fd' h => K S' M' fo' fd' (cs + 1) (ss + 6) (Nat.le_refl _) (Nat.le_refl _) h)
  by_cases h7 : j = 7
  · subst h7
    refine yy_tab C (tgt := 616) (off := 572) dL_law_44 (by decide) (by decide) rfl (by decide) ?_
    exact law_7 op_addSpan hl0 C hX hbl hbB hL hi hR hcs hss (fun S' M' fo' fd' h => K S' M' fo' fd' (cs + 1) (ss + 6) (Nat.le_refl _) (Nat.le_refl _) h)
  by_cases h8 : j = 8
  · subst h8
    refine yy_tab C (tgt := 708) (off := 664) dL_law_44 (by decide) (by decide) rfl (by decide) ?_
    exact law_8 op_lift hl0 C hX hbl hbB hL hi hR hcs hss (fun S' M' fo' fd' h => K S' M' fo' fd' (cs + 1) (ss + 6) (Nat.le_refl _) (Nat.le_refl _) h)
  by_cases h9 : j = 9
  · subst h9
    refine yy_tab C (tgt := 764) (off := 720) dL_law_44 (by decide) (by decide) rfl (by decide) ?_
    exact law_9 op_isHidden hl0 C hX hbl hbB hL hi hR hcs hss (fun S' M' fo' fd' h => K S' M' fo' fd' (cs + 1) (ss + 6) (Nat.le_refl _) (Nat.le_refl _) h)
  by_cases h10 : j = 10
  · subst h10
    refine yy_tab C (tgt := 827) (off := 783) dL_law_44 (by decide) (by decide) rfl (by decide) ?_
    exact law_10 op_hidden hl0 C hX hbl hbB hL hi hR hcs hss (fun S' M' fo' fd' h => K S' M' fo' fd' cs ss (by omega) (by omega) h)
  by_cases h11 : j = 11
  · subst h11
    refine yy_tab C (tgt := 840) (off := 796) dL_law_44 (by decide) (by decide) rfl (by decide) ?_
    exact law_11 op_addJoin hl0 C hX hbl hbB hL hi hR hcs hss (fun S' M' fo' fd' h => K S' M' fo' fd' (cs + 1) (ss + 6) (Nat.le_refl _) (Nat.le_refl _) h)
  by_cases h12 : j = 12
  · subst h12
    refine yy_tab C (tgt := 920) (off := 876) dL_law_44 (by decide) (by decide) rfl (by decide) ?_
    exact law_12 op_holds hl0 C hX hbl hbB hL hi hR hcs hss (fun S' M' fo' fd' h => K S' M' fo' fd' (cs + 1) (ss + 6) (Nat.le_refl _) (Nat.le_refl _) h)
  by_cases h13 : j = 13
  · subst h13
    refine yy_tab C (tgt := 995) (off := 951) dL_law_44 (by decide) (by decide) rfl (by decide) ?_
    exact law_13 op_holdsByLog hl0 C hX hbl hbB hL hi hR hcs hss (fun S' M' fo' fd' h => K S' M' fo' fd' (cs + 1) (ss + 6) (Nat.le_refl _) (Nat.le_refl _) h)
  by_cases h14 : j = 14
  · subst h14
    refine yy_tab C (tgt := 1070) (off := 1026) dL_law_44 (by decide) (by decide) rfl (by decide) ?_
    exact law_14 op_held hl0 C hX hbl hbB hL hi hR hcs hss (fun S' M' fo' fd' h => K S' M' fo' fd' (cs + 1) (ss + 6) (Nat.le_refl _) (Nat.le_refl _) h)
  by_cases h15 : j = 15
  · subst h15
    refine yy_tab C (tgt := 1126) (off := 1082) dL_law_44 (by decide) (by decide) rfl (by decide) ?_
    exact law_15 op_given hl0 C hX hbl hbB hL hi hR hcs hss (fun S' M' fo' fd' h => K S' M' fo' fd' (cs + 1) (ss + 6) (Nat.le_refl _) (Nat.le_refl _) h)
  by_cases h16 : j = 16
  · subst h16
    refine yy_tab C (tgt := 1182) (off := 1138) dL_law_44 (by decide) (by decide) rfl (by decide) ?_
    exact law_16 op_holders hl0 C hX hbl hbB hL hi hR hcs hss (fun S' M' fo' fd' h => K S' M' fo' fd' (cs + 1) (ss + 6) (Nat.le_refl _) (Nat.le_refl _) h)
  by_cases h17 : j = 17
  · subst h17
    refine yy_tab C (tgt := 1238) (off := 1194) dL_law_44 (by decide) (by decide) rfl (by decide) ?_
    exact law_17 op_why hl0 C hX hbl hbB hL hi hR hcs hss (fun S' M' fo' fd' h => K S' M' fo' fd' (cs + 1) (ss + 6) (Nat.le_refl _) (Nat.le_refl _) h)
  by_cases h18 : j = 18
  · subst h18
    refine yy_tab C (tgt := 1306) (off := 1262) dL_law_44 (by decide) (by decide) rfl (by decide) ?_
    exact law_18 op_root hl0 C hX hbl hbB hL hi hR hcs hss (fun S' M' fo' fd' h => K S' M' fo' fd' (cs + 1) (ss + 6) (Nat.le_refl _) (Nat.le_refl _) h)
  by_cases h19 : j = 19
  · subst h19
    refine yy_tab C (tgt := 1374) (off := 1330) dL_law_44 (by decide) (by decide) rfl (by decide) ?_
    exact law_19 op_causes hl0 C hX hbl hbB hL hi hR hcs hss (fun S' M' fo' fd' h => K S' M' fo' fd' (cs + 1) (ss + 6) (Nat.le_refl _) (Nat.le_refl _) h)
  by_cases h20 : j = 20
  · subst h20
    refine yy_tab C (tgt := 1442) (off := 1398) dL_law_44 (by decide) (by decide) rfl (by decide) ?_
    exact law_20 op_request hl0 C hX hbl hbB hL hi hR hcs hss (fun S' M' fo' fd' h => K S' M' fo' fd' (cs + 1) (ss + 6) (Nat.le_refl _) (Nat.le_refl _) h)
  by_cases h21 : j = 21
  · subst h21
    refine yy_tab C (tgt := 1510) (off := 1466) dL_law_44 (by decide) (by decide) rfl (by decide) ?_
    exact law_21 op_state hl0 C hX hbl hbB hL hi hR hcs hss (fun S' M' fo' fd' h => K S' M' fo' fd' (cs + 1) (ss + 6) (Nat.le_refl _) (Nat.le_refl _) h)
  by_cases h22 : j = 22
  · subst h22
    refine yy_tab C (tgt := 1566) (off := 1522) dL_law_44 (by decide) (by decide) rfl (by decide) ?_
    exact law_22 op_answer hl0 C hX hbl hbB hL hi hR hcs hss (fun S' M' fo' fd' h => K S' M' fo' fd' (cs + 1) (ss + 6) (Nat.le_refl _) (Nat.le_refl _) h)
  by_cases h23 : j = 23
  · subst h23
    refine yy_tab C (tgt := 1622) (off := 1578) dL_law_44 (by decide) (by decide) rfl (by decide) ?_
    exact law_23 op_withdraw hl0 C hX hbl hbB hL hi hR hcs hss (fun S' M' fo' fd' h => K S' M' fo' fd' (cs + 1) (ss + 6) (Nat.le_refl _) (Nat.le_refl _) h)
  by_cases h24 : j = 24
  · subst h24
    refine yy_tab C (tgt := 1678) (off := 1634) dL_law_44 (by decide) (by decide) rfl (by decide) ?_
    exact law_24 op_setPrice hl0 C hX hbl hbB hL hi hR hcs hss (fun S' M' fo' fd' h => K S' M' fo' fd' (cs + 1) (ss + 6) (Nat.le_refl _) (Nat.le_refl _) h)
  by_cases h25 : j = 25
  · subst h25
    refine yy_tab C (tgt := 1734) (off := 1690) dL_law_44 (by decide) (by decide) rfl (by decide) ?_
    exact law_25 op_owed hl0 C hX hbl hbB hL hi hR hcs hss (fun S' M' fo' fd' h => K S' M' fo' fd' (cs + 1) (ss + 6) (Nat.le_refl _) (Nat.le_refl _) h)
  by_cases h26 : j = 26
  · subst h26
    refine yy_tab C (tgt := 1790) (off := 1746) dL_law_44 (by decide) (by decide) rfl (by decide) ?_
    exact law_26 op_pay hl0 C hX hbl hbB hL hi hR hcs hss (fun S' M' fo' fd' h => K S' M' fo' fd' (cs + 1) (ss + 6) (Nat.le_refl _) (Nat.le_refl _) h)
  by_cases h27 : j = 27
  · subst h27
    refine yy_tab C (tgt := 1858) (off := 1814) dL_law_44 (by decide) (by decide) rfl (by decide) ?_
    exact law_27 op_pass hl0 C hX hbl hbB hL hi hR hcs hss (fun S' M' fo' fd' h => K S' M' fo' fd' (cs + 1) (ss + 6) (Nat.le_refl _) (Nat.le_refl _) h)
  by_cases h28 : j = 28
  · subst h28
    refine yy_tab C (tgt := 1914) (off := 1870) dL_law_44 (by decide) (by decide) rfl (by decide) ?_
    exact law_28 op_day hl0 C hX hbl hbB hL hi hR hcs hss (fun S' M' fo' fd' h => K S' M' fo' fd' cs ss (by omega) (by omega) h)
  by_cases h29 : j = 29
  · subst h29
    refine yy_tab C (tgt := 1927) (off := 1883) dL_law_44 (by decide) (by decide) rfl (by decide) ?_
    exact law_29 op_late hl0 C hX hbl hbB hL hi hR hcs hss (fun S' M' fo' fd' h => K S' M' fo' fd' cs ss (by omega) (by omega) h)
  by_cases h30 : j = 30
  · subst h30
    refine yy_tab C (tgt := 1940) (off := 1896) dL_law_44 (by decide) (by decide) rfl (by decide) ?_
    exact law_30 op_fees hl0 C hX hbl hbB hL hi hR hcs hss (fun S' M' fo' fd' h => K S' M' fo' fd' cs ss (by omega) (by omega) h)
  obtain rfl : j = 31 := by omega
  refine yy_tab C (tgt := 1954) (off := 1910) dL_law_44 (by decide) (by decide) rfl (by decide) ?_
  exact law_31 op_answeredShare hl0 C hX hbl hbB hL hi hR hcs hss (fun S' M' fo' fd' h => K S' M' fo' fd' (cs + 1) (ss + 6) (Nat.le_refl _) (Nat.le_refl _) h)
set_option maxHeartbeats 4000000 in
theorem law_loop (op_addDocument : Op_addDocument) (op_addLine : Op_addLine) (op_rescan : Op_rescan) (op_documentOf : Op_documentOf) (op_indexOf : Op_indexOf) (op_lines : Op_lines) (op_addRule : Op_addRule) (op_addSpan : Op_addSpan) (op_lift : Op_lift) (op_isHidden : Op_isHidden) (op_hidden : Op_hidden) (op_addJoin : Op_addJoin) (op_holds : Op_holds) (op_holdsByLog : Op_holdsByLog) (op_held : Op_held) (op_given : Op_given) (op_holders : Op_holders) (op_why : Op_why) (op_root : Op_root) (op_causes : Op_causes) (op_request : Op_request) (op_state : Op_state) (op_answer : Op_answer) (op_withdraw : Op_withdraw) (op_setPrice : Op_setPrice) (op_owed : Op_owed) (op_pay : Op_pay) (op_pass : Op_pass) (op_day : Op_day) (op_late : Op_late) (op_fees : Op_fees) (op_answeredShare : Op_answeredShare) {p : Program} {l : Launch} (hl0 : l.stackTraces = false) {e : Env} {s : State} {m : MethodId} {args : Array Value} {below : List Frame} {meth : Method} {c : Code} {G : gG} {B0 : Nat} {Q : State → Prop} (C : CX p s m args meth c cL_law RL 8 G B0) {b L0 : Nat} {xs : Nat → Int32} (hX : va_X b L0 xs s s.heap) (hbl : b < s.heap.size) (hbB : b < B0) (hL : L0 ≤ 2560) {ad bd : Nat → Nat} {o1 o2 : Nat} (KE : ∀ (S : SA) (M : SM) (fo : Nat → Int64) (fd : Nat → UInt64) (i cs ss : Nat), cs ≤ 1103 → ss ≤ 9658 → YY p l e room_1 s m args below meth c G B0 8 Q 2026 [(5, .int (nI i)), (0, .ref (b)), (1, .ref (ad 0)), (2, .ref (bd 0)), (3, .ref (o1)), (4, .ref (o2))] [] (w1L G ad bd o1 o2 S M fo fd) cs ss) : ∀ (n : Nat) (i : Nat) (S : SA) (M : SM) (fo : Nat → Int64) (fd : Nat → UInt64) (cs ss : Nat), Rel S M → i ≤ 2560 → 2560 - i < n → cs + (2560 - i) / 5 ≤ 1103 → ss + 6 * ((2560 - i) / 5) ≤ 9658 → YY p l e room_1 s m args below meth c G B0 8 Q 28 [(5, .int (nI i)), (0, .ref (b)), (1, .ref (ad 0)), (2, .ref (bd 0)), (3, .ref (o1)), (4, .ref (o2))] [] (w1L G ad bd o1 o2 S M fo fd) cs ss := by
  intro n
  induction n with
  | zero => intro i S M fo fd cs ss _ _ h; exact absurd h (Nat.not_lt_zero _)
  | succ n ih =>
    intro i S M fo fd cs ss hR hi0 hn hcs hss
    refine yy_iload C 0 dL_law_28 (pc' := 30) rfl rfl ?_
    refine yy_aload_n C 1 dL_law_30 (pc' := 31) rfl rfl rfl ?_
    refine yy_slen C hX hbl hbB dL_law_31 (pc' := 32) rfl ?_
    refine yy_iconst C (v := nI 5) dL_law_32 (pc' := 33) rfl (by decide) ?_
    refine yy_isub C (v := nI L0 - nI 5) dL_law_33 (pc' := 34) rfl rfl ?_
    refine yy_icmp_gt C dL_law_34 (pc' := 37) rfl (tgt := 2026) (by decide) (fun _ => ?_) (fun hc => ?_)
    · exact KE S M fo fd i cs ss (by omega) (by omega)
    · have hi := ge5 (by omega) hL hc
      refine yy_aload_n C 1 dL_law_37 (pc' := 38) rfl rfl rfl ?_
      refine yy_iload C 0 dL_law_38 (pc' := 40) rfl rfl ?_
      refine yy_sld C hX hbl hbB (i := i) (by omega) (by omega) dL_law_40 (pc' := 41) rfl ?_
      refine yy_bipush C (v := nI 31) dL_law_41 (pc' := 43) rfl (by decide) ?_
      obtain ⟨j, hj, ej⟩ := nI_and31 (x := xs i)
      refine yy_iand C (v := nI j) dL_law_43 (pc' := 44) rfl ej ?_
      refine law_switch op_addDocument op_addLine op_rescan op_documentOf op_indexOf op_lines op_addRule op_addSpan op_lift op_isHidden op_hidden op_addJoin op_holds op_holdsByLog op_held op_given op_holders op_why op_root op_causes op_request op_state op_answer op_withdraw op_setPrice op_owed op_pay op_pass op_day op_late op_fees op_answeredShare hl0 C hX hbl hbB hL hi hR (show cs + 1 ≤ 1103 by omega) (show ss + 6 ≤ 9658 by omega) (fun S' M' fo' fd' cs' ss' h1 h2 hR2 => ?_) hj
      refine yy_iinc C 0 dL_law_2020 (v := nI (i + 5)) (pc' := 2023) rfl rfl (nI_add i 5) (by decide) (L' := [(5, .int (nI (i + 5))), (0, .ref (b)), (1, .ref (ad 0)), (2, .ref (bd 0)), (3, .ref (o1)), (4, .ref (o2))]) rfl ?_
      refine yy_goto C (tgt := 28) dL_law_2023 (by decide) ?_
      exact ih (i + 5) S' M' fo' fd' cs' ss' hR2 (by omega) (by omega) (by omega) (by omega)
