set_option maxHeartbeats 4000000 in
set_option maxRecDepth 100000 in
theorem law_28 (op_day : Op_day) {p : Program} {l : Launch} (hl0 : l.stackTraces = false) {e : Env} {s : State} {m : MethodId} {args : Array Value} {below : List Frame} {meth : Method} {c : Code} {G : gG} {B0 : Nat} {Q : State → Prop} (C : CX p s m args meth c cL_law RL 8 G B0) {b L0 : Nat} {xs : Nat → Int32} (hX : va_X b L0 xs s s.heap) (hbl : b < s.heap.size) (hbB : b < B0) (hL : L0 ≤ 2560) {i : Nat} (hi : i + 5 ≤ L0) {ad bd : Nat → Nat} {o1 o2 cs ss : Nat} {S : SA} {M : SM} {fo : Nat → Int64} {fd : Nat → UInt64} (hR : Rel S M) (hcs : cs + 1 ≤ room_1.cells) (hss : ss + 6 ≤ room_1.slots) (K : ∀ (S' : SA) (M' : SM) (fo' : Nat → Int64) (fd' : Nat → UInt64), Rel S' M' → YY p l e room_1 s m args below meth c G B0 8 Q 2020 [(5, .int (nI i)), (0, .ref (b)), (1, .ref (ad 0)), (2, .ref (bd 0)), (3, .ref (o1)), (4, .ref (o2))] [] (w1L G ad bd o1 o2 S' M' fo' fd') cs ss) : YY p l e room_1 s m args below meth c G B0 8 Q 1914 [(5, .int (nI i)), (0, .ref (b)), (1, .ref (ad 0)), (2, .ref (bd 0)), (3, .ref (o1)), (4, .ref (o2))] [] (w1L G ad bd o1 o2 S M fo fd) cs ss := by
  have hi31 : L0 < 2 ^ 31 := by omega
  have hcs0 : cs + 0 ≤ room_1.cells := by omega
  have hss0 : ss + 0 ≤ room_1.slots := by omega
  refine yy_aload_n C 2 dL_law_1914 (pc' := 1915) rfl rfl rfl ?_
  refine yc_i (yr_V C (As := []) (rest := []) lk_L_212 cd_X6_day im_X6_day se_X6_day (mX6_day l G B0 ad ((o1, .inl (G.2.2.1, 1, .inr (.inl fo))) :: (o2, .inl (G.2.2.2.2.2, 1, .inr (.inr (.inr (.inl fd))))) :: wM G bd M) S hR.1) ⟨by decide +kernel, by decide +kernel⟩ ⟨hcs0, hss0⟩ 0 rfl rfl rfl rfl (Nat.le_of_ble_eq_true rfl) dL_law_1915) (pc' := 1918) rfl (fun z1 _ hw_z1 => ?_)
  refine yy_aload_n C 3 dL_law_1918 (pc' := 1919) rfl rfl rfl ?_
  refine yy_perm (w' := w2L G ad bd o1 o2 S M fo fd) p12 ?_
  refine yc_i (yr_V C (As := []) (rest := [.int z1]) lk_L_215 cd_X7_day im_X7_day se_X7_day (mX7_day l G B0 bd (wA G ad S ++ [(o1, .inl (G.2.2.1, 1, .inr (.inl fo))), (o2, .inl (G.2.2.2.2.2, 1, .inr (.inr (.inr (.inl fd)))))]) M hR.im) ⟨by decide +kernel, by decide +kernel⟩ ⟨hcs0, hss0⟩ 0 rfl rfl rfl rfl (Nat.le_of_ble_eq_true rfl) dL_law_1919) (pc' := 1922) rfl (fun z2 _ hw_z2 => ?_)
  refine yy_icmp_eq C dL_law_1922 (pc' := 1925) rfl (tgt := 2020) (by decide) (fun _ => ?_) (fun h_ => absurd (op_day hR hw_z1 hw_z2) h_)
  refine yy_perm (w' := w1L G ad bd o1 o2 S M fo fd) p21 ?_
  refine yy_loc [0, 1, 2, 3, 4, 5] rfl ?_
  exact K S M fo fd hR

set_option maxHeartbeats 4000000 in
set_option maxRecDepth 100000 in
theorem law_29 (op_late : Op_late) {p : Program} {l : Launch} (hl0 : l.stackTraces = false) {e : Env} {s : State} {m : MethodId} {args : Array Value} {below : List Frame} {meth : Method} {c : Code} {G : gG} {B0 : Nat} {Q : State → Prop} (C : CX p s m args meth c cL_law RL 8 G B0) {b L0 : Nat} {xs : Nat → Int32} (hX : va_X b L0 xs s s.heap) (hbl : b < s.heap.size) (hbB : b < B0) (hL : L0 ≤ 2560) {i : Nat} (hi : i + 5 ≤ L0) {ad bd : Nat → Nat} {o1 o2 cs ss : Nat} {S : SA} {M : SM} {fo : Nat → Int64} {fd : Nat → UInt64} (hR : Rel S M) (hcs : cs + 1 ≤ room_1.cells) (hss : ss + 6 ≤ room_1.slots) (K : ∀ (S' : SA) (M' : SM) (fo' : Nat → Int64) (fd' : Nat → UInt64), Rel S' M' → YY p l e room_1 s m args below meth c G B0 8 Q 2020 [(5, .int (nI i)), (0, .ref (b)), (1, .ref (ad 0)), (2, .ref (bd 0)), (3, .ref (o1)), (4, .ref (o2))] [] (w1L G ad bd o1 o2 S' M' fo' fd') cs ss) : YY p l e room_1 s m args below meth c G B0 8 Q 1927 [(5, .int (nI i)), (0, .ref (b)), (1, .ref (ad 0)), (2, .ref (bd 0)), (3, .ref (o1)), (4, .ref (o2))] [] (w1L G ad bd o1 o2 S M fo fd) cs ss := by
  have hi31 : L0 < 2 ^ 31 := by omega
  have hcs0 : cs + 0 ≤ room_1.cells := by omega
  have hss0 : ss + 0 ≤ room_1.slots := by omega
  refine yy_aload_n C 2 dL_law_1927 (pc' := 1928) rfl rfl rfl ?_
  refine yc_i (yr_V C (As := []) (rest := []) lk_L_216 cd_X6_late im_X6_late se_X6_late (mX6_late l G B0 ad ((o1, .inl (G.2.2.1, 1, .inr (.inl fo))) :: (o2, .inl (G.2.2.2.2.2, 1, .inr (.inr (.inr (.inl fd))))) :: wM G bd M) S hR.1) ⟨by decide +kernel, by decide +kernel⟩ ⟨hcs0, hss0⟩ 0 rfl rfl rfl rfl (Nat.le_of_ble_eq_true rfl) dL_law_1928) (pc' := 1931) rfl (fun z1 _ hw_z1 => ?_)
  refine yy_aload_n C 3 dL_law_1931 (pc' := 1932) rfl rfl rfl ?_
  refine yy_perm (w' := w2L G ad bd o1 o2 S M fo fd) p12 ?_
  refine yc_i (yr_V C (As := []) (rest := [.int z1]) lk_L_219 cd_X7_late im_X7_late se_X7_late (mX7_late l G B0 bd (wA G ad S ++ [(o1, .inl (G.2.2.1, 1, .inr (.inl fo))), (o2, .inl (G.2.2.2.2.2, 1, .inr (.inr (.inr (.inl fd)))))]) M hR.im) ⟨by decide +kernel, by decide +kernel⟩ ⟨hcs0, hss0⟩ 0 rfl rfl rfl rfl (Nat.le_of_ble_eq_true rfl) dL_law_1932) (pc' := 1935) rfl (fun z2 _ hw_z2 => ?_)
  refine yy_icmp_eq C dL_law_1935 (pc' := 1938) rfl (tgt := 2020) (by decide) (fun _ => ?_) (fun h_ => absurd (op_late hR hw_z1 hw_z2) h_)
  refine yy_perm (w' := w1L G ad bd o1 o2 S M fo fd) p21 ?_
  refine yy_loc [0, 1, 2, 3, 4, 5] rfl ?_
  exact K S M fo fd hR

set_option maxHeartbeats 4000000 in
set_option maxRecDepth 100000 in
theorem law_30 (op_fees : Op_fees) {p : Program} {l : Launch} (hl0 : l.stackTraces = false) {e : Env} {s : State} {m : MethodId} {args : Array Value} {below : List Frame} {meth : Method} {c : Code} {G : gG} {B0 : Nat} {Q : State → Prop} (C : CX p s m args meth c cL_law RL 8 G B0) {b L0 : Nat} {xs : Nat → Int32} (hX : va_X b L0 xs s s.heap) (hbl : b < s.heap.size) (hbB : b < B0) (hL : L0 ≤ 2560) {i : Nat} (hi : i + 5 ≤ L0) {ad bd : Nat → Nat} {o1 o2 cs ss : Nat} {S : SA} {M : SM} {fo : Nat → Int64} {fd : Nat → UInt64} (hR : Rel S M) (hcs : cs + 1 ≤ room_1.cells) (hss : ss + 6 ≤ room_1.slots) (K : ∀ (S' : SA) (M' : SM) (fo' : Nat → Int64) (fd' : Nat → UInt64), Rel S' M' → YY p l e room_1 s m args below meth c G B0 8 Q 2020 [(5, .int (nI i)), (0, .ref (b)), (1, .ref (ad 0)), (2, .ref (bd 0)), (3, .ref (o1)), (4, .ref (o2))] [] (w1L G ad bd o1 o2 S' M' fo' fd') cs ss) : YY p l e room_1 s m args below meth c G B0 8 Q 1940 [(5, .int (nI i)), (0, .ref (b)), (1, .ref (ad 0)), (2, .ref (bd 0)), (3, .ref (o1)), (4, .ref (o2))] [] (w1L G ad bd o1 o2 S M fo fd) cs ss := by
  have hi31 : L0 < 2 ^ 31 := by omega
  have hcs0 : cs + 0 ≤ room_1.cells := by omega
  have hss0 : ss + 0 ≤ room_1.slots := by omega
  refine yy_aload_n C 2 dL_law_1940 (pc' := 1941) rfl rfl rfl ?_
  refine yc_l (yr_V C (As := []) (rest := []) lk_L_220 cd_X6_fees im_X6_fees se_X6_fees (mX6_fees l G B0 ad ((o1, .inl (G.2.2.1, 1, .inr (.inl fo))) :: (o2, .inl (G.2.2.2.2.2, 1, .inr (.inr (.inr (.inl fd))))) :: wM G bd M) S hR.1) ⟨by decide +kernel, by decide +kernel⟩ ⟨hcs0, hss0⟩ 0 rfl rfl rfl rfl (Nat.le_of_ble_eq_true rfl) dL_law_1941) (pc' := 1944) rfl (fun z1 _ hw_z1 => ?_)
  refine yy_aload_n C 3 dL_law_1944 (pc' := 1945) rfl rfl rfl ?_
  refine yy_perm (w' := w2L G ad bd o1 o2 S M fo fd) p12 ?_
  refine yc_l (yr_V C (As := []) (rest := [.long z1]) lk_L_224 cd_X7_fees im_X7_fees se_X7_fees (mX7_fees l G B0 bd (wA G ad S ++ [(o1, .inl (G.2.2.1, 1, .inr (.inl fo))), (o2, .inl (G.2.2.2.2.2, 1, .inr (.inr (.inr (.inl fd)))))]) M hR.im) ⟨by decide +kernel, by decide +kernel⟩ ⟨hcs0, hss0⟩ 0 rfl rfl rfl rfl (Nat.le_of_ble_eq_true rfl) dL_law_1945) (pc' := 1948) rfl (fun z2 _ hw_z2 => ?_)
  refine yy_lcmp C dL_law_1948 (pc' := 1949) rfl ?_
  refine yy_eqi (show _ = nI 0 by rw [op_fees hR hw_z1 hw_z2]; exact lg_self _) ?_
  refine yy_if_eq C dL_law_1949 (pc' := 1952) rfl (tgt := 2020) (by decide) (fun _ => ?_) (fun h_ => absurd rfl h_)
  refine yy_perm (w' := w1L G ad bd o1 o2 S M fo fd) p21 ?_
  refine yy_loc [0, 1, 2, 3, 4, 5] rfl ?_
  exact K S M fo fd hR

set_option maxHeartbeats 4000000 in
set_option maxRecDepth 100000 in
theorem law_31 (op_answeredShare : Op_answeredShare) {p : Program} {l : Launch} (hl0 : l.stackTraces = false) {e : Env} {s : State} {m : MethodId} {args : Array Value} {below : List Frame} {meth : Method} {c : Code} {G : gG} {B0 : Nat} {Q : State → Prop} (C : CX p s m args meth c cL_law RL 8 G B0) {b L0 : Nat} {xs : Nat → Int32} (hX : va_X b L0 xs s s.heap) (hbl : b < s.heap.size) (hbB : b < B0) (hL : L0 ≤ 2560) {i : Nat} (hi : i + 5 ≤ L0) {ad bd : Nat → Nat} {o1 o2 cs ss : Nat} {S : SA} {M : SM} {fo : Nat → Int64} {fd : Nat → UInt64} (hR : Rel S M) (hcs : cs + 1 ≤ room_1.cells) (hss : ss + 6 ≤ room_1.slots) (K : ∀ (S' : SA) (M' : SM) (fo' : Nat → Int64) (fd' : Nat → UInt64), Rel S' M' → YY p l e room_1 s m args below meth c G B0 8 Q 2020 [(5, .int (nI i)), (0, .ref (b)), (1, .ref (ad 0)), (2, .ref (bd 0)), (3, .ref (o1)), (4, .ref (o2))] [] (w1L G ad bd o1 o2 S' M' fo' fd') (cs + 1) (ss + 6)) : YY p l e room_1 s m args below meth c G B0 8 Q 1954 [(5, .int (nI i)), (0, .ref (b)), (1, .ref (ad 0)), (2, .ref (bd 0)), (3, .ref (o1)), (4, .ref (o2))] [] (w1L G ad bd o1 o2 S M fo fd) cs ss := by
  have hi31 : L0 < 2 ^ 31 := by omega
  have hcs0 : cs + 1 + 0 ≤ room_1.cells := by omega
  have hss0 : ss + 6 + 0 ≤ room_1.slots := by omega
  refine yy_aload_n C 2 dL_law_1954 (pc' := 1955) rfl rfl rfl ?_
  refine yy_aload C 5 dL_law_1955 (pc' := 1957) rfl rfl ?_
  refine yy_perm (w' := w3L G ad bd o1 o2 S M fo fd) p13 ?_
  refine yc_i (yr_SW C (As := [.ref (ad 0), .ref (o2)]) (rest := []) lk_L_225 cd_L_answeredShare st_L_answeredShare (mL_answeredShare l hl0 G B0 ad ((o1, .inl (G.2.2.1, 1, .inr (.inl fo))) :: wM G bd M) S hR.1 o2 fd) ⟨by decide +kernel, by decide +kernel⟩ ⟨hcs, hss⟩ rfl rfl (Nat.le_of_ble_eq_true rfl) dL_law_1957) (pc' := 1960) rfl (fun r1 u1 hw1 => ?_)
  refine yy_istore C (L' := [(6, .int r1), (5, .int (nI i)), (0, .ref (b)), (1, .ref (ad 0)), (2, .ref (bd 0)), (3, .ref (o1)), (4, .ref (o2))]) dL_law_1960 (pc' := 1962) rfl (by decide) rfl ?_
  refine yy_aload_n C 4 dL_law_1962 (pc' := 1963) rfl rfl rfl ?_
  refine yy_perm (w' := w1L G ad bd o1 o2 u1.1 M fo u1.2) p31 ?_
  refine yy_perm (w' := w2L G ad bd o1 o2 u1.1 M fo u1.2) p12 ?_
  refine yc_f (yr_V C (As := []) (rest := []) lk_L_228 cd_X7_answeredShare im_X7_answeredShare se_X7_answeredShare (mX7_answeredShare l G B0 bd (wA G ad u1.1 ++ [(o1, .inl (G.2.2.1, 1, .inr (.inl fo))), (o2, .inl (G.2.2.2.2.2, 1, .inr (.inr (.inr (.inl u1.2)))))]) M hR.im) ⟨by decide +kernel, by decide +kernel⟩ ⟨hcs0, hss0⟩ 0 rfl rfl rfl rfl (Nat.le_of_ble_eq_true rfl) dL_law_1963) (pc' := 1966) rfl (fun z1 u2_1 hw_z1 => ?_)
  refine yy_fstore C (L' := [(7, .float z1), (6, .int r1), (5, .int (nI i)), (0, .ref (b)), (1, .ref (ad 0)), (2, .ref (bd 0)), (3, .ref (o1)), (4, .ref (o2))]) dL_law_1966 (pc' := 1968) rfl (by decide) rfl ?_
  refine yy_aload_n C 5 dL_law_1968 (pc' := 1969) rfl rfl rfl ?_
  refine yc_i (yr_V C (As := []) (rest := []) lk_L_123 cd_X7_thrown im_X7_thrown se_X7_thrown (mX7_thrown l G B0 bd (wA G ad u1.1 ++ [(o1, .inl (G.2.2.1, 1, .inr (.inl fo))), (o2, .inl (G.2.2.2.2.2, 1, .inr (.inr (.inr (.inl u1.2)))))]) u2_1) ⟨by decide +kernel, by decide +kernel⟩ ⟨hcs0, hss0⟩ 0 rfl rfl rfl rfl (Nat.le_of_ble_eq_true rfl) dL_law_1969) (pc' := 1972) rfl (fun z2 _ hw_z2 => ?_)
  subst hw_z2
  have hop := op_answeredShare hR hw1 hw_z1
  refine yy_iload C 1 dL_law_1972 (pc' := 1974) rfl rfl ?_
  rw [← hop.1]
  refine yy_icmp_eq C dL_law_1974 (pc' := 1977) rfl (tgt := 1979) (by decide) (fun _ => ?_) (fun h_ => absurd rfl h_)
  refine yy_iload C 1 dL_law_1979 (pc' := 1981) rfl rfl ?_
  refine yy_if_ne C dL_law_1981 (pc' := 1984) rfl (tgt := 2017) (by decide) (fun _ => ?_) (fun c_k => ?_)
  · skip
    refine yy_goto C (tgt := 2020) dL_law_2017 (by decide) ?_
    refine yy_perm (w' := w1L G ad bd o1 o2 u1.1 u2_1 fo u1.2) p21 ?_
    refine yy_loc [2, 3, 4, 5, 6, 7] rfl ?_
    exact K u1.1 u2_1 fo u1.2 hop.2.2
  · skip
    refine yy_aload C 7 dL_law_1984 (pc' := 1986) rfl rfl ?_
    refine yy_iconst C (v := (nI 0)) dL_law_1986 (pc' := 1987) rfl (by decide) ?_
    refine yy_dald C 51 dL_law_1987 (pc' := 1988) rfl rfl (by decide) (by decide) ?_
    refine yy_fload C 0 dL_law_1988 (pc' := 1990) rfl rfl ?_
    refine yy_f2d C dL_law_1990 (pc' := 1991) rfl (hop.2.1 c_k).1 ?_
    refine yy_dcmp C dL_law_1991 (pc' := 1992) rfl ?_
    refine yy_eqi (hop.2.1 c_k).2 ?_
    refine yy_if_eq C dL_law_1992 (pc' := 1995) rfl (tgt := 2017) (by decide) (fun _ => ?_) (fun h_ => absurd rfl h_)
    refine yy_goto C (tgt := 2020) dL_law_2017 (by decide) ?_
    refine yy_perm (w' := w1L G ad bd o1 o2 u1.1 u2_1 fo u1.2) p21 ?_
    refine yy_loc [2, 3, 4, 5, 6, 7] rfl ?_
    exact K u1.1 u2_1 fo u1.2 hop.2.2
