set_option maxHeartbeats 4000000 in
set_option maxRecDepth 100000 in
theorem law_12 (op_holds : Op_holds) {p : Program} {l : Launch} (hl0 : l.stackTraces = false) {e : Env} {s : State} {m : MethodId} {args : Array Value} {below : List Frame} {meth : Method} {c : Code} {G : gG} {B0 : Nat} {Q : State → Prop} (C : CX p s m args meth c cL_law RL 8 G B0) {b L0 : Nat} {xs : Nat → Int32} (hX : va_X b L0 xs s s.heap) (hbl : b < s.heap.size) (hbB : b < B0) (hL : L0 ≤ 2560) {i : Nat} (hi : i + 5 ≤ L0) {ad bd : Nat → Nat} {o1 o2 cs ss : Nat} {S : SA} {M : SM} {fo : Nat → Int64} {fd : Nat → UInt64} (hR : Rel S M) (hcs : cs + 1 ≤ room_1.cells) (hss : ss + 6 ≤ room_1.slots) (K : ∀ (S' : SA) (M' : SM) (fo' : Nat → Int64) (fd' : Nat → UInt64), Rel S' M' → YY p l e room_1 s m args below meth c G B0 8 Q 2020 [(5, .int (nI i)), (0, .ref (b)), (1, .ref (ad 0)), (2, .ref (bd 0)), (3, .ref (o1)), (4, .ref (o2))] [] (w1L G ad bd o1 o2 S' M' fo' fd') (cs + 1) (ss + 6)) : YY p l e room_1 s m args below meth c G B0 8 Q 920 [(5, .int (nI i)), (0, .ref (b)), (1, .ref (ad 0)), (2, .ref (bd 0)), (3, .ref (o1)), (4, .ref (o2))] [] (w1L G ad bd o1 o2 S M fo fd) cs ss := by
  have hi31 : L0 < 2 ^ 31 := by omega
  have hcs0 : cs + 1 + 0 ≤ room_1.cells := by omega
  have hss0 : ss + 6 + 0 ≤ room_1.slots := by omega
  refine yy_aload_n C 2 dL_law_920 (pc' := 921) rfl rfl rfl ?_
  refine yy_aload_n C 1 dL_law_921 (pc' := 922) rfl rfl rfl ?_
  refine yy_iload C 0 dL_law_922 (pc' := 924) rfl rfl ?_
  refine yy_iconst C (v := (nI 1)) dL_law_924 (pc' := 925) rfl (by decide) ?_
  refine yy_iadd C (v := (nI (i + 1))) dL_law_925 (pc' := 926) rfl (nI_add i 1) ?_
  refine yy_sld C hX hbl hbB (i := i + 1) (by omega) (by omega) dL_law_926 (pc' := 927) rfl ?_
  refine yy_aload_n C 1 dL_law_927 (pc' := 928) rfl rfl rfl ?_
  refine yy_iload C 0 dL_law_928 (pc' := 930) rfl rfl ?_
  refine yy_iconst C (v := (nI 2)) dL_law_930 (pc' := 931) rfl (by decide) ?_
  refine yy_iadd C (v := (nI (i + 2))) dL_law_931 (pc' := 932) rfl (nI_add i 2) ?_
  refine yy_sld C hX hbl hbB (i := i + 2) (by omega) (by omega) dL_law_932 (pc' := 933) rfl ?_
  refine yy_aload_n C 4 dL_law_933 (pc' := 934) rfl rfl rfl ?_
  refine yc_i (yr_SW C (As := [.ref (ad 0), .int (xs (i + 1)), .int (xs (i + 2)), .ref (o1)]) (rest := []) lk_L_164 cd_L_holds st_L_holds (mL_holds l hl0 G B0 ad ((o2, .inl (G.2.2.2.2.2, 1, .inr (.inr (.inr (.inl fd))))) :: wM G bd M) S (xs (i + 1)) (xs (i + 2)) hR.1 o1 fo) ⟨by decide +kernel, by decide +kernel⟩ ⟨hcs, hss⟩ rfl rfl (Nat.le_of_ble_eq_true rfl) dL_law_934) (pc' := 937) rfl (fun r1 u1 hw1 => ?_)
  refine yy_istore C (L' := [(6, .int r1), (5, .int (nI i)), (0, .ref (b)), (1, .ref (ad 0)), (2, .ref (bd 0)), (3, .ref (o1)), (4, .ref (o2))]) dL_law_937 (pc' := 939) rfl (by decide) rfl ?_
  refine yy_aload_n C 4 dL_law_939 (pc' := 940) rfl rfl rfl ?_
  refine yy_aload_n C 2 dL_law_940 (pc' := 941) rfl rfl rfl ?_
  refine yy_iload C 1 dL_law_941 (pc' := 943) rfl rfl ?_
  refine yy_iconst C (v := (nI 1)) dL_law_943 (pc' := 944) rfl (by decide) ?_
  refine yy_iadd C (v := (nI (i + 1))) dL_law_944 (pc' := 945) rfl (nI_add i 1) ?_
  refine yy_sld C hX hbl hbB (i := i + 1) (by omega) (by omega) dL_law_945 (pc' := 946) rfl ?_
  refine yy_aload_n C 2 dL_law_946 (pc' := 947) rfl rfl rfl ?_
  refine yy_iload C 1 dL_law_947 (pc' := 949) rfl rfl ?_
  refine yy_iconst C (v := (nI 2)) dL_law_949 (pc' := 950) rfl (by decide) ?_
  refine yy_iadd C (v := (nI (i + 2))) dL_law_950 (pc' := 951) rfl (nI_add i 2) ?_
  refine yy_sld C hX hbl hbB (i := i + 2) (by omega) (by omega) dL_law_951 (pc' := 952) rfl ?_
  refine yy_perm (w' := w2L G ad bd o1 o2 u1.1 M u1.2 fd) p12 ?_
  refine yc_i (yr_V C (As := [.int (xs (i + 1)), .int (xs (i + 2))]) (rest := []) lk_L_166 cd_X7_holds im_X7_holds se_X7_holds (mX7_holds l G B0 bd (wA G ad u1.1 ++ [(o1, .inl (G.2.2.1, 1, .inr (.inl u1.2))), (o2, .inl (G.2.2.2.2.2, 1, .inr (.inr (.inr (.inl fd)))))]) M (xs (i + 1)) (xs (i + 2)) (fun a => mk (S.2.2 0 a)) hR.rows hR.im) ⟨by decide +kernel, by decide +kernel⟩ ⟨hcs0, hss0⟩ 0 rfl rfl rfl rfl (Nat.le_of_ble_eq_true rfl) dL_law_952) (pc' := 955) rfl (fun z1 u2_1 hw_z1 => ?_)
  refine yy_istore C (L' := [(7, .int z1), (6, .int r1), (5, .int (nI i)), (0, .ref (b)), (1, .ref (ad 0)), (2, .ref (bd 0)), (3, .ref (o1)), (4, .ref (o2))]) dL_law_955 (pc' := 957) rfl (by decide) rfl ?_
  refine yy_aload_n C 5 dL_law_957 (pc' := 958) rfl rfl rfl ?_
  refine yc_i (yr_V C (As := []) (rest := []) lk_L_123 cd_X7_thrown im_X7_thrown se_X7_thrown (mX7_thrown l G B0 bd (wA G ad u1.1 ++ [(o1, .inl (G.2.2.1, 1, .inr (.inl u1.2))), (o2, .inl (G.2.2.2.2.2, 1, .inr (.inr (.inr (.inl fd)))))]) u2_1) ⟨by decide +kernel, by decide +kernel⟩ ⟨hcs0, hss0⟩ 0 rfl rfl rfl rfl (Nat.le_of_ble_eq_true rfl) dL_law_958) (pc' := 961) rfl (fun z2 _ hw_z2 => ?_)
  subst hw_z2
  have hop := op_holds hR hw1 hw_z1
  refine yy_iload C 1 dL_law_961 (pc' := 963) rfl rfl ?_
  rw [← hop.1]
  refine yy_icmp_eq C dL_law_963 (pc' := 966) rfl (tgt := 968) (by decide) (fun _ => ?_) (fun h_ => absurd rfl h_)
  refine yy_iload C 1 dL_law_968 (pc' := 970) rfl rfl ?_
  refine yy_if_ne C dL_law_970 (pc' := 973) rfl (tgt := 992) (by decide) (fun _ => ?_) (fun c_k => ?_)
  · skip
    refine yy_goto C (tgt := 2020) dL_law_992 (by decide) ?_
    refine yy_perm (w' := w1L G ad bd o1 o2 u1.1 u2_1 u1.2 fd) p21 ?_
    refine yy_loc [2, 3, 4, 5, 6, 7] rfl ?_
    exact K u1.1 u2_1 u1.2 fd hop.2.2
  · skip
    refine yy_aload_n C 6 dL_law_973 (pc' := 974) rfl rfl rfl ?_
    refine yy_iconst C (v := (nI 0)) dL_law_974 (pc' := 975) rfl (by decide) ?_
    refine yy_lald C 50 dL_law_975 (pc' := 976) rfl rfl (by decide) (by decide) ?_
    refine yy_iload C 0 dL_law_976 (pc' := 978) rfl rfl ?_
    refine yy_if_eq C dL_law_978 (pc' := 981) rfl (tgt := 985) (by decide) (fun c_978 => ?_) (fun c_978 => ?_)
    · skip
      refine yy_lconst C (v := (lN 0)) dL_law_985 (pc' := 986) rfl (by decide) ?_
      refine yy_lcmp C dL_law_986 (pc' := 987) rfl ?_
      refine yy_eqi (show _ = nI 0 by rw [hop.2.1 c_k, if_pos c_978]; exact lg_self _) ?_
      refine yy_if_eq C dL_law_987 (pc' := 990) rfl (tgt := 992) (by decide) (fun _ => ?_) (fun h_ => absurd rfl h_)
      refine yy_goto C (tgt := 2020) dL_law_992 (by decide) ?_
      refine yy_perm (w' := w1L G ad bd o1 o2 u1.1 u2_1 u1.2 fd) p21 ?_
      refine yy_loc [2, 3, 4, 5, 6, 7] rfl ?_
      exact K u1.1 u2_1 u1.2 fd hop.2.2
    · skip
      refine yy_lconst C (v := (lN 1)) dL_law_981 (pc' := 982) rfl (by decide) ?_
      refine yy_goto C (tgt := 986) dL_law_982 (by decide) ?_
      refine yy_lcmp C dL_law_986 (pc' := 987) rfl ?_
      refine yy_eqi (show _ = nI 0 by rw [hop.2.1 c_k, if_neg c_978]; exact lg_self _) ?_
      refine yy_if_eq C dL_law_987 (pc' := 990) rfl (tgt := 992) (by decide) (fun _ => ?_) (fun h_ => absurd rfl h_)
      refine yy_goto C (tgt := 2020) dL_law_992 (by decide) ?_
      refine yy_perm (w' := w1L G ad bd o1 o2 u1.1 u2_1 u1.2 fd) p21 ?_
      refine yy_loc [2, 3, 4, 5, 6, 7] rfl ?_
      exact K u1.1 u2_1 u1.2 fd hop.2.2

set_option maxHeartbeats 4000000 in
set_option maxRecDepth 100000 in
theorem law_13 (op_holdsByLog : Op_holdsByLog) {p : Program} {l : Launch} (hl0 : l.stackTraces = false) {e : Env} {s : State} {m : MethodId} {args : Array Value} {below : List Frame} {meth : Method} {c : Code} {G : gG} {B0 : Nat} {Q : State → Prop} (C : CX p s m args meth c cL_law RL 8 G B0) {b L0 : Nat} {xs : Nat → Int32} (hX : va_X b L0 xs s s.heap) (hbl : b < s.heap.size) (hbB : b < B0) (hL : L0 ≤ 2560) {i : Nat} (hi : i + 5 ≤ L0) {ad bd : Nat → Nat} {o1 o2 cs ss : Nat} {S : SA} {M : SM} {fo : Nat → Int64} {fd : Nat → UInt64} (hR : Rel S M) (hcs : cs + 1 ≤ room_1.cells) (hss : ss + 6 ≤ room_1.slots) (K : ∀ (S' : SA) (M' : SM) (fo' : Nat → Int64) (fd' : Nat → UInt64), Rel S' M' → YY p l e room_1 s m args below meth c G B0 8 Q 2020 [(5, .int (nI i)), (0, .ref (b)), (1, .ref (ad 0)), (2, .ref (bd 0)), (3, .ref (o1)), (4, .ref (o2))] [] (w1L G ad bd o1 o2 S' M' fo' fd') (cs + 1) (ss + 6)) : YY p l e room_1 s m args below meth c G B0 8 Q 995 [(5, .int (nI i)), (0, .ref (b)), (1, .ref (ad 0)), (2, .ref (bd 0)), (3, .ref (o1)), (4, .ref (o2))] [] (w1L G ad bd o1 o2 S M fo fd) cs ss := by
  have hi31 : L0 < 2 ^ 31 := by omega
  have hcs0 : cs + 1 + 0 ≤ room_1.cells := by omega
  have hss0 : ss + 6 + 0 ≤ room_1.slots := by omega
  refine yy_aload_n C 2 dL_law_995 (pc' := 996) rfl rfl rfl ?_
  refine yy_aload_n C 1 dL_law_996 (pc' := 997) rfl rfl rfl ?_
  refine yy_iload C 0 dL_law_997 (pc' := 999) rfl rfl ?_
  refine yy_iconst C (v := (nI 1)) dL_law_999 (pc' := 1000) rfl (by decide) ?_
  refine yy_iadd C (v := (nI (i + 1))) dL_law_1000 (pc' := 1001) rfl (nI_add i 1) ?_
  refine yy_sld C hX hbl hbB (i := i + 1) (by omega) (by omega) dL_law_1001 (pc' := 1002) rfl ?_
  refine yy_aload_n C 1 dL_law_1002 (pc' := 1003) rfl rfl rfl ?_
  refine yy_iload C 0 dL_law_1003 (pc' := 1005) rfl rfl ?_
  refine yy_iconst C (v := (nI 2)) dL_law_1005 (pc' := 1006) rfl (by decide) ?_
  refine yy_iadd C (v := (nI (i + 2))) dL_law_1006 (pc' := 1007) rfl (nI_add i 2) ?_
  refine yy_sld C hX hbl hbB (i := i + 2) (by omega) (by omega) dL_law_1007 (pc' := 1008) rfl ?_
  refine yy_aload_n C 4 dL_law_1008 (pc' := 1009) rfl rfl rfl ?_
  refine yc_i (yr_SW C (As := [.ref (ad 0), .int (xs (i + 1)), .int (xs (i + 2)), .ref (o1)]) (rest := []) lk_L_167 cd_L_holdsByLog st_L_holdsByLog (mL_holdsByLog l hl0 G B0 ad ((o2, .inl (G.2.2.2.2.2, 1, .inr (.inr (.inr (.inl fd))))) :: wM G bd M) S (xs (i + 1)) (xs (i + 2)) hR.1 o1 fo) ⟨by decide +kernel, by decide +kernel⟩ ⟨hcs, hss⟩ rfl rfl (Nat.le_of_ble_eq_true rfl) dL_law_1009) (pc' := 1012) rfl (fun r1 u1 hw1 => ?_)
  refine yy_istore C (L' := [(6, .int r1), (5, .int (nI i)), (0, .ref (b)), (1, .ref (ad 0)), (2, .ref (bd 0)), (3, .ref (o1)), (4, .ref (o2))]) dL_law_1012 (pc' := 1014) rfl (by decide) rfl ?_
  refine yy_aload_n C 4 dL_law_1014 (pc' := 1015) rfl rfl rfl ?_
  refine yy_aload_n C 2 dL_law_1015 (pc' := 1016) rfl rfl rfl ?_
  refine yy_iload C 1 dL_law_1016 (pc' := 1018) rfl rfl ?_
  refine yy_iconst C (v := (nI 1)) dL_law_1018 (pc' := 1019) rfl (by decide) ?_
  refine yy_iadd C (v := (nI (i + 1))) dL_law_1019 (pc' := 1020) rfl (nI_add i 1) ?_
  refine yy_sld C hX hbl hbB (i := i + 1) (by omega) (by omega) dL_law_1020 (pc' := 1021) rfl ?_
  refine yy_aload_n C 2 dL_law_1021 (pc' := 1022) rfl rfl rfl ?_
  refine yy_iload C 1 dL_law_1022 (pc' := 1024) rfl rfl ?_
  refine yy_iconst C (v := (nI 2)) dL_law_1024 (pc' := 1025) rfl (by decide) ?_
  refine yy_iadd C (v := (nI (i + 2))) dL_law_1025 (pc' := 1026) rfl (nI_add i 2) ?_
  refine yy_sld C hX hbl hbB (i := i + 2) (by omega) (by omega) dL_law_1026 (pc' := 1027) rfl ?_
  refine yy_perm (w' := w2L G ad bd o1 o2 u1.1 M u1.2 fd) p12 ?_
  refine yc_i (yr_V C (As := [.int (xs (i + 1)), .int (xs (i + 2))]) (rest := []) lk_L_169 cd_X7_holdsByLog im_X7_holdsByLog se_X7_holdsByLog (mX7_holdsByLog l G B0 bd (wA G ad u1.1 ++ [(o1, .inl (G.2.2.1, 1, .inr (.inl u1.2))), (o2, .inl (G.2.2.2.2.2, 1, .inr (.inr (.inr (.inl fd)))))]) M (xs (i + 1)) (xs (i + 2)) (fun a => mk (S.2.2 0 a)) hR.rows hR.im) ⟨by decide +kernel, by decide +kernel⟩ ⟨hcs0, hss0⟩ 0 rfl rfl rfl rfl (Nat.le_of_ble_eq_true rfl) dL_law_1027) (pc' := 1030) rfl (fun z1 u2_1 hw_z1 => ?_)
  refine yy_istore C (L' := [(7, .int z1), (6, .int r1), (5, .int (nI i)), (0, .ref (b)), (1, .ref (ad 0)), (2, .ref (bd 0)), (3, .ref (o1)), (4, .ref (o2))]) dL_law_1030 (pc' := 1032) rfl (by decide) rfl ?_
  refine yy_aload_n C 5 dL_law_1032 (pc' := 1033) rfl rfl rfl ?_
  refine yc_i (yr_V C (As := []) (rest := []) lk_L_123 cd_X7_thrown im_X7_thrown se_X7_thrown (mX7_thrown l G B0 bd (wA G ad u1.1 ++ [(o1, .inl (G.2.2.1, 1, .inr (.inl u1.2))), (o2, .inl (G.2.2.2.2.2, 1, .inr (.inr (.inr (.inl fd)))))]) u2_1) ⟨by decide +kernel, by decide +kernel⟩ ⟨hcs0, hss0⟩ 0 rfl rfl rfl rfl (Nat.le_of_ble_eq_true rfl) dL_law_1033) (pc' := 1036) rfl (fun z2 _ hw_z2 => ?_)
  subst hw_z2
  have hop := op_holdsByLog hR hw1 hw_z1
  refine yy_iload C 1 dL_law_1036 (pc' := 1038) rfl rfl ?_
  rw [← hop.1]
  refine yy_icmp_eq C dL_law_1038 (pc' := 1041) rfl (tgt := 1043) (by decide) (fun _ => ?_) (fun h_ => absurd rfl h_)
  refine yy_iload C 1 dL_law_1043 (pc' := 1045) rfl rfl ?_
  refine yy_if_ne C dL_law_1045 (pc' := 1048) rfl (tgt := 1067) (by decide) (fun _ => ?_) (fun c_k => ?_)
  · skip
    refine yy_goto C (tgt := 2020) dL_law_1067 (by decide) ?_
    refine yy_perm (w' := w1L G ad bd o1 o2 u1.1 u2_1 u1.2 fd) p21 ?_
    refine yy_loc [2, 3, 4, 5, 6, 7] rfl ?_
    exact K u1.1 u2_1 u1.2 fd hop.2.2
  · skip
    refine yy_aload_n C 6 dL_law_1048 (pc' := 1049) rfl rfl rfl ?_
    refine yy_iconst C (v := (nI 0)) dL_law_1049 (pc' := 1050) rfl (by decide) ?_
    refine yy_lald C 50 dL_law_1050 (pc' := 1051) rfl rfl (by decide) (by decide) ?_
    refine yy_iload C 0 dL_law_1051 (pc' := 1053) rfl rfl ?_
    refine yy_if_eq C dL_law_1053 (pc' := 1056) rfl (tgt := 1060) (by decide) (fun c_1053 => ?_) (fun c_1053 => ?_)
    · skip
      refine yy_lconst C (v := (lN 0)) dL_law_1060 (pc' := 1061) rfl (by decide) ?_
      refine yy_lcmp C dL_law_1061 (pc' := 1062) rfl ?_
      refine yy_eqi (show _ = nI 0 by rw [hop.2.1 c_k, if_pos c_1053]; exact lg_self _) ?_
      refine yy_if_eq C dL_law_1062 (pc' := 1065) rfl (tgt := 1067) (by decide) (fun _ => ?_) (fun h_ => absurd rfl h_)
      refine yy_goto C (tgt := 2020) dL_law_1067 (by decide) ?_
      refine yy_perm (w' := w1L G ad bd o1 o2 u1.1 u2_1 u1.2 fd) p21 ?_
      refine yy_loc [2, 3, 4, 5, 6, 7] rfl ?_
      exact K u1.1 u2_1 u1.2 fd hop.2.2
    · skip
      refine yy_lconst C (v := (lN 1)) dL_law_1056 (pc' := 1057) rfl (by decide) ?_
      refine yy_goto C (tgt := 1061) dL_law_1057 (by decide) ?_
      refine yy_lcmp C dL_law_1061 (pc' := 1062) rfl ?_
      refine yy_eqi (show _ = nI 0 by rw [hop.2.1 c_k, if_neg c_1053]; exact lg_self _) ?_
      refine yy_if_eq C dL_law_1062 (pc' := 1065) rfl (tgt := 1067) (by decide) (fun _ => ?_) (fun h_ => absurd rfl h_)
      refine yy_goto C (tgt := 2020) dL_law_1067 (by decide) ?_
      refine yy_perm (w' := w1L G ad bd o1 o2 u1.1 u2_1 u1.2 fd) p21 ?_
      refine yy_loc [2, 3, 4, 5, 6, 7] rfl ?_
      exact K u1.1 u2_1 u1.2 fd hop.2.2

set_option maxHeartbeats 4000000 in
set_option maxRecDepth 100000 in
theorem law_14 (op_held : Op_held) {p : Program} {l : Launch} (hl0 : l.stackTraces = false) {e : Env} {s : State} {m : MethodId} {args : Array Value} {below : List Frame} {meth : Method} {c : Code} {G : gG} {B0 : Nat} {Q : State → Prop} (C : CX p s m args meth c cL_law RL 8 G B0) {b L0 : Nat} {xs : Nat → Int32} (hX : va_X b L0 xs s s.heap) (hbl : b < s.heap.size) (hbB : b < B0) (hL : L0 ≤ 2560) {i : Nat} (hi : i + 5 ≤ L0) {ad bd : Nat → Nat} {o1 o2 cs ss : Nat} {S : SA} {M : SM} {fo : Nat → Int64} {fd : Nat → UInt64} (hR : Rel S M) (hcs : cs + 1 ≤ room_1.cells) (hss : ss + 6 ≤ room_1.slots) (K : ∀ (S' : SA) (M' : SM) (fo' : Nat → Int64) (fd' : Nat → UInt64), Rel S' M' → YY p l e room_1 s m args below meth c G B0 8 Q 2020 [(5, .int (nI i)), (0, .ref (b)), (1, .ref (ad 0)), (2, .ref (bd 0)), (3, .ref (o1)), (4, .ref (o2))] [] (w1L G ad bd o1 o2 S' M' fo' fd') (cs + 1) (ss + 6)) : YY p l e room_1 s m args below meth c G B0 8 Q 1070 [(5, .int (nI i)), (0, .ref (b)), (1, .ref (ad 0)), (2, .ref (bd 0)), (3, .ref (o1)), (4, .ref (o2))] [] (w1L G ad bd o1 o2 S M fo fd) cs ss := by
  have hi31 : L0 < 2 ^ 31 := by omega
  have hcs0 : cs + 1 + 0 ≤ room_1.cells := by omega
  have hss0 : ss + 6 + 0 ≤ room_1.slots := by omega
  refine yy_aload_n C 2 dL_law_1070 (pc' := 1071) rfl rfl rfl ?_
  refine yy_aload_n C 1 dL_law_1071 (pc' := 1072) rfl rfl rfl ?_
  refine yy_iload C 0 dL_law_1072 (pc' := 1074) rfl rfl ?_
  refine yy_iconst C (v := (nI 1)) dL_law_1074 (pc' := 1075) rfl (by decide) ?_
  refine yy_iadd C (v := (nI (i + 1))) dL_law_1075 (pc' := 1076) rfl (nI_add i 1) ?_
  refine yy_sld C hX hbl hbB (i := i + 1) (by omega) (by omega) dL_law_1076 (pc' := 1077) rfl ?_
  refine yy_aload_n C 4 dL_law_1077 (pc' := 1078) rfl rfl rfl ?_
  refine yc_i (yr_SW C (As := [.ref (ad 0), .int (xs (i + 1)), .ref (o1)]) (rest := []) lk_L_170 cd_L_held st_L_held (mL_held l hl0 G B0 ad ((o2, .inl (G.2.2.2.2.2, 1, .inr (.inr (.inr (.inl fd))))) :: wM G bd M) S (xs (i + 1)) hR.1 o1 fo) ⟨by decide +kernel, by decide +kernel⟩ ⟨hcs, hss⟩ rfl rfl (Nat.le_of_ble_eq_true rfl) dL_law_1078) (pc' := 1081) rfl (fun r1 u1 hw1 => ?_)
  refine yy_istore C (L' := [(6, .int r1), (5, .int (nI i)), (0, .ref (b)), (1, .ref (ad 0)), (2, .ref (bd 0)), (3, .ref (o1)), (4, .ref (o2))]) dL_law_1081 (pc' := 1083) rfl (by decide) rfl ?_
  refine yy_aload_n C 4 dL_law_1083 (pc' := 1084) rfl rfl rfl ?_
  refine yy_aload_n C 2 dL_law_1084 (pc' := 1085) rfl rfl rfl ?_
  refine yy_iload C 1 dL_law_1085 (pc' := 1087) rfl rfl ?_
  refine yy_iconst C (v := (nI 1)) dL_law_1087 (pc' := 1088) rfl (by decide) ?_
  refine yy_iadd C (v := (nI (i + 1))) dL_law_1088 (pc' := 1089) rfl (nI_add i 1) ?_
  refine yy_sld C hX hbl hbB (i := i + 1) (by omega) (by omega) dL_law_1089 (pc' := 1090) rfl ?_
  refine yy_perm (w' := w2L G ad bd o1 o2 u1.1 M u1.2 fd) p12 ?_
  refine yc_i (yr_V C (As := [.int (xs (i + 1))]) (rest := []) lk_L_172 cd_X7_held im_X7_held se_X7_held (mX7_held l G B0 bd (wA G ad u1.1 ++ [(o1, .inl (G.2.2.1, 1, .inr (.inl u1.2))), (o2, .inl (G.2.2.2.2.2, 1, .inr (.inr (.inr (.inl fd)))))]) M (fun a => mk (S.2.2 0 a)) hR.rows (xs (i + 1)) hR.im) ⟨by decide +kernel, by decide +kernel⟩ ⟨hcs0, hss0⟩ 0 rfl rfl rfl rfl (Nat.le_of_ble_eq_true rfl) dL_law_1090) (pc' := 1093) rfl (fun z1 u2_1 hw_z1 => ?_)
  refine yy_istore C (L' := [(7, .int z1), (6, .int r1), (5, .int (nI i)), (0, .ref (b)), (1, .ref (ad 0)), (2, .ref (bd 0)), (3, .ref (o1)), (4, .ref (o2))]) dL_law_1093 (pc' := 1095) rfl (by decide) rfl ?_
  refine yy_aload_n C 5 dL_law_1095 (pc' := 1096) rfl rfl rfl ?_
  refine yc_i (yr_V C (As := []) (rest := []) lk_L_123 cd_X7_thrown im_X7_thrown se_X7_thrown (mX7_thrown l G B0 bd (wA G ad u1.1 ++ [(o1, .inl (G.2.2.1, 1, .inr (.inl u1.2))), (o2, .inl (G.2.2.2.2.2, 1, .inr (.inr (.inr (.inl fd)))))]) u2_1) ⟨by decide +kernel, by decide +kernel⟩ ⟨hcs0, hss0⟩ 0 rfl rfl rfl rfl (Nat.le_of_ble_eq_true rfl) dL_law_1096) (pc' := 1099) rfl (fun z2 _ hw_z2 => ?_)
  subst hw_z2
  have hop := op_held hR hw1 hw_z1
  refine yy_iload C 1 dL_law_1099 (pc' := 1101) rfl rfl ?_
  rw [← hop.1]
  refine yy_icmp_eq C dL_law_1101 (pc' := 1104) rfl (tgt := 1106) (by decide) (fun _ => ?_) (fun h_ => absurd rfl h_)
  refine yy_iload C 1 dL_law_1106 (pc' := 1108) rfl rfl ?_
  refine yy_if_ne C dL_law_1108 (pc' := 1111) rfl (tgt := 1123) (by decide) (fun _ => ?_) (fun c_k => ?_)
  · skip
    refine yy_goto C (tgt := 2020) dL_law_1123 (by decide) ?_
    refine yy_perm (w' := w1L G ad bd o1 o2 u1.1 u2_1 u1.2 fd) p21 ?_
    refine yy_loc [2, 3, 4, 5, 6, 7] rfl ?_
    exact K u1.1 u2_1 u1.2 fd hop.2.2
  · skip
    refine yy_aload_n C 6 dL_law_1111 (pc' := 1112) rfl rfl rfl ?_
    refine yy_iconst C (v := (nI 0)) dL_law_1112 (pc' := 1113) rfl (by decide) ?_
    refine yy_lald C 50 dL_law_1113 (pc' := 1114) rfl rfl (by decide) (by decide) ?_
    refine yy_iload C 0 dL_law_1114 (pc' := 1116) rfl rfl ?_
    refine yy_i2l C (v := z1.toInt64) dL_law_1116 (pc' := 1117) rfl rfl ?_
    refine yy_lcmp C dL_law_1117 (pc' := 1118) rfl ?_
    refine yy_eqi (show _ = nI 0 by rw [hop.2.1 c_k]; exact lg_self _) ?_
    refine yy_if_eq C dL_law_1118 (pc' := 1121) rfl (tgt := 1123) (by decide) (fun _ => ?_) (fun h_ => absurd rfl h_)
    refine yy_goto C (tgt := 2020) dL_law_1123 (by decide) ?_
    refine yy_perm (w' := w1L G ad bd o1 o2 u1.1 u2_1 u1.2 fd) p21 ?_
    refine yy_loc [2, 3, 4, 5, 6, 7] rfl ?_
    exact K u1.1 u2_1 u1.2 fd hop.2.2

set_option maxHeartbeats 4000000 in
set_option maxRecDepth 100000 in
theorem law_15 (op_given : Op_given) {p : Program} {l : Launch} (hl0 : l.stackTraces = false) {e : Env} {s : State} {m : MethodId} {args : Array Value} {below : List Frame} {meth : Method} {c : Code} {G : gG} {B0 : Nat} {Q : State → Prop} (C : CX p s m args meth c cL_law RL 8 G B0) {b L0 : Nat} {xs : Nat → Int32} (hX : va_X b L0 xs s s.heap) (hbl : b < s.heap.size) (hbB : b < B0) (hL : L0 ≤ 2560) {i : Nat} (hi : i + 5 ≤ L0) {ad bd : Nat → Nat} {o1 o2 cs ss : Nat} {S : SA} {M : SM} {fo : Nat → Int64} {fd : Nat → UInt64} (hR : Rel S M) (hcs : cs + 1 ≤ room_1.cells) (hss : ss + 6 ≤ room_1.slots) (K : ∀ (S' : SA) (M' : SM) (fo' : Nat → Int64) (fd' : Nat → UInt64), Rel S' M' → YY p l e room_1 s m args below meth c G B0 8 Q 2020 [(5, .int (nI i)), (0, .ref (b)), (1, .ref (ad 0)), (2, .ref (bd 0)), (3, .ref (o1)), (4, .ref (o2))] [] (w1L G ad bd o1 o2 S' M' fo' fd') (cs + 1) (ss + 6)) : YY p l e room_1 s m args below meth c G B0 8 Q 1126 [(5, .int (nI i)), (0, .ref (b)), (1, .ref (ad 0)), (2, .ref (bd 0)), (3, .ref (o1)), (4, .ref (o2))] [] (w1L G ad bd o1 o2 S M fo fd) cs ss := by
  have hi31 : L0 < 2 ^ 31 := by omega
  have hcs0 : cs + 1 + 0 ≤ room_1.cells := by omega
  have hss0 : ss + 6 + 0 ≤ room_1.slots := by omega
  refine yy_aload_n C 2 dL_law_1126 (pc' := 1127) rfl rfl rfl ?_
  refine yy_aload_n C 1 dL_law_1127 (pc' := 1128) rfl rfl rfl ?_
  refine yy_iload C 0 dL_law_1128 (pc' := 1130) rfl rfl ?_
  refine yy_iconst C (v := (nI 1)) dL_law_1130 (pc' := 1131) rfl (by decide) ?_
  refine yy_iadd C (v := (nI (i + 1))) dL_law_1131 (pc' := 1132) rfl (nI_add i 1) ?_
  refine yy_sld C hX hbl hbB (i := i + 1) (by omega) (by omega) dL_law_1132 (pc' := 1133) rfl ?_
  refine yy_aload_n C 4 dL_law_1133 (pc' := 1134) rfl rfl rfl ?_
  refine yc_i (yr_SW C (As := [.ref (ad 0), .int (xs (i + 1)), .ref (o1)]) (rest := []) lk_L_173 cd_L_given st_L_given (mL_given l hl0 G B0 ad ((o2, .inl (G.2.2.2.2.2, 1, .inr (.inr (.inr (.inl fd))))) :: wM G bd M) S (xs (i + 1)) hR.1 o1 fo) ⟨by decide +kernel, by decide +kernel⟩ ⟨hcs, hss⟩ rfl rfl (Nat.le_of_ble_eq_true rfl) dL_law_1134) (pc' := 1137) rfl (fun r1 u1 hw1 => ?_)
  refine yy_istore C (L' := [(6, .int r1), (5, .int (nI i)), (0, .ref (b)), (1, .ref (ad 0)), (2, .ref (bd 0)), (3, .ref (o1)), (4, .ref (o2))]) dL_law_1137 (pc' := 1139) rfl (by decide) rfl ?_
  refine yy_aload_n C 4 dL_law_1139 (pc' := 1140) rfl rfl rfl ?_
  refine yy_aload_n C 2 dL_law_1140 (pc' := 1141) rfl rfl rfl ?_
  refine yy_iload C 1 dL_law_1141 (pc' := 1143) rfl rfl ?_
  refine yy_iconst C (v := (nI 1)) dL_law_1143 (pc' := 1144) rfl (by decide) ?_
  refine yy_iadd C (v := (nI (i + 1))) dL_law_1144 (pc' := 1145) rfl (nI_add i 1) ?_
  refine yy_sld C hX hbl hbB (i := i + 1) (by omega) (by omega) dL_law_1145 (pc' := 1146) rfl ?_
  refine yy_perm (w' := w2L G ad bd o1 o2 u1.1 M u1.2 fd) p12 ?_
  refine yc_i (yr_V C (As := [.int (xs (i + 1))]) (rest := []) lk_L_175 cd_X7_given im_X7_given se_X7_given (mX7_given l G B0 bd (wA G ad u1.1 ++ [(o1, .inl (G.2.2.1, 1, .inr (.inl u1.2))), (o2, .inl (G.2.2.2.2.2, 1, .inr (.inr (.inr (.inl fd)))))]) M (xs (i + 1)) hR.im) ⟨by decide +kernel, by decide +kernel⟩ ⟨hcs0, hss0⟩ 0 rfl rfl rfl rfl (Nat.le_of_ble_eq_true rfl) dL_law_1146) (pc' := 1149) rfl (fun z1 u2_1 hw_z1 => ?_)
  refine yy_istore C (L' := [(7, .int z1), (6, .int r1), (5, .int (nI i)), (0, .ref (b)), (1, .ref (ad 0)), (2, .ref (bd 0)), (3, .ref (o1)), (4, .ref (o2))]) dL_law_1149 (pc' := 1151) rfl (by decide) rfl ?_
  refine yy_aload_n C 5 dL_law_1151 (pc' := 1152) rfl rfl rfl ?_
  refine yc_i (yr_V C (As := []) (rest := []) lk_L_123 cd_X7_thrown im_X7_thrown se_X7_thrown (mX7_thrown l G B0 bd (wA G ad u1.1 ++ [(o1, .inl (G.2.2.1, 1, .inr (.inl u1.2))), (o2, .inl (G.2.2.2.2.2, 1, .inr (.inr (.inr (.inl fd)))))]) u2_1) ⟨by decide +kernel, by decide +kernel⟩ ⟨hcs0, hss0⟩ 0 rfl rfl rfl rfl (Nat.le_of_ble_eq_true rfl) dL_law_1152) (pc' := 1155) rfl (fun z2 _ hw_z2 => ?_)
  subst hw_z2
  have hop := op_given hR hw1 hw_z1
  refine yy_iload C 1 dL_law_1155 (pc' := 1157) rfl rfl ?_
  rw [← hop.1]
  refine yy_icmp_eq C dL_law_1157 (pc' := 1160) rfl (tgt := 1162) (by decide) (fun _ => ?_) (fun h_ => absurd rfl h_)
  refine yy_iload C 1 dL_law_1162 (pc' := 1164) rfl rfl ?_
  refine yy_if_ne C dL_law_1164 (pc' := 1167) rfl (tgt := 1179) (by decide) (fun _ => ?_) (fun c_k => ?_)
  · skip
    refine yy_goto C (tgt := 2020) dL_law_1179 (by decide) ?_
    refine yy_perm (w' := w1L G ad bd o1 o2 u1.1 u2_1 u1.2 fd) p21 ?_
    refine yy_loc [2, 3, 4, 5, 6, 7] rfl ?_
    exact K u1.1 u2_1 u1.2 fd hop.2.2
  · skip
    refine yy_aload_n C 6 dL_law_1167 (pc' := 1168) rfl rfl rfl ?_
    refine yy_iconst C (v := (nI 0)) dL_law_1168 (pc' := 1169) rfl (by decide) ?_
    refine yy_lald C 50 dL_law_1169 (pc' := 1170) rfl rfl (by decide) (by decide) ?_
    refine yy_iload C 0 dL_law_1170 (pc' := 1172) rfl rfl ?_
    refine yy_i2l C (v := z1.toInt64) dL_law_1172 (pc' := 1173) rfl rfl ?_
    refine yy_lcmp C dL_law_1173 (pc' := 1174) rfl ?_
    refine yy_eqi (show _ = nI 0 by rw [hop.2.1 c_k]; exact lg_self _) ?_
    refine yy_if_eq C dL_law_1174 (pc' := 1177) rfl (tgt := 1179) (by decide) (fun _ => ?_) (fun h_ => absurd rfl h_)
    refine yy_goto C (tgt := 2020) dL_law_1179 (by decide) ?_
    refine yy_perm (w' := w1L G ad bd o1 o2 u1.1 u2_1 u1.2 fd) p21 ?_
    refine yy_loc [2, 3, 4, 5, 6, 7] rfl ?_
    exact K u1.1 u2_1 u1.2 fd hop.2.2
