set_option maxHeartbeats 4000000 in
set_option maxRecDepth 100000 in
theorem law_16 (op_holders : Op_holders) {p : Program} {l : Launch} (hl0 : l.stackTraces = false) {e : Env} {s : State} {m : MethodId} {args : Array Value} {below : List Frame} {meth : Method} {c : Code} {G : gG} {B0 : Nat} {Q : State → Prop} (C : CX p s m args meth c cL_law RL 8 G B0) {b L0 : Nat} {xs : Nat → Int32} (hX : va_X b L0 xs s s.heap) (hbl : b < s.heap.size) (hbB : b < B0) (hL : L0 ≤ 2560) {i : Nat} (hi : i + 5 ≤ L0) {ad bd : Nat → Nat} {o1 o2 cs ss : Nat} {S : SA} {M : SM} {fo : Nat → Int64} {fd : Nat → UInt64} (hR : Rel S M) (hcs : cs + 1 ≤ room_1.cells) (hss : ss + 6 ≤ room_1.slots) (K : ∀ (S' : SA) (M' : SM) (fo' : Nat → Int64) (fd' : Nat → UInt64), Rel S' M' → YY p l e room_1 s m args below meth c G B0 8 Q 2020 [(5, .int (nI i)), (0, .ref (b)), (1, .ref (ad 0)), (2, .ref (bd 0)), (3, .ref (o1)), (4, .ref (o2))] [] (w1L G ad bd o1 o2 S' M' fo' fd') (cs + 1) (ss + 6)) : YY p l e room_1 s m args below meth c G B0 8 Q 1182 [(5, .int (nI i)), (0, .ref (b)), (1, .ref (ad 0)), (2, .ref (bd 0)), (3, .ref (o1)), (4, .ref (o2))] [] (w1L G ad bd o1 o2 S M fo fd) cs ss := by
  have hi31 : L0 < 2 ^ 31 := by omega
  have hcs0 : cs + 1 + 0 ≤ room_1.cells := by omega
  have hss0 : ss + 6 + 0 ≤ room_1.slots := by omega
  refine yy_aload_n C 2 dL_law_1182 (pc' := 1183) rfl rfl rfl ?_
  refine yy_aload_n C 1 dL_law_1183 (pc' := 1184) rfl rfl rfl ?_
  refine yy_iload C 0 dL_law_1184 (pc' := 1186) rfl rfl ?_
  refine yy_iconst C (v := (nI 1)) dL_law_1186 (pc' := 1187) rfl (by decide) ?_
  refine yy_iadd C (v := (nI (i + 1))) dL_law_1187 (pc' := 1188) rfl (nI_add i 1) ?_
  refine yy_sld C hX hbl hbB (i := i + 1) (by omega) (by omega) dL_law_1188 (pc' := 1189) rfl ?_
  refine yy_aload_n C 4 dL_law_1189 (pc' := 1190) rfl rfl rfl ?_
  refine yc_i (yr_SW C (As := [.ref (ad 0), .int (xs (i + 1)), .ref (o1)]) (rest := []) lk_L_176 cd_L_holders st_L_holders (mL_holders l hl0 G B0 ad ((o2, .inl (G.2.2.2.2.2, 1, .inr (.inr (.inr (.inl fd))))) :: wM G bd M) S (xs (i + 1)) hR.1 o1 fo) ⟨by decide +kernel, by decide +kernel⟩ ⟨hcs, hss⟩ rfl rfl (Nat.le_of_ble_eq_true rfl) dL_law_1190) (pc' := 1193) rfl (fun r1 u1 hw1 => ?_)
  refine yy_istore C (L' := [(6, .int r1), (5, .int (nI i)), (0, .ref (b)), (1, .ref (ad 0)), (2, .ref (bd 0)), (3, .ref (o1)), (4, .ref (o2))]) dL_law_1193 (pc' := 1195) rfl (by decide) rfl ?_
  refine yy_aload_n C 4 dL_law_1195 (pc' := 1196) rfl rfl rfl ?_
  refine yy_aload_n C 2 dL_law_1196 (pc' := 1197) rfl rfl rfl ?_
  refine yy_iload C 1 dL_law_1197 (pc' := 1199) rfl rfl ?_
  refine yy_iconst C (v := (nI 1)) dL_law_1199 (pc' := 1200) rfl (by decide) ?_
  refine yy_iadd C (v := (nI (i + 1))) dL_law_1200 (pc' := 1201) rfl (nI_add i 1) ?_
  refine yy_sld C hX hbl hbB (i := i + 1) (by omega) (by omega) dL_law_1201 (pc' := 1202) rfl ?_
  refine yy_perm (w' := w2L G ad bd o1 o2 u1.1 M u1.2 fd) p12 ?_
  refine yc_i (yr_V C (As := [.int (xs (i + 1))]) (rest := []) lk_L_178 cd_X7_holders im_X7_holders se_X7_holders (mX7_holders l G B0 bd (wA G ad u1.1 ++ [(o1, .inl (G.2.2.1, 1, .inr (.inl u1.2))), (o2, .inl (G.2.2.2.2.2, 1, .inr (.inr (.inr (.inl fd)))))]) M (fun a => mk (S.2.2 0 a)) hR.rows (xs (i + 1)) hR.im) ⟨by decide +kernel, by decide +kernel⟩ ⟨hcs0, hss0⟩ 0 rfl rfl rfl rfl (Nat.le_of_ble_eq_true rfl) dL_law_1202) (pc' := 1205) rfl (fun z1 u2_1 hw_z1 => ?_)
  refine yy_istore C (L' := [(7, .int z1), (6, .int r1), (5, .int (nI i)), (0, .ref (b)), (1, .ref (ad 0)), (2, .ref (bd 0)), (3, .ref (o1)), (4, .ref (o2))]) dL_law_1205 (pc' := 1207) rfl (by decide) rfl ?_
  refine yy_aload_n C 5 dL_law_1207 (pc' := 1208) rfl rfl rfl ?_
  refine yc_i (yr_V C (As := []) (rest := []) lk_L_123 cd_X7_thrown im_X7_thrown se_X7_thrown (mX7_thrown l G B0 bd (wA G ad u1.1 ++ [(o1, .inl (G.2.2.1, 1, .inr (.inl u1.2))), (o2, .inl (G.2.2.2.2.2, 1, .inr (.inr (.inr (.inl fd)))))]) u2_1) ⟨by decide +kernel, by decide +kernel⟩ ⟨hcs0, hss0⟩ 0 rfl rfl rfl rfl (Nat.le_of_ble_eq_true rfl) dL_law_1208) (pc' := 1211) rfl (fun z2 _ hw_z2 => ?_)
  subst hw_z2
  have hop := op_holders hR hw1 hw_z1
  refine yy_iload C 1 dL_law_1211 (pc' := 1213) rfl rfl ?_
  rw [← hop.1]
  refine yy_icmp_eq C dL_law_1213 (pc' := 1216) rfl (tgt := 1218) (by decide) (fun _ => ?_) (fun h_ => absurd rfl h_)
  refine yy_iload C 1 dL_law_1218 (pc' := 1220) rfl rfl ?_
  refine yy_if_ne C dL_law_1220 (pc' := 1223) rfl (tgt := 1235) (by decide) (fun _ => ?_) (fun c_k => ?_)
  · skip
    refine yy_goto C (tgt := 2020) dL_law_1235 (by decide) ?_
    refine yy_perm (w' := w1L G ad bd o1 o2 u1.1 u2_1 u1.2 fd) p21 ?_
    refine yy_loc [2, 3, 4, 5, 6, 7] rfl ?_
    exact K u1.1 u2_1 u1.2 fd hop.2.2
  · skip
    refine yy_aload_n C 6 dL_law_1223 (pc' := 1224) rfl rfl rfl ?_
    refine yy_iconst C (v := (nI 0)) dL_law_1224 (pc' := 1225) rfl (by decide) ?_
    refine yy_lald C 50 dL_law_1225 (pc' := 1226) rfl rfl (by decide) (by decide) ?_
    refine yy_iload C 0 dL_law_1226 (pc' := 1228) rfl rfl ?_
    refine yy_i2l C (v := z1.toInt64) dL_law_1228 (pc' := 1229) rfl rfl ?_
    refine yy_lcmp C dL_law_1229 (pc' := 1230) rfl ?_
    refine yy_eqi (show _ = nI 0 by rw [hop.2.1 c_k]; exact lg_self _) ?_
    refine yy_if_eq C dL_law_1230 (pc' := 1233) rfl (tgt := 1235) (by decide) (fun _ => ?_) (fun h_ => absurd rfl h_)
    refine yy_goto C (tgt := 2020) dL_law_1235 (by decide) ?_
    refine yy_perm (w' := w1L G ad bd o1 o2 u1.1 u2_1 u1.2 fd) p21 ?_
    refine yy_loc [2, 3, 4, 5, 6, 7] rfl ?_
    exact K u1.1 u2_1 u1.2 fd hop.2.2

set_option maxHeartbeats 4000000 in
set_option maxRecDepth 100000 in
theorem law_17 (op_why : Op_why) {p : Program} {l : Launch} (hl0 : l.stackTraces = false) {e : Env} {s : State} {m : MethodId} {args : Array Value} {below : List Frame} {meth : Method} {c : Code} {G : gG} {B0 : Nat} {Q : State → Prop} (C : CX p s m args meth c cL_law RL 8 G B0) {b L0 : Nat} {xs : Nat → Int32} (hX : va_X b L0 xs s s.heap) (hbl : b < s.heap.size) (hbB : b < B0) (hL : L0 ≤ 2560) {i : Nat} (hi : i + 5 ≤ L0) {ad bd : Nat → Nat} {o1 o2 cs ss : Nat} {S : SA} {M : SM} {fo : Nat → Int64} {fd : Nat → UInt64} (hR : Rel S M) (hcs : cs + 1 ≤ room_1.cells) (hss : ss + 6 ≤ room_1.slots) (K : ∀ (S' : SA) (M' : SM) (fo' : Nat → Int64) (fd' : Nat → UInt64), Rel S' M' → YY p l e room_1 s m args below meth c G B0 8 Q 2020 [(5, .int (nI i)), (0, .ref (b)), (1, .ref (ad 0)), (2, .ref (bd 0)), (3, .ref (o1)), (4, .ref (o2))] [] (w1L G ad bd o1 o2 S' M' fo' fd') (cs + 1) (ss + 6)) : YY p l e room_1 s m args below meth c G B0 8 Q 1238 [(5, .int (nI i)), (0, .ref (b)), (1, .ref (ad 0)), (2, .ref (bd 0)), (3, .ref (o1)), (4, .ref (o2))] [] (w1L G ad bd o1 o2 S M fo fd) cs ss := by
  have hi31 : L0 < 2 ^ 31 := by omega
  have hcs0 : cs + 1 + 0 ≤ room_1.cells := by omega
  have hss0 : ss + 6 + 0 ≤ room_1.slots := by omega
  refine yy_aload_n C 2 dL_law_1238 (pc' := 1239) rfl rfl rfl ?_
  refine yy_aload_n C 1 dL_law_1239 (pc' := 1240) rfl rfl rfl ?_
  refine yy_iload C 0 dL_law_1240 (pc' := 1242) rfl rfl ?_
  refine yy_iconst C (v := (nI 1)) dL_law_1242 (pc' := 1243) rfl (by decide) ?_
  refine yy_iadd C (v := (nI (i + 1))) dL_law_1243 (pc' := 1244) rfl (nI_add i 1) ?_
  refine yy_sld C hX hbl hbB (i := i + 1) (by omega) (by omega) dL_law_1244 (pc' := 1245) rfl ?_
  refine yy_aload_n C 1 dL_law_1245 (pc' := 1246) rfl rfl rfl ?_
  refine yy_iload C 0 dL_law_1246 (pc' := 1248) rfl rfl ?_
  refine yy_iconst C (v := (nI 2)) dL_law_1248 (pc' := 1249) rfl (by decide) ?_
  refine yy_iadd C (v := (nI (i + 2))) dL_law_1249 (pc' := 1250) rfl (nI_add i 2) ?_
  refine yy_sld C hX hbl hbB (i := i + 2) (by omega) (by omega) dL_law_1250 (pc' := 1251) rfl ?_
  refine yy_aload_n C 4 dL_law_1251 (pc' := 1252) rfl rfl rfl ?_
  refine yc_i (yr_SW C (As := [.ref (ad 0), .int (xs (i + 1)), .int (xs (i + 2)), .ref (o1)]) (rest := []) lk_L_179 cd_L_why st_L_why (mL_why l hl0 G B0 ad ((o2, .inl (G.2.2.2.2.2, 1, .inr (.inr (.inr (.inl fd))))) :: wM G bd M) S (xs (i + 1)) (xs (i + 2)) hR.1 o1 fo) ⟨by decide +kernel, by decide +kernel⟩ ⟨hcs, hss⟩ rfl rfl (Nat.le_of_ble_eq_true rfl) dL_law_1252) (pc' := 1255) rfl (fun r1 u1 hw1 => ?_)
  refine yy_istore C (L' := [(6, .int r1), (5, .int (nI i)), (0, .ref (b)), (1, .ref (ad 0)), (2, .ref (bd 0)), (3, .ref (o1)), (4, .ref (o2))]) dL_law_1255 (pc' := 1257) rfl (by decide) rfl ?_
  refine yy_aload_n C 4 dL_law_1257 (pc' := 1258) rfl rfl rfl ?_
  refine yy_aload_n C 2 dL_law_1258 (pc' := 1259) rfl rfl rfl ?_
  refine yy_iload C 1 dL_law_1259 (pc' := 1261) rfl rfl ?_
  refine yy_iconst C (v := (nI 1)) dL_law_1261 (pc' := 1262) rfl (by decide) ?_
  refine yy_iadd C (v := (nI (i + 1))) dL_law_1262 (pc' := 1263) rfl (nI_add i 1) ?_
  refine yy_sld C hX hbl hbB (i := i + 1) (by omega) (by omega) dL_law_1263 (pc' := 1264) rfl ?_
  refine yy_aload_n C 2 dL_law_1264 (pc' := 1265) rfl rfl rfl ?_
  refine yy_iload C 1 dL_law_1265 (pc' := 1267) rfl rfl ?_
  refine yy_iconst C (v := (nI 2)) dL_law_1267 (pc' := 1268) rfl (by decide) ?_
  refine yy_iadd C (v := (nI (i + 2))) dL_law_1268 (pc' := 1269) rfl (nI_add i 2) ?_
  refine yy_sld C hX hbl hbB (i := i + 2) (by omega) (by omega) dL_law_1269 (pc' := 1270) rfl ?_
  refine yy_perm (w' := w2L G ad bd o1 o2 u1.1 M u1.2 fd) p12 ?_
  refine yc_i (yr_V C (As := [.int (xs (i + 1)), .int (xs (i + 2))]) (rest := []) lk_L_181 cd_X7_why im_X7_why se_X7_why (mX7_why l G B0 bd (wA G ad u1.1 ++ [(o1, .inl (G.2.2.1, 1, .inr (.inl u1.2))), (o2, .inl (G.2.2.2.2.2, 1, .inr (.inr (.inr (.inl fd)))))]) M (xs (i + 1)) (xs (i + 2)) (fun a => mk (S.2.2 0 a)) hR.rows hR.im) ⟨by decide +kernel, by decide +kernel⟩ ⟨hcs0, hss0⟩ 0 rfl rfl rfl rfl (Nat.le_of_ble_eq_true rfl) dL_law_1270) (pc' := 1273) rfl (fun z1 u2_1 hw_z1 => ?_)
  refine yy_istore C (L' := [(7, .int z1), (6, .int r1), (5, .int (nI i)), (0, .ref (b)), (1, .ref (ad 0)), (2, .ref (bd 0)), (3, .ref (o1)), (4, .ref (o2))]) dL_law_1273 (pc' := 1275) rfl (by decide) rfl ?_
  refine yy_aload_n C 5 dL_law_1275 (pc' := 1276) rfl rfl rfl ?_
  refine yc_i (yr_V C (As := []) (rest := []) lk_L_123 cd_X7_thrown im_X7_thrown se_X7_thrown (mX7_thrown l G B0 bd (wA G ad u1.1 ++ [(o1, .inl (G.2.2.1, 1, .inr (.inl u1.2))), (o2, .inl (G.2.2.2.2.2, 1, .inr (.inr (.inr (.inl fd)))))]) (mN (mI M 19 u2_1) 0 (cdNH (M.1 2) (fun j k => ((fun a => mk (S.2.2 0 a)) j).testBit k) (xs (i + 1)) (xs (i + 2))))) ⟨by decide +kernel, by decide +kernel⟩ ⟨hcs0, hss0⟩ 0 rfl rfl rfl rfl (Nat.le_of_ble_eq_true rfl) dL_law_1276) (pc' := 1279) rfl (fun z2 _ hw_z2 => ?_)
  subst hw_z2
  have hop := op_why (u2 := u2_1) hR hw1 hw_z1
  refine yy_iload C 1 dL_law_1279 (pc' := 1281) rfl rfl ?_
  rw [← hop.1]
  refine yy_icmp_eq C dL_law_1281 (pc' := 1284) rfl (tgt := 1286) (by decide) (fun _ => ?_) (fun h_ => absurd rfl h_)
  refine yy_iload C 1 dL_law_1286 (pc' := 1288) rfl rfl ?_
  refine yy_if_ne C dL_law_1288 (pc' := 1291) rfl (tgt := 1303) (by decide) (fun _ => ?_) (fun c_k => ?_)
  · skip
    refine yy_goto C (tgt := 2020) dL_law_1303 (by decide) ?_
    refine yy_perm (w' := w1L G ad bd o1 o2 u1.1 (mN (mI M 19 u2_1) 0 (cdNH (M.1 2) (fun j k => ((fun a => mk (S.2.2 0 a)) j).testBit k) (xs (i + 1)) (xs (i + 2)))) u1.2 fd) p21 ?_
    refine yy_loc [2, 3, 4, 5, 6, 7] rfl ?_
    exact K u1.1 (mN (mI M 19 u2_1) 0 (cdNH (M.1 2) (fun j k => ((fun a => mk (S.2.2 0 a)) j).testBit k) (xs (i + 1)) (xs (i + 2)))) u1.2 fd hop.2.2
  · skip
    refine yy_aload_n C 6 dL_law_1291 (pc' := 1292) rfl rfl rfl ?_
    refine yy_iconst C (v := (nI 0)) dL_law_1292 (pc' := 1293) rfl (by decide) ?_
    refine yy_lald C 50 dL_law_1293 (pc' := 1294) rfl rfl (by decide) (by decide) ?_
    refine yy_iload C 0 dL_law_1294 (pc' := 1296) rfl rfl ?_
    refine yy_i2l C (v := z1.toInt64) dL_law_1296 (pc' := 1297) rfl rfl ?_
    refine yy_lcmp C dL_law_1297 (pc' := 1298) rfl ?_
    refine yy_eqi (show _ = nI 0 by rw [hop.2.1 c_k]; exact lg_self _) ?_
    refine yy_if_eq C dL_law_1298 (pc' := 1301) rfl (tgt := 1303) (by decide) (fun _ => ?_) (fun h_ => absurd rfl h_)
    refine yy_goto C (tgt := 2020) dL_law_1303 (by decide) ?_
    refine yy_perm (w' := w1L G ad bd o1 o2 u1.1 (mN (mI M 19 u2_1) 0 (cdNH (M.1 2) (fun j k => ((fun a => mk (S.2.2 0 a)) j).testBit k) (xs (i + 1)) (xs (i + 2)))) u1.2 fd) p21 ?_
    refine yy_loc [2, 3, 4, 5, 6, 7] rfl ?_
    exact K u1.1 (mN (mI M 19 u2_1) 0 (cdNH (M.1 2) (fun j k => ((fun a => mk (S.2.2 0 a)) j).testBit k) (xs (i + 1)) (xs (i + 2)))) u1.2 fd hop.2.2

set_option maxHeartbeats 4000000 in
set_option maxRecDepth 100000 in
theorem law_18 (op_root : Op_root) {p : Program} {l : Launch} (hl0 : l.stackTraces = false) {e : Env} {s : State} {m : MethodId} {args : Array Value} {below : List Frame} {meth : Method} {c : Code} {G : gG} {B0 : Nat} {Q : State → Prop} (C : CX p s m args meth c cL_law RL 8 G B0) {b L0 : Nat} {xs : Nat → Int32} (hX : va_X b L0 xs s s.heap) (hbl : b < s.heap.size) (hbB : b < B0) (hL : L0 ≤ 2560) {i : Nat} (hi : i + 5 ≤ L0) {ad bd : Nat → Nat} {o1 o2 cs ss : Nat} {S : SA} {M : SM} {fo : Nat → Int64} {fd : Nat → UInt64} (hR : Rel S M) (hcs : cs + 1 ≤ room_1.cells) (hss : ss + 6 ≤ room_1.slots) (K : ∀ (S' : SA) (M' : SM) (fo' : Nat → Int64) (fd' : Nat → UInt64), Rel S' M' → YY p l e room_1 s m args below meth c G B0 8 Q 2020 [(5, .int (nI i)), (0, .ref (b)), (1, .ref (ad 0)), (2, .ref (bd 0)), (3, .ref (o1)), (4, .ref (o2))] [] (w1L G ad bd o1 o2 S' M' fo' fd') (cs + 1) (ss + 6)) : YY p l e room_1 s m args below meth c G B0 8 Q 1306 [(5, .int (nI i)), (0, .ref (b)), (1, .ref (ad 0)), (2, .ref (bd 0)), (3, .ref (o1)), (4, .ref (o2))] [] (w1L G ad bd o1 o2 S M fo fd) cs ss := by
  have hi31 : L0 < 2 ^ 31 := by omega
  have hcs0 : cs + 1 + 0 ≤ room_1.cells := by omega
  have hss0 : ss + 6 + 0 ≤ room_1.slots := by omega
  refine yy_aload_n C 2 dL_law_1306 (pc' := 1307) rfl rfl rfl ?_
  refine yy_aload_n C 1 dL_law_1307 (pc' := 1308) rfl rfl rfl ?_
  refine yy_iload C 0 dL_law_1308 (pc' := 1310) rfl rfl ?_
  refine yy_iconst C (v := (nI 1)) dL_law_1310 (pc' := 1311) rfl (by decide) ?_
  refine yy_iadd C (v := (nI (i + 1))) dL_law_1311 (pc' := 1312) rfl (nI_add i 1) ?_
  refine yy_sld C hX hbl hbB (i := i + 1) (by omega) (by omega) dL_law_1312 (pc' := 1313) rfl ?_
  refine yy_aload_n C 1 dL_law_1313 (pc' := 1314) rfl rfl rfl ?_
  refine yy_iload C 0 dL_law_1314 (pc' := 1316) rfl rfl ?_
  refine yy_iconst C (v := (nI 2)) dL_law_1316 (pc' := 1317) rfl (by decide) ?_
  refine yy_iadd C (v := (nI (i + 2))) dL_law_1317 (pc' := 1318) rfl (nI_add i 2) ?_
  refine yy_sld C hX hbl hbB (i := i + 2) (by omega) (by omega) dL_law_1318 (pc' := 1319) rfl ?_
  refine yy_aload_n C 4 dL_law_1319 (pc' := 1320) rfl rfl rfl ?_
  refine yc_i (yr_SW C (As := [.ref (ad 0), .int (xs (i + 1)), .int (xs (i + 2)), .ref (o1)]) (rest := []) lk_L_182 cd_L_root st_L_root (mL_root l hl0 G B0 ad ((o2, .inl (G.2.2.2.2.2, 1, .inr (.inr (.inr (.inl fd))))) :: wM G bd M) S (xs (i + 1)) (xs (i + 2)) hR.1 o1 fo) ⟨by decide +kernel, by decide +kernel⟩ ⟨hcs, hss⟩ rfl rfl (Nat.le_of_ble_eq_true rfl) dL_law_1320) (pc' := 1323) rfl (fun r1 u1 hw1 => ?_)
  refine yy_istore C (L' := [(6, .int r1), (5, .int (nI i)), (0, .ref (b)), (1, .ref (ad 0)), (2, .ref (bd 0)), (3, .ref (o1)), (4, .ref (o2))]) dL_law_1323 (pc' := 1325) rfl (by decide) rfl ?_
  refine yy_aload_n C 4 dL_law_1325 (pc' := 1326) rfl rfl rfl ?_
  refine yy_aload_n C 2 dL_law_1326 (pc' := 1327) rfl rfl rfl ?_
  refine yy_iload C 1 dL_law_1327 (pc' := 1329) rfl rfl ?_
  refine yy_iconst C (v := (nI 1)) dL_law_1329 (pc' := 1330) rfl (by decide) ?_
  refine yy_iadd C (v := (nI (i + 1))) dL_law_1330 (pc' := 1331) rfl (nI_add i 1) ?_
  refine yy_sld C hX hbl hbB (i := i + 1) (by omega) (by omega) dL_law_1331 (pc' := 1332) rfl ?_
  refine yy_aload_n C 2 dL_law_1332 (pc' := 1333) rfl rfl rfl ?_
  refine yy_iload C 1 dL_law_1333 (pc' := 1335) rfl rfl ?_
  refine yy_iconst C (v := (nI 2)) dL_law_1335 (pc' := 1336) rfl (by decide) ?_
  refine yy_iadd C (v := (nI (i + 2))) dL_law_1336 (pc' := 1337) rfl (nI_add i 2) ?_
  refine yy_sld C hX hbl hbB (i := i + 2) (by omega) (by omega) dL_law_1337 (pc' := 1338) rfl ?_
  refine yy_perm (w' := w2L G ad bd o1 o2 u1.1 M u1.2 fd) p12 ?_
  refine yc_i (yr_V C (As := [.int (xs (i + 1)), .int (xs (i + 2))]) (rest := []) lk_L_184 cd_X7_root im_X7_root se_X7_root (mX7_root l G B0 bd (wA G ad u1.1 ++ [(o1, .inl (G.2.2.1, 1, .inr (.inl u1.2))), (o2, .inl (G.2.2.2.2.2, 1, .inr (.inr (.inr (.inl fd)))))]) M (xs (i + 1)) (xs (i + 2)) (fun a => mk (S.2.2 0 a)) hR.rows hR.im) ⟨by decide +kernel, by decide +kernel⟩ ⟨hcs0, hss0⟩ 0 rfl rfl rfl rfl (Nat.le_of_ble_eq_true rfl) dL_law_1338) (pc' := 1341) rfl (fun z1 u2_1 hw_z1 => ?_)
  refine yy_istore C (L' := [(7, .int z1), (6, .int r1), (5, .int (nI i)), (0, .ref (b)), (1, .ref (ad 0)), (2, .ref (bd 0)), (3, .ref (o1)), (4, .ref (o2))]) dL_law_1341 (pc' := 1343) rfl (by decide) rfl ?_
  refine yy_aload_n C 5 dL_law_1343 (pc' := 1344) rfl rfl rfl ?_
  refine yc_i (yr_V C (As := []) (rest := []) lk_L_123 cd_X7_thrown im_X7_thrown se_X7_thrown (mX7_thrown l G B0 bd (wA G ad u1.1 ++ [(o1, .inl (G.2.2.1, 1, .inr (.inl u1.2))), (o2, .inl (G.2.2.2.2.2, 1, .inr (.inr (.inr (.inl fd)))))]) (mN (mI M 19 u2_1) 0 (rtM M (fun a => mk (S.2.2 0 a)) (xs (i + 1)) (xs (i + 2))))) ⟨by decide +kernel, by decide +kernel⟩ ⟨hcs0, hss0⟩ 0 rfl rfl rfl rfl (Nat.le_of_ble_eq_true rfl) dL_law_1344) (pc' := 1347) rfl (fun z2 _ hw_z2 => ?_)
  subst hw_z2
  have hop := op_root (u2 := u2_1) hR hw1 hw_z1
  refine yy_iload C 1 dL_law_1347 (pc' := 1349) rfl rfl ?_
  rw [← hop.1]
  refine yy_icmp_eq C dL_law_1349 (pc' := 1352) rfl (tgt := 1354) (by decide) (fun _ => ?_) (fun h_ => absurd rfl h_)
  refine yy_iload C 1 dL_law_1354 (pc' := 1356) rfl rfl ?_
  refine yy_if_ne C dL_law_1356 (pc' := 1359) rfl (tgt := 1371) (by decide) (fun _ => ?_) (fun c_k => ?_)
  · skip
    refine yy_goto C (tgt := 2020) dL_law_1371 (by decide) ?_
    refine yy_perm (w' := w1L G ad bd o1 o2 u1.1 (mN (mI M 19 u2_1) 0 (rtM M (fun a => mk (S.2.2 0 a)) (xs (i + 1)) (xs (i + 2)))) u1.2 fd) p21 ?_
    refine yy_loc [2, 3, 4, 5, 6, 7] rfl ?_
    exact K u1.1 (mN (mI M 19 u2_1) 0 (rtM M (fun a => mk (S.2.2 0 a)) (xs (i + 1)) (xs (i + 2)))) u1.2 fd hop.2.2
  · skip
    refine yy_aload_n C 6 dL_law_1359 (pc' := 1360) rfl rfl rfl ?_
    refine yy_iconst C (v := (nI 0)) dL_law_1360 (pc' := 1361) rfl (by decide) ?_
    refine yy_lald C 50 dL_law_1361 (pc' := 1362) rfl rfl (by decide) (by decide) ?_
    refine yy_iload C 0 dL_law_1362 (pc' := 1364) rfl rfl ?_
    refine yy_i2l C (v := z1.toInt64) dL_law_1364 (pc' := 1365) rfl rfl ?_
    refine yy_lcmp C dL_law_1365 (pc' := 1366) rfl ?_
    refine yy_eqi (show _ = nI 0 by rw [hop.2.1 c_k]; exact lg_self _) ?_
    refine yy_if_eq C dL_law_1366 (pc' := 1369) rfl (tgt := 1371) (by decide) (fun _ => ?_) (fun h_ => absurd rfl h_)
    refine yy_goto C (tgt := 2020) dL_law_1371 (by decide) ?_
    refine yy_perm (w' := w1L G ad bd o1 o2 u1.1 (mN (mI M 19 u2_1) 0 (rtM M (fun a => mk (S.2.2 0 a)) (xs (i + 1)) (xs (i + 2)))) u1.2 fd) p21 ?_
    refine yy_loc [2, 3, 4, 5, 6, 7] rfl ?_
    exact K u1.1 (mN (mI M 19 u2_1) 0 (rtM M (fun a => mk (S.2.2 0 a)) (xs (i + 1)) (xs (i + 2)))) u1.2 fd hop.2.2

set_option maxHeartbeats 4000000 in
set_option maxRecDepth 100000 in
theorem law_19 (op_causes : Op_causes) {p : Program} {l : Launch} (hl0 : l.stackTraces = false) {e : Env} {s : State} {m : MethodId} {args : Array Value} {below : List Frame} {meth : Method} {c : Code} {G : gG} {B0 : Nat} {Q : State → Prop} (C : CX p s m args meth c cL_law RL 8 G B0) {b L0 : Nat} {xs : Nat → Int32} (hX : va_X b L0 xs s s.heap) (hbl : b < s.heap.size) (hbB : b < B0) (hL : L0 ≤ 2560) {i : Nat} (hi : i + 5 ≤ L0) {ad bd : Nat → Nat} {o1 o2 cs ss : Nat} {S : SA} {M : SM} {fo : Nat → Int64} {fd : Nat → UInt64} (hR : Rel S M) (hcs : cs + 1 ≤ room_1.cells) (hss : ss + 6 ≤ room_1.slots) (K : ∀ (S' : SA) (M' : SM) (fo' : Nat → Int64) (fd' : Nat → UInt64), Rel S' M' → YY p l e room_1 s m args below meth c G B0 8 Q 2020 [(5, .int (nI i)), (0, .ref (b)), (1, .ref (ad 0)), (2, .ref (bd 0)), (3, .ref (o1)), (4, .ref (o2))] [] (w1L G ad bd o1 o2 S' M' fo' fd') (cs + 1) (ss + 6)) : YY p l e room_1 s m args below meth c G B0 8 Q 1374 [(5, .int (nI i)), (0, .ref (b)), (1, .ref (ad 0)), (2, .ref (bd 0)), (3, .ref (o1)), (4, .ref (o2))] [] (w1L G ad bd o1 o2 S M fo fd) cs ss := by
  have hi31 : L0 < 2 ^ 31 := by omega
  have hcs0 : cs + 1 + 0 ≤ room_1.cells := by omega
  have hss0 : ss + 6 + 0 ≤ room_1.slots := by omega
  refine yy_aload_n C 2 dL_law_1374 (pc' := 1375) rfl rfl rfl ?_
  refine yy_aload_n C 1 dL_law_1375 (pc' := 1376) rfl rfl rfl ?_
  refine yy_iload C 0 dL_law_1376 (pc' := 1378) rfl rfl ?_
  refine yy_iconst C (v := (nI 1)) dL_law_1378 (pc' := 1379) rfl (by decide) ?_
  refine yy_iadd C (v := (nI (i + 1))) dL_law_1379 (pc' := 1380) rfl (nI_add i 1) ?_
  refine yy_sld C hX hbl hbB (i := i + 1) (by omega) (by omega) dL_law_1380 (pc' := 1381) rfl ?_
  refine yy_aload_n C 1 dL_law_1381 (pc' := 1382) rfl rfl rfl ?_
  refine yy_iload C 0 dL_law_1382 (pc' := 1384) rfl rfl ?_
  refine yy_iconst C (v := (nI 2)) dL_law_1384 (pc' := 1385) rfl (by decide) ?_
  refine yy_iadd C (v := (nI (i + 2))) dL_law_1385 (pc' := 1386) rfl (nI_add i 2) ?_
  refine yy_sld C hX hbl hbB (i := i + 2) (by omega) (by omega) dL_law_1386 (pc' := 1387) rfl ?_
  refine yy_aload_n C 4 dL_law_1387 (pc' := 1388) rfl rfl rfl ?_
  refine yc_i (yr_SW C (As := [.ref (ad 0), .int (xs (i + 1)), .int (xs (i + 2)), .ref (o1)]) (rest := []) lk_L_185 cd_L_causes st_L_causes (mL_causes l hl0 G B0 ad ((o2, .inl (G.2.2.2.2.2, 1, .inr (.inr (.inr (.inl fd))))) :: wM G bd M) S (xs (i + 1)) (xs (i + 2)) hR.1 o1 fo) ⟨by decide +kernel, by decide +kernel⟩ ⟨hcs, hss⟩ rfl rfl (Nat.le_of_ble_eq_true rfl) dL_law_1388) (pc' := 1391) rfl (fun r1 u1 hw1 => ?_)
  refine yy_istore C (L' := [(6, .int r1), (5, .int (nI i)), (0, .ref (b)), (1, .ref (ad 0)), (2, .ref (bd 0)), (3, .ref (o1)), (4, .ref (o2))]) dL_law_1391 (pc' := 1393) rfl (by decide) rfl ?_
  refine yy_aload_n C 4 dL_law_1393 (pc' := 1394) rfl rfl rfl ?_
  refine yy_aload_n C 2 dL_law_1394 (pc' := 1395) rfl rfl rfl ?_
  refine yy_iload C 1 dL_law_1395 (pc' := 1397) rfl rfl ?_
  refine yy_iconst C (v := (nI 1)) dL_law_1397 (pc' := 1398) rfl (by decide) ?_
  refine yy_iadd C (v := (nI (i + 1))) dL_law_1398 (pc' := 1399) rfl (nI_add i 1) ?_
  refine yy_sld C hX hbl hbB (i := i + 1) (by omega) (by omega) dL_law_1399 (pc' := 1400) rfl ?_
  refine yy_aload_n C 2 dL_law_1400 (pc' := 1401) rfl rfl rfl ?_
  refine yy_iload C 1 dL_law_1401 (pc' := 1403) rfl rfl ?_
  refine yy_iconst C (v := (nI 2)) dL_law_1403 (pc' := 1404) rfl (by decide) ?_
  refine yy_iadd C (v := (nI (i + 2))) dL_law_1404 (pc' := 1405) rfl (nI_add i 2) ?_
  refine yy_sld C hX hbl hbB (i := i + 2) (by omega) (by omega) dL_law_1405 (pc' := 1406) rfl ?_
  refine yy_perm (w' := w2L G ad bd o1 o2 u1.1 M u1.2 fd) p12 ?_
  refine yc_i (yr_V C (As := [.int (xs (i + 1)), .int (xs (i + 2))]) (rest := []) lk_L_187 cd_X7_causes im_X7_causes se_X7_causes (mX7_causes l G B0 bd (wA G ad u1.1 ++ [(o1, .inl (G.2.2.1, 1, .inr (.inl u1.2))), (o2, .inl (G.2.2.2.2.2, 1, .inr (.inr (.inr (.inl fd)))))]) M (xs (i + 1)) (xs (i + 2)) (fun a => mk (S.2.2 0 a)) hR.rows hR.im) ⟨by decide +kernel, by decide +kernel⟩ ⟨hcs0, hss0⟩ 0 rfl rfl rfl rfl (Nat.le_of_ble_eq_true rfl) dL_law_1406) (pc' := 1409) rfl (fun z1 u2_1 hw_z1 => ?_)
  refine yy_istore C (L' := [(7, .int z1), (6, .int r1), (5, .int (nI i)), (0, .ref (b)), (1, .ref (ad 0)), (2, .ref (bd 0)), (3, .ref (o1)), (4, .ref (o2))]) dL_law_1409 (pc' := 1411) rfl (by decide) rfl ?_
  refine yy_aload_n C 5 dL_law_1411 (pc' := 1412) rfl rfl rfl ?_
  refine yc_i (yr_V C (As := []) (rest := []) lk_L_123 cd_X7_thrown im_X7_thrown se_X7_thrown (mX7_thrown l G B0 bd (wA G ad u1.1 ++ [(o1, .inl (G.2.2.1, 1, .inr (.inl u1.2))), (o2, .inl (G.2.2.2.2.2, 1, .inr (.inr (.inr (.inl fd)))))]) (mN (mI M 19 u2_1) 0 (cdNH (M.1 2) (fun j k => ((fun a => mk (S.2.2 0 a)) j).testBit k) (xs (i + 1)) (xs (i + 2))))) ⟨by decide +kernel, by decide +kernel⟩ ⟨hcs0, hss0⟩ 0 rfl rfl rfl rfl (Nat.le_of_ble_eq_true rfl) dL_law_1412) (pc' := 1415) rfl (fun z2 _ hw_z2 => ?_)
  subst hw_z2
  have hop := op_causes (u2 := u2_1) hR hw1 hw_z1
  refine yy_iload C 1 dL_law_1415 (pc' := 1417) rfl rfl ?_
  rw [← hop.1]
  refine yy_icmp_eq C dL_law_1417 (pc' := 1420) rfl (tgt := 1422) (by decide) (fun _ => ?_) (fun h_ => absurd rfl h_)
  refine yy_iload C 1 dL_law_1422 (pc' := 1424) rfl rfl ?_
  refine yy_if_ne C dL_law_1424 (pc' := 1427) rfl (tgt := 1439) (by decide) (fun _ => ?_) (fun c_k => ?_)
  · skip
    refine yy_goto C (tgt := 2020) dL_law_1439 (by decide) ?_
    refine yy_perm (w' := w1L G ad bd o1 o2 u1.1 (mN (mI M 19 u2_1) 0 (cdNH (M.1 2) (fun j k => ((fun a => mk (S.2.2 0 a)) j).testBit k) (xs (i + 1)) (xs (i + 2)))) u1.2 fd) p21 ?_
    refine yy_loc [2, 3, 4, 5, 6, 7] rfl ?_
    exact K u1.1 (mN (mI M 19 u2_1) 0 (cdNH (M.1 2) (fun j k => ((fun a => mk (S.2.2 0 a)) j).testBit k) (xs (i + 1)) (xs (i + 2)))) u1.2 fd hop.2.2
  · skip
    refine yy_aload_n C 6 dL_law_1427 (pc' := 1428) rfl rfl rfl ?_
    refine yy_iconst C (v := (nI 0)) dL_law_1428 (pc' := 1429) rfl (by decide) ?_
    refine yy_lald C 50 dL_law_1429 (pc' := 1430) rfl rfl (by decide) (by decide) ?_
    refine yy_iload C 0 dL_law_1430 (pc' := 1432) rfl rfl ?_
    refine yy_i2l C (v := z1.toInt64) dL_law_1432 (pc' := 1433) rfl rfl ?_
    refine yy_lcmp C dL_law_1433 (pc' := 1434) rfl ?_
    refine yy_eqi (show _ = nI 0 by rw [hop.2.1 c_k]; exact lg_self _) ?_
    refine yy_if_eq C dL_law_1434 (pc' := 1437) rfl (tgt := 1439) (by decide) (fun _ => ?_) (fun h_ => absurd rfl h_)
    refine yy_goto C (tgt := 2020) dL_law_1439 (by decide) ?_
    refine yy_perm (w' := w1L G ad bd o1 o2 u1.1 (mN (mI M 19 u2_1) 0 (cdNH (M.1 2) (fun j k => ((fun a => mk (S.2.2 0 a)) j).testBit k) (xs (i + 1)) (xs (i + 2)))) u1.2 fd) p21 ?_
    refine yy_loc [2, 3, 4, 5, 6, 7] rfl ?_
    exact K u1.1 (mN (mI M 19 u2_1) 0 (cdNH (M.1 2) (fun j k => ((fun a => mk (S.2.2 0 a)) j).testBit k) (xs (i + 1)) (xs (i + 2)))) u1.2 fd hop.2.2
