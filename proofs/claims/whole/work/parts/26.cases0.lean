set_option maxHeartbeats 4000000 in
set_option maxRecDepth 100000 in
theorem law_0 (op_addDocument : Op_addDocument) {p : Program} {l : Launch} (hl0 : l.stackTraces = false) {e : Env} {s : State} {m : MethodId} {args : Array Value} {below : List Frame} {meth : Method} {c : Code} {G : gG} {B0 : Nat} {Q : State → Prop} (C : CX p s m args meth c cL_law RL 8 G B0) {b L0 : Nat} {xs : Nat → Int32} (hX : va_X b L0 xs s s.heap) (hbl : b < s.heap.size) (hbB : b < B0) (hL : L0 ≤ 2560) {i : Nat} (hi : i + 5 ≤ L0) {ad bd : Nat → Nat} {o1 o2 cs ss : Nat} {S : SA} {M : SM} {fo : Nat → Int64} {fd : Nat → UInt64} (hR : Rel S M) (hcs : cs + 1 ≤ room_1.cells) (hss : ss + 6 ≤ room_1.slots) (K : ∀ (S' : SA) (M' : SM) (fo' : Nat → Int64) (fd' : Nat → UInt64), Rel S' M' → YY p l e room_1 s m args below meth c G B0 8 Q 2020 [(5, .int (nI i)), (0, .ref (b)), (1, .ref (ad 0)), (2, .ref (bd 0)), (3, .ref (o1)), (4, .ref (o2))] [] (w1L G ad bd o1 o2 S' M' fo' fd') (cs + 1) (ss + 6)) : YY p l e room_1 s m args below meth c G B0 8 Q 188 [(5, .int (nI i)), (0, .ref (b)), (1, .ref (ad 0)), (2, .ref (bd 0)), (3, .ref (o1)), (4, .ref (o2))] [] (w1L G ad bd o1 o2 S M fo fd) cs ss := by
  have hi31 : L0 < 2 ^ 31 := by omega
  have hcs0 : cs + 1 + 0 ≤ room_1.cells := by omega
  have hss0 : ss + 6 + 0 ≤ room_1.slots := by omega
  refine yy_aload_n C 2 dL_law_188 (pc' := 189) rfl rfl rfl ?_
  refine yy_aload_n C 4 dL_law_189 (pc' := 190) rfl rfl rfl ?_
  refine yc_i (yr_SW C (As := [.ref (ad 0), .ref (o1)]) (rest := []) lk_L_117 cd_L_addDocument st_L_addDocument (mL_addDocument l hl0 G B0 ad ((o2, .inl (G.2.2.2.2.2, 1, .inr (.inr (.inr (.inl fd))))) :: wM G bd M) S hR.1 o1 fo) ⟨by decide +kernel, by decide +kernel⟩ ⟨hcs, hss⟩ rfl rfl (Nat.le_of_ble_eq_true rfl) dL_law_190) (pc' := 193) rfl (fun r1 u1 hw1 => ?_)
  refine yy_istore C (L' := [(6, .int r1), (5, .int (nI i)), (0, .ref (b)), (1, .ref (ad 0)), (2, .ref (bd 0)), (3, .ref (o1)), (4, .ref (o2))]) dL_law_193 (pc' := 195) rfl (by decide) rfl ?_
  refine yy_aload_n C 4 dL_law_195 (pc' := 196) rfl rfl rfl ?_
  refine yy_perm (w' := w2L G ad bd o1 o2 u1.1 M u1.2 fd) p12 ?_
  refine yc_i (yr_V C (As := []) (rest := []) lk_L_122 cd_X7_addDocument im_X7_addDocument se_X7_addDocument (mX7_addDocument l G B0 bd (wA G ad u1.1 ++ [(o1, .inl (G.2.2.1, 1, .inr (.inl u1.2))), (o2, .inl (G.2.2.2.2.2, 1, .inr (.inr (.inr (.inl fd)))))]) M hR.im) ⟨by decide +kernel, by decide +kernel⟩ ⟨hcs0, hss0⟩ 0 rfl rfl rfl rfl (Nat.le_of_ble_eq_true rfl) dL_law_196) (pc' := 199) rfl (fun z1 u2_1 hw_z1 => ?_)
  refine yy_istore C (L' := [(7, .int z1), (6, .int r1), (5, .int (nI i)), (0, .ref (b)), (1, .ref (ad 0)), (2, .ref (bd 0)), (3, .ref (o1)), (4, .ref (o2))]) dL_law_199 (pc' := 201) rfl (by decide) rfl ?_
  refine yy_aload_n C 5 dL_law_201 (pc' := 202) rfl rfl rfl ?_
  refine yc_i (yr_V C (As := []) (rest := []) lk_L_123 cd_X7_thrown im_X7_thrown se_X7_thrown (mX7_thrown l G B0 bd (wA G ad u1.1 ++ [(o1, .inl (G.2.2.1, 1, .inr (.inl u1.2))), (o2, .inl (G.2.2.2.2.2, 1, .inr (.inr (.inr (.inl fd)))))]) u2_1) ⟨by decide +kernel, by decide +kernel⟩ ⟨hcs0, hss0⟩ 0 rfl rfl rfl rfl (Nat.le_of_ble_eq_true rfl) dL_law_202) (pc' := 205) rfl (fun z2 _ hw_z2 => ?_)
  subst hw_z2
  have hop := op_addDocument hR hw1 hw_z1
  refine yy_iload C 1 dL_law_205 (pc' := 207) rfl rfl ?_
  rw [← hop.1]
  refine yy_icmp_eq C dL_law_207 (pc' := 210) rfl (tgt := 212) (by decide) (fun _ => ?_) (fun h_ => absurd rfl h_)
  refine yy_iload C 1 dL_law_212 (pc' := 214) rfl rfl ?_
  refine yy_if_ne C dL_law_214 (pc' := 217) rfl (tgt := 229) (by decide) (fun _ => ?_) (fun c_k => ?_)
  · skip
    refine yy_goto C (tgt := 2020) dL_law_229 (by decide) ?_
    refine yy_perm (w' := w1L G ad bd o1 o2 u1.1 u2_1 u1.2 fd) p21 ?_
    refine yy_loc [2, 3, 4, 5, 6, 7] rfl ?_
    exact K u1.1 u2_1 u1.2 fd hop.2.2
  · skip
    refine yy_aload_n C 6 dL_law_217 (pc' := 218) rfl rfl rfl ?_
    refine yy_iconst C (v := (nI 0)) dL_law_218 (pc' := 219) rfl (by decide) ?_
    refine yy_lald C 50 dL_law_219 (pc' := 220) rfl rfl (by decide) (by decide) ?_
    refine yy_iload C 0 dL_law_220 (pc' := 222) rfl rfl ?_
    refine yy_i2l C (v := z1.toInt64) dL_law_222 (pc' := 223) rfl rfl ?_
    refine yy_lcmp C dL_law_223 (pc' := 224) rfl ?_
    refine yy_eqi (show _ = nI 0 by rw [hop.2.1 c_k]; exact lg_self _) ?_
    refine yy_if_eq C dL_law_224 (pc' := 227) rfl (tgt := 229) (by decide) (fun _ => ?_) (fun h_ => absurd rfl h_)
    refine yy_goto C (tgt := 2020) dL_law_229 (by decide) ?_
    refine yy_perm (w' := w1L G ad bd o1 o2 u1.1 u2_1 u1.2 fd) p21 ?_
    refine yy_loc [2, 3, 4, 5, 6, 7] rfl ?_
    exact K u1.1 u2_1 u1.2 fd hop.2.2

set_option maxHeartbeats 4000000 in
set_option maxRecDepth 100000 in
theorem law_1 (op_addLine : Op_addLine) {p : Program} {l : Launch} (hl0 : l.stackTraces = false) {e : Env} {s : State} {m : MethodId} {args : Array Value} {below : List Frame} {meth : Method} {c : Code} {G : gG} {B0 : Nat} {Q : State → Prop} (C : CX p s m args meth c cL_law RL 8 G B0) {b L0 : Nat} {xs : Nat → Int32} (hX : va_X b L0 xs s s.heap) (hbl : b < s.heap.size) (hbB : b < B0) (hL : L0 ≤ 2560) {i : Nat} (hi : i + 5 ≤ L0) {ad bd : Nat → Nat} {o1 o2 cs ss : Nat} {S : SA} {M : SM} {fo : Nat → Int64} {fd : Nat → UInt64} (hR : Rel S M) (hcs : cs + 1 ≤ room_1.cells) (hss : ss + 6 ≤ room_1.slots) (K : ∀ (S' : SA) (M' : SM) (fo' : Nat → Int64) (fd' : Nat → UInt64), Rel S' M' → YY p l e room_1 s m args below meth c G B0 8 Q 2020 [(5, .int (nI i)), (0, .ref (b)), (1, .ref (ad 0)), (2, .ref (bd 0)), (3, .ref (o1)), (4, .ref (o2))] [] (w1L G ad bd o1 o2 S' M' fo' fd') (cs + 1) (ss + 6)) : YY p l e room_1 s m args below meth c G B0 8 Q 232 [(5, .int (nI i)), (0, .ref (b)), (1, .ref (ad 0)), (2, .ref (bd 0)), (3, .ref (o1)), (4, .ref (o2))] [] (w1L G ad bd o1 o2 S M fo fd) cs ss := by
  have hi31 : L0 < 2 ^ 31 := by omega
  have hcs0 : cs + 1 + 0 ≤ room_1.cells := by omega
  have hss0 : ss + 6 + 0 ≤ room_1.slots := by omega
  refine yy_aload_n C 2 dL_law_232 (pc' := 233) rfl rfl rfl ?_
  refine yy_aload_n C 1 dL_law_233 (pc' := 234) rfl rfl rfl ?_
  refine yy_iload C 0 dL_law_234 (pc' := 236) rfl rfl ?_
  refine yy_iconst C (v := (nI 1)) dL_law_236 (pc' := 237) rfl (by decide) ?_
  refine yy_iadd C (v := (nI (i + 1))) dL_law_237 (pc' := 238) rfl (nI_add i 1) ?_
  refine yy_sld C hX hbl hbB (i := i + 1) (by omega) (by omega) dL_law_238 (pc' := 239) rfl ?_
  refine yy_aload_n C 1 dL_law_239 (pc' := 240) rfl rfl rfl ?_
  refine yy_iload C 0 dL_law_240 (pc' := 242) rfl rfl ?_
  refine yy_iconst C (v := (nI 2)) dL_law_242 (pc' := 243) rfl (by decide) ?_
  refine yy_iadd C (v := (nI (i + 2))) dL_law_243 (pc' := 244) rfl (nI_add i 2) ?_
  refine yy_sld C hX hbl hbB (i := i + 2) (by omega) (by omega) dL_law_244 (pc' := 245) rfl ?_
  refine yy_aload_n C 4 dL_law_245 (pc' := 246) rfl rfl rfl ?_
  refine yc_i (yr_SW C (As := [.ref (ad 0), .int (xs (i + 1)), .int (xs (i + 2)), .ref (o1)]) (rest := []) lk_L_126 cd_L_addLine st_L_addLine (mL_addLine l hl0 G B0 ad ((o2, .inl (G.2.2.2.2.2, 1, .inr (.inr (.inr (.inl fd))))) :: wM G bd M) S (xs (i + 1)) (xs (i + 2)) hR.1 o1 fo) ⟨by decide +kernel, by decide +kernel⟩ ⟨hcs, hss⟩ rfl rfl (Nat.le_of_ble_eq_true rfl) dL_law_246) (pc' := 249) rfl (fun r1 u1 hw1 => ?_)
  refine yy_istore C (L' := [(6, .int r1), (5, .int (nI i)), (0, .ref (b)), (1, .ref (ad 0)), (2, .ref (bd 0)), (3, .ref (o1)), (4, .ref (o2))]) dL_law_249 (pc' := 251) rfl (by decide) rfl ?_
  refine yy_aload_n C 4 dL_law_251 (pc' := 252) rfl rfl rfl ?_
  refine yy_aload_n C 2 dL_law_252 (pc' := 253) rfl rfl rfl ?_
  refine yy_iload C 1 dL_law_253 (pc' := 255) rfl rfl ?_
  refine yy_iconst C (v := (nI 1)) dL_law_255 (pc' := 256) rfl (by decide) ?_
  refine yy_iadd C (v := (nI (i + 1))) dL_law_256 (pc' := 257) rfl (nI_add i 1) ?_
  refine yy_sld C hX hbl hbB (i := i + 1) (by omega) (by omega) dL_law_257 (pc' := 258) rfl ?_
  refine yy_aload_n C 2 dL_law_258 (pc' := 259) rfl rfl rfl ?_
  refine yy_iload C 1 dL_law_259 (pc' := 261) rfl rfl ?_
  refine yy_iconst C (v := (nI 2)) dL_law_261 (pc' := 262) rfl (by decide) ?_
  refine yy_iadd C (v := (nI (i + 2))) dL_law_262 (pc' := 263) rfl (nI_add i 2) ?_
  refine yy_sld C hX hbl hbB (i := i + 2) (by omega) (by omega) dL_law_263 (pc' := 264) rfl ?_
  refine yy_perm (w' := w2L G ad bd o1 o2 u1.1 M u1.2 fd) p12 ?_
  refine yc_i (yr_V C (As := [.int (xs (i + 1)), .int (xs (i + 2))]) (rest := []) lk_L_129 cd_X7_addLine im_X7_addLine se_X7_addLine (mX7_addLine l G B0 bd (wA G ad u1.1 ++ [(o1, .inl (G.2.2.1, 1, .inr (.inl u1.2))), (o2, .inl (G.2.2.2.2.2, 1, .inr (.inr (.inr (.inl fd)))))]) M (xs (i + 1)) (xs (i + 2)) hR.im) ⟨by decide +kernel, by decide +kernel⟩ ⟨hcs0, hss0⟩ 0 rfl rfl rfl rfl (Nat.le_of_ble_eq_true rfl) dL_law_264) (pc' := 267) rfl (fun z1 u2_1 hw_z1 => ?_)
  refine yy_istore C (L' := [(7, .int z1), (6, .int r1), (5, .int (nI i)), (0, .ref (b)), (1, .ref (ad 0)), (2, .ref (bd 0)), (3, .ref (o1)), (4, .ref (o2))]) dL_law_267 (pc' := 269) rfl (by decide) rfl ?_
  refine yy_aload_n C 5 dL_law_269 (pc' := 270) rfl rfl rfl ?_
  refine yc_i (yr_V C (As := []) (rest := []) lk_L_123 cd_X7_thrown im_X7_thrown se_X7_thrown (mX7_thrown l G B0 bd (wA G ad u1.1 ++ [(o1, .inl (G.2.2.1, 1, .inr (.inl u1.2))), (o2, .inl (G.2.2.2.2.2, 1, .inr (.inr (.inr (.inl fd)))))]) u2_1) ⟨by decide +kernel, by decide +kernel⟩ ⟨hcs0, hss0⟩ 0 rfl rfl rfl rfl (Nat.le_of_ble_eq_true rfl) dL_law_270) (pc' := 273) rfl (fun z2 _ hw_z2 => ?_)
  subst hw_z2
  have hop := op_addLine hR hw1 hw_z1
  refine yy_iload C 1 dL_law_273 (pc' := 275) rfl rfl ?_
  rw [← hop.1]
  refine yy_icmp_eq C dL_law_275 (pc' := 278) rfl (tgt := 280) (by decide) (fun _ => ?_) (fun h_ => absurd rfl h_)
  refine yy_iload C 1 dL_law_280 (pc' := 282) rfl rfl ?_
  refine yy_if_ne C dL_law_282 (pc' := 285) rfl (tgt := 297) (by decide) (fun _ => ?_) (fun c_k => ?_)
  · skip
    refine yy_goto C (tgt := 2020) dL_law_297 (by decide) ?_
    refine yy_perm (w' := w1L G ad bd o1 o2 u1.1 u2_1 u1.2 fd) p21 ?_
    refine yy_loc [2, 3, 4, 5, 6, 7] rfl ?_
    exact K u1.1 u2_1 u1.2 fd hop.2.2
  · skip
    refine yy_aload_n C 6 dL_law_285 (pc' := 286) rfl rfl rfl ?_
    refine yy_iconst C (v := (nI 0)) dL_law_286 (pc' := 287) rfl (by decide) ?_
    refine yy_lald C 50 dL_law_287 (pc' := 288) rfl rfl (by decide) (by decide) ?_
    refine yy_iload C 0 dL_law_288 (pc' := 290) rfl rfl ?_
    refine yy_i2l C (v := z1.toInt64) dL_law_290 (pc' := 291) rfl rfl ?_
    refine yy_lcmp C dL_law_291 (pc' := 292) rfl ?_
    refine yy_eqi (show _ = nI 0 by rw [hop.2.1 c_k]; exact lg_self _) ?_
    refine yy_if_eq C dL_law_292 (pc' := 295) rfl (tgt := 297) (by decide) (fun _ => ?_) (fun h_ => absurd rfl h_)
    refine yy_goto C (tgt := 2020) dL_law_297 (by decide) ?_
    refine yy_perm (w' := w1L G ad bd o1 o2 u1.1 u2_1 u1.2 fd) p21 ?_
    refine yy_loc [2, 3, 4, 5, 6, 7] rfl ?_
    exact K u1.1 u2_1 u1.2 fd hop.2.2

set_option maxHeartbeats 4000000 in
set_option maxRecDepth 100000 in
theorem law_2 (op_rescan : Op_rescan) {p : Program} {l : Launch} (hl0 : l.stackTraces = false) {e : Env} {s : State} {m : MethodId} {args : Array Value} {below : List Frame} {meth : Method} {c : Code} {G : gG} {B0 : Nat} {Q : State → Prop} (C : CX p s m args meth c cL_law RL 8 G B0) {b L0 : Nat} {xs : Nat → Int32} (hX : va_X b L0 xs s s.heap) (hbl : b < s.heap.size) (hbB : b < B0) (hL : L0 ≤ 2560) {i : Nat} (hi : i + 5 ≤ L0) {ad bd : Nat → Nat} {o1 o2 cs ss : Nat} {S : SA} {M : SM} {fo : Nat → Int64} {fd : Nat → UInt64} (hR : Rel S M) (hcs : cs + 1 ≤ room_1.cells) (hss : ss + 6 ≤ room_1.slots) (K : ∀ (S' : SA) (M' : SM) (fo' : Nat → Int64) (fd' : Nat → UInt64), Rel S' M' → YY p l e room_1 s m args below meth c G B0 8 Q 2020 [(5, .int (nI i)), (0, .ref (b)), (1, .ref (ad 0)), (2, .ref (bd 0)), (3, .ref (o1)), (4, .ref (o2))] [] (w1L G ad bd o1 o2 S' M' fo' fd') (cs + 1) (ss + 6)) : YY p l e room_1 s m args below meth c G B0 8 Q 300 [(5, .int (nI i)), (0, .ref (b)), (1, .ref (ad 0)), (2, .ref (bd 0)), (3, .ref (o1)), (4, .ref (o2))] [] (w1L G ad bd o1 o2 S M fo fd) cs ss := by
  have hi31 : L0 < 2 ^ 31 := by omega
  have hcs0 : cs + 1 + 0 ≤ room_1.cells := by omega
  have hss0 : ss + 6 + 0 ≤ room_1.slots := by omega
  refine yy_aload_n C 2 dL_law_300 (pc' := 301) rfl rfl rfl ?_
  refine yy_aload_n C 1 dL_law_301 (pc' := 302) rfl rfl rfl ?_
  refine yy_iload C 0 dL_law_302 (pc' := 304) rfl rfl ?_
  refine yy_iconst C (v := (nI 1)) dL_law_304 (pc' := 305) rfl (by decide) ?_
  refine yy_iadd C (v := (nI (i + 1))) dL_law_305 (pc' := 306) rfl (nI_add i 1) ?_
  refine yy_sld C hX hbl hbB (i := i + 1) (by omega) (by omega) dL_law_306 (pc' := 307) rfl ?_
  refine yy_aload_n C 1 dL_law_307 (pc' := 308) rfl rfl rfl ?_
  refine yy_iload C 0 dL_law_308 (pc' := 310) rfl rfl ?_
  refine yy_iconst C (v := (nI 2)) dL_law_310 (pc' := 311) rfl (by decide) ?_
  refine yy_iadd C (v := (nI (i + 2))) dL_law_311 (pc' := 312) rfl (nI_add i 2) ?_
  refine yy_sld C hX hbl hbB (i := i + 2) (by omega) (by omega) dL_law_312 (pc' := 313) rfl ?_
  refine yy_aload_n C 4 dL_law_313 (pc' := 314) rfl rfl rfl ?_
  refine yc_i (yr_SW C (As := [.ref (ad 0), .int (xs (i + 1)), .int (xs (i + 2)), .ref (o1)]) (rest := []) lk_L_130 cd_L_rescan st_L_rescan (mL_rescan l hl0 G B0 ad ((o2, .inl (G.2.2.2.2.2, 1, .inr (.inr (.inr (.inl fd))))) :: wM G bd M) S (xs (i + 1)) (xs (i + 2)) hR.1 o1 fo) ⟨by decide +kernel, by decide +kernel⟩ ⟨hcs, hss⟩ rfl rfl (Nat.le_of_ble_eq_true rfl) dL_law_314) (pc' := 317) rfl (fun r1 u1 hw1 => ?_)
  refine yy_istore C (L' := [(6, .int r1), (5, .int (nI i)), (0, .ref (b)), (1, .ref (ad 0)), (2, .ref (bd 0)), (3, .ref (o1)), (4, .ref (o2))]) dL_law_317 (pc' := 319) rfl (by decide) rfl ?_
  refine yy_aload_n C 4 dL_law_319 (pc' := 320) rfl rfl rfl ?_
  refine yy_aload_n C 2 dL_law_320 (pc' := 321) rfl rfl rfl ?_
  refine yy_iload C 1 dL_law_321 (pc' := 323) rfl rfl ?_
  refine yy_iconst C (v := (nI 1)) dL_law_323 (pc' := 324) rfl (by decide) ?_
  refine yy_iadd C (v := (nI (i + 1))) dL_law_324 (pc' := 325) rfl (nI_add i 1) ?_
  refine yy_sld C hX hbl hbB (i := i + 1) (by omega) (by omega) dL_law_325 (pc' := 326) rfl ?_
  refine yy_aload_n C 2 dL_law_326 (pc' := 327) rfl rfl rfl ?_
  refine yy_iload C 1 dL_law_327 (pc' := 329) rfl rfl ?_
  refine yy_iconst C (v := (nI 2)) dL_law_329 (pc' := 330) rfl (by decide) ?_
  refine yy_iadd C (v := (nI (i + 2))) dL_law_330 (pc' := 331) rfl (nI_add i 2) ?_
  refine yy_sld C hX hbl hbB (i := i + 2) (by omega) (by omega) dL_law_331 (pc' := 332) rfl ?_
  refine yy_perm (w' := w2L G ad bd o1 o2 u1.1 M u1.2 fd) p12 ?_
  refine yc_i (yr_V C (As := [.int (xs (i + 1)), .int (xs (i + 2))]) (rest := []) lk_L_132 cd_X7_rescan im_X7_rescan se_X7_rescan (mX7_rescan l G B0 bd (wA G ad u1.1 ++ [(o1, .inl (G.2.2.1, 1, .inr (.inl u1.2))), (o2, .inl (G.2.2.2.2.2, 1, .inr (.inr (.inr (.inl fd)))))]) M (xs (i + 1)) (xs (i + 2)) hR.im) ⟨by decide +kernel, by decide +kernel⟩ ⟨hcs0, hss0⟩ 0 rfl rfl rfl rfl (Nat.le_of_ble_eq_true rfl) dL_law_332) (pc' := 335) rfl (fun z1 u2_1 hw_z1 => ?_)
  refine yy_istore C (L' := [(7, .int z1), (6, .int r1), (5, .int (nI i)), (0, .ref (b)), (1, .ref (ad 0)), (2, .ref (bd 0)), (3, .ref (o1)), (4, .ref (o2))]) dL_law_335 (pc' := 337) rfl (by decide) rfl ?_
  refine yy_aload_n C 5 dL_law_337 (pc' := 338) rfl rfl rfl ?_
  refine yc_i (yr_V C (As := []) (rest := []) lk_L_123 cd_X7_thrown im_X7_thrown se_X7_thrown (mX7_thrown l G B0 bd (wA G ad u1.1 ++ [(o1, .inl (G.2.2.1, 1, .inr (.inl u1.2))), (o2, .inl (G.2.2.2.2.2, 1, .inr (.inr (.inr (.inl fd)))))]) u2_1) ⟨by decide +kernel, by decide +kernel⟩ ⟨hcs0, hss0⟩ 0 rfl rfl rfl rfl (Nat.le_of_ble_eq_true rfl) dL_law_338) (pc' := 341) rfl (fun z2 _ hw_z2 => ?_)
  subst hw_z2
  have hop := op_rescan hR hw1 hw_z1
  refine yy_iload C 1 dL_law_341 (pc' := 343) rfl rfl ?_
  rw [← hop.1]
  refine yy_icmp_eq C dL_law_343 (pc' := 346) rfl (tgt := 348) (by decide) (fun _ => ?_) (fun h_ => absurd rfl h_)
  refine yy_iload C 1 dL_law_348 (pc' := 350) rfl rfl ?_
  refine yy_if_ne C dL_law_350 (pc' := 353) rfl (tgt := 365) (by decide) (fun _ => ?_) (fun c_k => ?_)
  · skip
    refine yy_goto C (tgt := 2020) dL_law_365 (by decide) ?_
    refine yy_perm (w' := w1L G ad bd o1 o2 u1.1 u2_1 u1.2 fd) p21 ?_
    refine yy_loc [2, 3, 4, 5, 6, 7] rfl ?_
    exact K u1.1 u2_1 u1.2 fd hop.2.2
  · skip
    refine yy_aload_n C 6 dL_law_353 (pc' := 354) rfl rfl rfl ?_
    refine yy_iconst C (v := (nI 0)) dL_law_354 (pc' := 355) rfl (by decide) ?_
    refine yy_lald C 50 dL_law_355 (pc' := 356) rfl rfl (by decide) (by decide) ?_
    refine yy_iload C 0 dL_law_356 (pc' := 358) rfl rfl ?_
    refine yy_i2l C (v := z1.toInt64) dL_law_358 (pc' := 359) rfl rfl ?_
    refine yy_lcmp C dL_law_359 (pc' := 360) rfl ?_
    refine yy_eqi (show _ = nI 0 by rw [hop.2.1 c_k]; exact lg_self _) ?_
    refine yy_if_eq C dL_law_360 (pc' := 363) rfl (tgt := 365) (by decide) (fun _ => ?_) (fun h_ => absurd rfl h_)
    refine yy_goto C (tgt := 2020) dL_law_365 (by decide) ?_
    refine yy_perm (w' := w1L G ad bd o1 o2 u1.1 u2_1 u1.2 fd) p21 ?_
    refine yy_loc [2, 3, 4, 5, 6, 7] rfl ?_
    exact K u1.1 u2_1 u1.2 fd hop.2.2

set_option maxHeartbeats 4000000 in
set_option maxRecDepth 100000 in
theorem law_3 (op_documentOf : Op_documentOf) {p : Program} {l : Launch} (hl0 : l.stackTraces = false) {e : Env} {s : State} {m : MethodId} {args : Array Value} {below : List Frame} {meth : Method} {c : Code} {G : gG} {B0 : Nat} {Q : State → Prop} (C : CX p s m args meth c cL_law RL 8 G B0) {b L0 : Nat} {xs : Nat → Int32} (hX : va_X b L0 xs s s.heap) (hbl : b < s.heap.size) (hbB : b < B0) (hL : L0 ≤ 2560) {i : Nat} (hi : i + 5 ≤ L0) {ad bd : Nat → Nat} {o1 o2 cs ss : Nat} {S : SA} {M : SM} {fo : Nat → Int64} {fd : Nat → UInt64} (hR : Rel S M) (hcs : cs + 1 ≤ room_1.cells) (hss : ss + 6 ≤ room_1.slots) (K : ∀ (S' : SA) (M' : SM) (fo' : Nat → Int64) (fd' : Nat → UInt64), Rel S' M' → YY p l e room_1 s m args below meth c G B0 8 Q 2020 [(5, .int (nI i)), (0, .ref (b)), (1, .ref (ad 0)), (2, .ref (bd 0)), (3, .ref (o1)), (4, .ref (o2))] [] (w1L G ad bd o1 o2 S' M' fo' fd') (cs + 1) (ss + 6)) : YY p l e room_1 s m args below meth c G B0 8 Q 368 [(5, .int (nI i)), (0, .ref (b)), (1, .ref (ad 0)), (2, .ref (bd 0)), (3, .ref (o1)), (4, .ref (o2))] [] (w1L G ad bd o1 o2 S M fo fd) cs ss := by
  have hi31 : L0 < 2 ^ 31 := by omega
  have hcs0 : cs + 1 + 0 ≤ room_1.cells := by omega
  have hss0 : ss + 6 + 0 ≤ room_1.slots := by omega
  refine yy_aload_n C 2 dL_law_368 (pc' := 369) rfl rfl rfl ?_
  refine yy_aload_n C 1 dL_law_369 (pc' := 370) rfl rfl rfl ?_
  refine yy_iload C 0 dL_law_370 (pc' := 372) rfl rfl ?_
  refine yy_iconst C (v := (nI 1)) dL_law_372 (pc' := 373) rfl (by decide) ?_
  refine yy_iadd C (v := (nI (i + 1))) dL_law_373 (pc' := 374) rfl (nI_add i 1) ?_
  refine yy_sld C hX hbl hbB (i := i + 1) (by omega) (by omega) dL_law_374 (pc' := 375) rfl ?_
  refine yy_aload_n C 4 dL_law_375 (pc' := 376) rfl rfl rfl ?_
  refine yc_i (yr_SW C (As := [.ref (ad 0), .int (xs (i + 1)), .ref (o1)]) (rest := []) lk_L_133 cd_L_documentOf st_L_documentOf (mL_documentOf l hl0 G B0 ad ((o2, .inl (G.2.2.2.2.2, 1, .inr (.inr (.inr (.inl fd))))) :: wM G bd M) S (xs (i + 1)) hR.1 o1 fo) ⟨by decide +kernel, by decide +kernel⟩ ⟨hcs, hss⟩ rfl rfl (Nat.le_of_ble_eq_true rfl) dL_law_376) (pc' := 379) rfl (fun r1 u1 hw1 => ?_)
  refine yy_istore C (L' := [(6, .int r1), (5, .int (nI i)), (0, .ref (b)), (1, .ref (ad 0)), (2, .ref (bd 0)), (3, .ref (o1)), (4, .ref (o2))]) dL_law_379 (pc' := 381) rfl (by decide) rfl ?_
  refine yy_aload_n C 4 dL_law_381 (pc' := 382) rfl rfl rfl ?_
  refine yy_aload_n C 2 dL_law_382 (pc' := 383) rfl rfl rfl ?_
  refine yy_iload C 1 dL_law_383 (pc' := 385) rfl rfl ?_
  refine yy_iconst C (v := (nI 1)) dL_law_385 (pc' := 386) rfl (by decide) ?_
  refine yy_iadd C (v := (nI (i + 1))) dL_law_386 (pc' := 387) rfl (nI_add i 1) ?_
  refine yy_sld C hX hbl hbB (i := i + 1) (by omega) (by omega) dL_law_387 (pc' := 388) rfl ?_
  refine yy_perm (w' := w2L G ad bd o1 o2 u1.1 M u1.2 fd) p12 ?_
  refine yc_i (yr_V C (As := [.int (xs (i + 1))]) (rest := []) lk_L_136 cd_X7_documentOf im_X7_documentOf se_X7_documentOf (mX7_documentOf l G B0 bd (wA G ad u1.1 ++ [(o1, .inl (G.2.2.1, 1, .inr (.inl u1.2))), (o2, .inl (G.2.2.2.2.2, 1, .inr (.inr (.inr (.inl fd)))))]) M (xs (i + 1)) hR.im) ⟨by decide +kernel, by decide +kernel⟩ ⟨hcs0, hss0⟩ 0 rfl rfl rfl rfl (Nat.le_of_ble_eq_true rfl) dL_law_388) (pc' := 391) rfl (fun z1 u2_1 hw_z1 => ?_)
  refine yy_istore C (L' := [(7, .int z1), (6, .int r1), (5, .int (nI i)), (0, .ref (b)), (1, .ref (ad 0)), (2, .ref (bd 0)), (3, .ref (o1)), (4, .ref (o2))]) dL_law_391 (pc' := 393) rfl (by decide) rfl ?_
  refine yy_aload_n C 5 dL_law_393 (pc' := 394) rfl rfl rfl ?_
  refine yc_i (yr_V C (As := []) (rest := []) lk_L_123 cd_X7_thrown im_X7_thrown se_X7_thrown (mX7_thrown l G B0 bd (wA G ad u1.1 ++ [(o1, .inl (G.2.2.1, 1, .inr (.inl u1.2))), (o2, .inl (G.2.2.2.2.2, 1, .inr (.inr (.inr (.inl fd)))))]) u2_1) ⟨by decide +kernel, by decide +kernel⟩ ⟨hcs0, hss0⟩ 0 rfl rfl rfl rfl (Nat.le_of_ble_eq_true rfl) dL_law_394) (pc' := 397) rfl (fun z2 _ hw_z2 => ?_)
  subst hw_z2
  have hop := op_documentOf hR hw1 hw_z1
  refine yy_iload C 1 dL_law_397 (pc' := 399) rfl rfl ?_
  rw [← hop.1]
  refine yy_icmp_eq C dL_law_399 (pc' := 402) rfl (tgt := 404) (by decide) (fun _ => ?_) (fun h_ => absurd rfl h_)
  refine yy_iload C 1 dL_law_404 (pc' := 406) rfl rfl ?_
  refine yy_if_ne C dL_law_406 (pc' := 409) rfl (tgt := 421) (by decide) (fun _ => ?_) (fun c_k => ?_)
  · skip
    refine yy_goto C (tgt := 2020) dL_law_421 (by decide) ?_
    refine yy_perm (w' := w1L G ad bd o1 o2 u1.1 u2_1 u1.2 fd) p21 ?_
    refine yy_loc [2, 3, 4, 5, 6, 7] rfl ?_
    exact K u1.1 u2_1 u1.2 fd hop.2.2
  · skip
    refine yy_aload_n C 6 dL_law_409 (pc' := 410) rfl rfl rfl ?_
    refine yy_iconst C (v := (nI 0)) dL_law_410 (pc' := 411) rfl (by decide) ?_
    refine yy_lald C 50 dL_law_411 (pc' := 412) rfl rfl (by decide) (by decide) ?_
    refine yy_iload C 0 dL_law_412 (pc' := 414) rfl rfl ?_
    refine yy_i2l C (v := z1.toInt64) dL_law_414 (pc' := 415) rfl rfl ?_
    refine yy_lcmp C dL_law_415 (pc' := 416) rfl ?_
    refine yy_eqi (show _ = nI 0 by rw [hop.2.1 c_k]; exact lg_self _) ?_
    refine yy_if_eq C dL_law_416 (pc' := 419) rfl (tgt := 421) (by decide) (fun _ => ?_) (fun h_ => absurd rfl h_)
    refine yy_goto C (tgt := 2020) dL_law_421 (by decide) ?_
    refine yy_perm (w' := w1L G ad bd o1 o2 u1.1 u2_1 u1.2 fd) p21 ?_
    refine yy_loc [2, 3, 4, 5, 6, 7] rfl ?_
    exact K u1.1 u2_1 u1.2 fd hop.2.2
