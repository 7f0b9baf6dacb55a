set_option maxHeartbeats 4000000 in
set_option maxRecDepth 100000 in
theorem law_8 (op_lift : Op_lift) {p : Program} {l : Launch} (hl0 : l.stackTraces = false) {e : Env} {s : State} {m : MethodId} {args : Array Value} {below : List Frame} {meth : Method} {c : Code} {G : gG} {B0 : Nat} {Q : State → Prop} (C : CX p s m args meth c cL_law RL 8 G B0) {b L0 : Nat} {xs : Nat → Int32} (hX : va_X b L0 xs s s.heap) (hbl : b < s.heap.size) (hbB : b < B0) (hL : L0 ≤ 2560) {i : Nat} (hi : i + 5 ≤ L0) {ad bd : Nat → Nat} {o1 o2 cs ss : Nat} {S : SA} {M : SM} {fo : Nat → Int64} {fd : Nat → UInt64} (hR : Rel S M) (hcs : cs + 1 ≤ room_1.cells) (hss : ss + 6 ≤ room_1.slots) (K : ∀ (S' : SA) (M' : SM) (fo' : Nat → Int64) (fd' : Nat → UInt64), Rel S' M' → YY p l e room_1 s m args below meth c G B0 8 Q 2020 [(5, .int (nI i)), (0, .ref (b)), (1, .ref (ad 0)), (2, .ref (bd 0)), (3, .ref (o1)), (4, .ref (o2))] [] (w1L G ad bd o1 o2 S' M' fo' fd') (cs + 1) (ss + 6)) : YY p l e room_1 s m args below meth c G B0 8 Q 708 [(5, .int (nI i)), (0, .ref (b)), (1, .ref (ad 0)), (2, .ref (bd 0)), (3, .ref (o1)), (4, .ref (o2))] [] (w1L G ad bd o1 o2 S M fo fd) cs ss := by
  have hi31 : L0 < 2 ^ 31 := by omega
  have hcs0 : cs + 1 + 0 ≤ room_1.cells := by omega
  have hss0 : ss + 6 + 0 ≤ room_1.slots := by omega
  refine yy_aload_n C 2 dL_law_708 (pc' := 709) rfl rfl rfl ?_
  refine yy_aload_n C 1 dL_law_709 (pc' := 710) rfl rfl rfl ?_
  refine yy_iload C 0 dL_law_710 (pc' := 712) rfl rfl ?_
  refine yy_iconst C (v := (nI 1)) dL_law_712 (pc' := 713) rfl (by decide) ?_
  refine yy_iadd C (v := (nI (i + 1))) dL_law_713 (pc' := 714) rfl (nI_add i 1) ?_
  refine yy_sld C hX hbl hbB (i := i + 1) (by omega) (by omega) dL_law_714 (pc' := 715) rfl ?_
  refine yy_aload_n C 4 dL_law_715 (pc' := 716) rfl rfl rfl ?_
  refine yc_i (yr_SW C (As := [.ref (ad 0), .int (xs (i + 1)), .ref (o1)]) (rest := []) lk_L_151 cd_L_lift st_L_lift (mL_lift l hl0 G B0 ad ((o2, .inl (G.2.2.2.2.2, 1, .inr (.inr (.inr (.inl fd))))) :: wM G bd M) S (xs (i + 1)) hR.1 o1 fo) ⟨by decide +kernel, by decide +kernel⟩ ⟨hcs, hss⟩ rfl rfl (Nat.le_of_ble_eq_true rfl) dL_law_716) (pc' := 719) rfl (fun r1 u1 hw1 => ?_)
  refine yy_istore C (L' := [(6, .int r1), (5, .int (nI i)), (0, .ref (b)), (1, .ref (ad 0)), (2, .ref (bd 0)), (3, .ref (o1)), (4, .ref (o2))]) dL_law_719 (pc' := 721) rfl (by decide) rfl ?_
  refine yy_aload_n C 4 dL_law_721 (pc' := 722) rfl rfl rfl ?_
  refine yy_aload_n C 2 dL_law_722 (pc' := 723) rfl rfl rfl ?_
  refine yy_iload C 1 dL_law_723 (pc' := 725) rfl rfl ?_
  refine yy_iconst C (v := (nI 1)) dL_law_725 (pc' := 726) rfl (by decide) ?_
  refine yy_iadd C (v := (nI (i + 1))) dL_law_726 (pc' := 727) rfl (nI_add i 1) ?_
  refine yy_sld C hX hbl hbB (i := i + 1) (by omega) (by omega) dL_law_727 (pc' := 728) rfl ?_
  refine yy_perm (w' := w2L G ad bd o1 o2 u1.1 M u1.2 fd) p12 ?_
  refine yc_i (yr_V C (As := [.int (xs (i + 1))]) (rest := []) lk_L_153 cd_X7_lift im_X7_lift se_X7_lift (mX7_lift l G B0 bd (wA G ad u1.1 ++ [(o1, .inl (G.2.2.1, 1, .inr (.inl u1.2))), (o2, .inl (G.2.2.2.2.2, 1, .inr (.inr (.inr (.inl fd)))))]) M (xs (i + 1)) hR.im) ⟨by decide +kernel, by decide +kernel⟩ ⟨hcs0, hss0⟩ 0 rfl rfl rfl rfl (Nat.le_of_ble_eq_true rfl) dL_law_728) (pc' := 731) rfl (fun z1 u2_1 hw_z1 => ?_)
  refine yy_istore C (L' := [(7, .int z1), (6, .int r1), (5, .int (nI i)), (0, .ref (b)), (1, .ref (ad 0)), (2, .ref (bd 0)), (3, .ref (o1)), (4, .ref (o2))]) dL_law_731 (pc' := 733) rfl (by decide) rfl ?_
  refine yy_aload_n C 5 dL_law_733 (pc' := 734) rfl rfl rfl ?_
  refine yc_i (yr_V C (As := []) (rest := []) lk_L_123 cd_X7_thrown im_X7_thrown se_X7_thrown (mX7_thrown l G B0 bd (wA G ad u1.1 ++ [(o1, .inl (G.2.2.1, 1, .inr (.inl u1.2))), (o2, .inl (G.2.2.2.2.2, 1, .inr (.inr (.inr (.inl fd)))))]) u2_1) ⟨by decide +kernel, by decide +kernel⟩ ⟨hcs0, hss0⟩ 0 rfl rfl rfl rfl (Nat.le_of_ble_eq_true rfl) dL_law_734) (pc' := 737) rfl (fun z2 _ hw_z2 => ?_)
  subst hw_z2
  have hop := op_lift hR hw1 hw_z1
  refine yy_iload C 1 dL_law_737 (pc' := 739) rfl rfl ?_
  rw [← hop.1]
  refine yy_icmp_eq C dL_law_739 (pc' := 742) rfl (tgt := 744) (by decide) (fun _ => ?_) (fun h_ => absurd rfl h_)
  refine yy_iload C 1 dL_law_744 (pc' := 746) rfl rfl ?_
  refine yy_if_ne C dL_law_746 (pc' := 749) rfl (tgt := 761) (by decide) (fun _ => ?_) (fun c_k => ?_)
  · skip
    refine yy_goto C (tgt := 2020) dL_law_761 (by decide) ?_
    refine yy_perm (w' := w1L G ad bd o1 o2 u1.1 u2_1 u1.2 fd) p21 ?_
    refine yy_loc [2, 3, 4, 5, 6, 7] rfl ?_
    exact K u1.1 u2_1 u1.2 fd hop.2.2
  · skip
    refine yy_aload_n C 6 dL_law_749 (pc' := 750) rfl rfl rfl ?_
    refine yy_iconst C (v := (nI 0)) dL_law_750 (pc' := 751) rfl (by decide) ?_
    refine yy_lald C 50 dL_law_751 (pc' := 752) rfl rfl (by decide) (by decide) ?_
    refine yy_iload C 0 dL_law_752 (pc' := 754) rfl rfl ?_
    refine yy_i2l C (v := z1.toInt64) dL_law_754 (pc' := 755) rfl rfl ?_
    refine yy_lcmp C dL_law_755 (pc' := 756) rfl ?_
    refine yy_eqi (show _ = nI 0 by rw [hop.2.1 c_k]; exact lg_self _) ?_
    refine yy_if_eq C dL_law_756 (pc' := 759) rfl (tgt := 761) (by decide) (fun _ => ?_) (fun h_ => absurd rfl h_)
    refine yy_goto C (tgt := 2020) dL_law_761 (by decide) ?_
    refine yy_perm (w' := w1L G ad bd o1 o2 u1.1 u2_1 u1.2 fd) p21 ?_
    refine yy_loc [2, 3, 4, 5, 6, 7] rfl ?_
    exact K u1.1 u2_1 u1.2 fd hop.2.2

set_option maxHeartbeats 4000000 in
set_option maxRecDepth 100000 in
theorem law_9 (op_isHidden : Op_isHidden) {p : Program} {l : Launch} (hl0 : l.stackTraces = false) {e : Env} {s : State} {m : MethodId} {args : Array Value} {below : List Frame} {meth : Method} {c : Code} {G : gG} {B0 : Nat} {Q : State → Prop} (C : CX p s m args meth c cL_law RL 8 G B0) {b L0 : Nat} {xs : Nat → Int32} (hX : va_X b L0 xs s s.heap) (hbl : b < s.heap.size) (hbB : b < B0) (hL : L0 ≤ 2560) {i : Nat} (hi : i + 5 ≤ L0) {ad bd : Nat → Nat} {o1 o2 cs ss : Nat} {S : SA} {M : SM} {fo : Nat → Int64} {fd : Nat → UInt64} (hR : Rel S M) (hcs : cs + 1 ≤ room_1.cells) (hss : ss + 6 ≤ room_1.slots) (K : ∀ (S' : SA) (M' : SM) (fo' : Nat → Int64) (fd' : Nat → UInt64), Rel S' M' → YY p l e room_1 s m args below meth c G B0 8 Q 2020 [(5, .int (nI i)), (0, .ref (b)), (1, .ref (ad 0)), (2, .ref (bd 0)), (3, .ref (o1)), (4, .ref (o2))] [] (w1L G ad bd o1 o2 S' M' fo' fd') (cs + 1) (ss + 6)) : YY p l e room_1 s m args below meth c G B0 8 Q 764 [(5, .int (nI i)), (0, .ref (b)), (1, .ref (ad 0)), (2, .ref (bd 0)), (3, .ref (o1)), (4, .ref (o2))] [] (w1L G ad bd o1 o2 S M fo fd) cs ss := by
  have hi31 : L0 < 2 ^ 31 := by omega
  have hcs0 : cs + 1 + 0 ≤ room_1.cells := by omega
  have hss0 : ss + 6 + 0 ≤ room_1.slots := by omega
  refine yy_aload_n C 2 dL_law_764 (pc' := 765) rfl rfl rfl ?_
  refine yy_aload_n C 1 dL_law_765 (pc' := 766) rfl rfl rfl ?_
  refine yy_iload C 0 dL_law_766 (pc' := 768) rfl rfl ?_
  refine yy_iconst C (v := (nI 1)) dL_law_768 (pc' := 769) rfl (by decide) ?_
  refine yy_iadd C (v := (nI (i + 1))) dL_law_769 (pc' := 770) rfl (nI_add i 1) ?_
  refine yy_sld C hX hbl hbB (i := i + 1) (by omega) (by omega) dL_law_770 (pc' := 771) rfl ?_
  refine yy_aload_n C 4 dL_law_771 (pc' := 772) rfl rfl rfl ?_
  refine yc_i (yr_SW C (As := [.ref (ad 0), .int (xs (i + 1)), .ref (o1)]) (rest := []) lk_L_154 cd_L_isHidden st_L_isHidden (mL_isHidden l hl0 G B0 ad ((o2, .inl (G.2.2.2.2.2, 1, .inr (.inr (.inr (.inl fd))))) :: wM G bd M) S (xs (i + 1)) hR.1 o1 fo) ⟨by decide +kernel, by decide +kernel⟩ ⟨hcs, hss⟩ rfl rfl (Nat.le_of_ble_eq_true rfl) dL_law_772) (pc' := 775) rfl (fun r1 u1 hw1 => ?_)
  refine yy_istore C (L' := [(6, .int r1), (5, .int (nI i)), (0, .ref (b)), (1, .ref (ad 0)), (2, .ref (bd 0)), (3, .ref (o1)), (4, .ref (o2))]) dL_law_775 (pc' := 777) rfl (by decide) rfl ?_
  refine yy_aload_n C 4 dL_law_777 (pc' := 778) rfl rfl rfl ?_
  refine yy_aload_n C 2 dL_law_778 (pc' := 779) rfl rfl rfl ?_
  refine yy_iload C 1 dL_law_779 (pc' := 781) rfl rfl ?_
  refine yy_iconst C (v := (nI 1)) dL_law_781 (pc' := 782) rfl (by decide) ?_
  refine yy_iadd C (v := (nI (i + 1))) dL_law_782 (pc' := 783) rfl (nI_add i 1) ?_
  refine yy_sld C hX hbl hbB (i := i + 1) (by omega) (by omega) dL_law_783 (pc' := 784) rfl ?_
  refine yy_perm (w' := w2L G ad bd o1 o2 u1.1 M u1.2 fd) p12 ?_
  refine yc_i (yr_V C (As := [.int (xs (i + 1))]) (rest := []) lk_L_156 cd_X7_isHidden im_X7_isHidden se_X7_isHidden (mX7_isHidden l G B0 bd (wA G ad u1.1 ++ [(o1, .inl (G.2.2.1, 1, .inr (.inl u1.2))), (o2, .inl (G.2.2.2.2.2, 1, .inr (.inr (.inr (.inl fd)))))]) M (xs (i + 1)) hR.im) ⟨by decide +kernel, by decide +kernel⟩ ⟨hcs0, hss0⟩ 0 rfl rfl rfl rfl (Nat.le_of_ble_eq_true rfl) dL_law_784) (pc' := 787) rfl (fun z1 u2_1 hw_z1 => ?_)
  refine yy_istore C (L' := [(7, .int z1), (6, .int r1), (5, .int (nI i)), (0, .ref (b)), (1, .ref (ad 0)), (2, .ref (bd 0)), (3, .ref (o1)), (4, .ref (o2))]) dL_law_787 (pc' := 789) rfl (by decide) rfl ?_
  refine yy_aload_n C 5 dL_law_789 (pc' := 790) rfl rfl rfl ?_
  refine yc_i (yr_V C (As := []) (rest := []) lk_L_123 cd_X7_thrown im_X7_thrown se_X7_thrown (mX7_thrown l G B0 bd (wA G ad u1.1 ++ [(o1, .inl (G.2.2.1, 1, .inr (.inl u1.2))), (o2, .inl (G.2.2.2.2.2, 1, .inr (.inr (.inr (.inl fd)))))]) u2_1) ⟨by decide +kernel, by decide +kernel⟩ ⟨hcs0, hss0⟩ 0 rfl rfl rfl rfl (Nat.le_of_ble_eq_true rfl) dL_law_790) (pc' := 793) rfl (fun z2 _ hw_z2 => ?_)
  subst hw_z2
  have hop := op_isHidden hR hw1 hw_z1
  refine yy_iload C 1 dL_law_793 (pc' := 795) rfl rfl ?_
  rw [← hop.1]
  refine yy_icmp_eq C dL_law_795 (pc' := 798) rfl (tgt := 800) (by decide) (fun _ => ?_) (fun h_ => absurd rfl h_)
  refine yy_iload C 1 dL_law_800 (pc' := 802) rfl rfl ?_
  refine yy_if_ne C dL_law_802 (pc' := 805) rfl (tgt := 824) (by decide) (fun _ => ?_) (fun c_k => ?_)
  · skip
    refine yy_goto C (tgt := 2020) dL_law_824 (by decide) ?_
    refine yy_perm (w' := w1L G ad bd o1 o2 u1.1 u2_1 u1.2 fd) p21 ?_
    refine yy_loc [2, 3, 4, 5, 6, 7] rfl ?_
    exact K u1.1 u2_1 u1.2 fd hop.2.2
  · skip
    refine yy_aload_n C 6 dL_law_805 (pc' := 806) rfl rfl rfl ?_
    refine yy_iconst C (v := (nI 0)) dL_law_806 (pc' := 807) rfl (by decide) ?_
    refine yy_lald C 50 dL_law_807 (pc' := 808) rfl rfl (by decide) (by decide) ?_
    refine yy_iload C 0 dL_law_808 (pc' := 810) rfl rfl ?_
    refine yy_if_eq C dL_law_810 (pc' := 813) rfl (tgt := 817) (by decide) (fun c_810 => ?_) (fun c_810 => ?_)
    · skip
      refine yy_lconst C (v := (lN 0)) dL_law_817 (pc' := 818) rfl (by decide) ?_
      refine yy_lcmp C dL_law_818 (pc' := 819) rfl ?_
      refine yy_eqi (show _ = nI 0 by rw [hop.2.1 c_k, if_pos c_810]; exact lg_self _) ?_
      refine yy_if_eq C dL_law_819 (pc' := 822) rfl (tgt := 824) (by decide) (fun _ => ?_) (fun h_ => absurd rfl h_)
      refine yy_goto C (tgt := 2020) dL_law_824 (by decide) ?_
      refine yy_perm (w' := w1L G ad bd o1 o2 u1.1 u2_1 u1.2 fd) p21 ?_
      refine yy_loc [2, 3, 4, 5, 6, 7] rfl ?_
      exact K u1.1 u2_1 u1.2 fd hop.2.2
    · skip
      refine yy_lconst C (v := (lN 1)) dL_law_813 (pc' := 814) rfl (by decide) ?_
      refine yy_goto C (tgt := 818) dL_law_814 (by decide) ?_
      refine yy_lcmp C dL_law_818 (pc' := 819) rfl ?_
      refine yy_eqi (show _ = nI 0 by rw [hop.2.1 c_k, if_neg c_810]; exact lg_self _) ?_
      refine yy_if_eq C dL_law_819 (pc' := 822) rfl (tgt := 824) (by decide) (fun _ => ?_) (fun h_ => absurd rfl h_)
      refine yy_goto C (tgt := 2020) dL_law_824 (by decide) ?_
      refine yy_perm (w' := w1L G ad bd o1 o2 u1.1 u2_1 u1.2 fd) p21 ?_
      refine yy_loc [2, 3, 4, 5, 6, 7] rfl ?_
      exact K u1.1 u2_1 u1.2 fd hop.2.2

set_option maxHeartbeats 4000000 in
set_option maxRecDepth 100000 in
theorem law_10 (op_hidden : Op_hidden) {p : Program} {l : Launch} (hl0 : l.stackTraces = false) {e : Env} {s : State} {m : MethodId} {args : Array Value} {below : List Frame} {meth : Method} {c : Code} {G : gG} {B0 : Nat} {Q : State → Prop} (C : CX p s m args meth c cL_law RL 8 G B0) {b L0 : Nat} {xs : Nat → Int32} (hX : va_X b L0 xs s s.heap) (hbl : b < s.heap.size) (hbB : b < B0) (hL : L0 ≤ 2560) {i : Nat} (hi : i + 5 ≤ L0) {ad bd : Nat → Nat} {o1 o2 cs ss : Nat} {S : SA} {M : SM} {fo : Nat → Int64} {fd : Nat → UInt64} (hR : Rel S M) (hcs : cs + 1 ≤ room_1.cells) (hss : ss + 6 ≤ room_1.slots) (K : ∀ (S' : SA) (M' : SM) (fo' : Nat → Int64) (fd' : Nat → UInt64), Rel S' M' → YY p l e room_1 s m args below meth c G B0 8 Q 2020 [(5, .int (nI i)), (0, .ref (b)), (1, .ref (ad 0)), (2, .ref (bd 0)), (3, .ref (o1)), (4, .ref (o2))] [] (w1L G ad bd o1 o2 S' M' fo' fd') cs ss) : YY p l e room_1 s m args below meth c G B0 8 Q 827 [(5, .int (nI i)), (0, .ref (b)), (1, .ref (ad 0)), (2, .ref (bd 0)), (3, .ref (o1)), (4, .ref (o2))] [] (w1L G ad bd o1 o2 S M fo fd) cs ss := by
  have hi31 : L0 < 2 ^ 31 := by omega
  have hcs0 : cs + 0 ≤ room_1.cells := by omega
  have hss0 : ss + 0 ≤ room_1.slots := by omega
  refine yy_aload_n C 2 dL_law_827 (pc' := 828) rfl rfl rfl ?_
  refine yc_i (yr_V C (As := []) (rest := []) lk_L_157 cd_X6_hidden im_X6_hidden se_X6_hidden (mX6_hidden l G B0 ad ((o1, .inl (G.2.2.1, 1, .inr (.inl fo))) :: (o2, .inl (G.2.2.2.2.2, 1, .inr (.inr (.inr (.inl fd))))) :: wM G bd M) S hR.1) ⟨by decide +kernel, by decide +kernel⟩ ⟨hcs0, hss0⟩ 0 rfl rfl rfl rfl (Nat.le_of_ble_eq_true rfl) dL_law_828) (pc' := 831) rfl (fun z1 _ hw_z1 => ?_)
  refine yy_aload_n C 3 dL_law_831 (pc' := 832) rfl rfl rfl ?_
  refine yy_perm (w' := w2L G ad bd o1 o2 S M fo fd) p12 ?_
  refine yc_i (yr_V C (As := []) (rest := [.int z1]) lk_L_160 cd_X7_hidden im_X7_hidden se_X7_hidden (mX7_hidden l G B0 bd (wA G ad S ++ [(o1, .inl (G.2.2.1, 1, .inr (.inl fo))), (o2, .inl (G.2.2.2.2.2, 1, .inr (.inr (.inr (.inl fd)))))]) M hR.im) ⟨by decide +kernel, by decide +kernel⟩ ⟨hcs0, hss0⟩ 0 rfl rfl rfl rfl (Nat.le_of_ble_eq_true rfl) dL_law_832) (pc' := 835) rfl (fun z2 _ hw_z2 => ?_)
  refine yy_icmp_eq C dL_law_835 (pc' := 838) rfl (tgt := 2020) (by decide) (fun _ => ?_) (fun h_ => absurd (op_hidden hR hw_z1 hw_z2) h_)
  refine yy_perm (w' := w1L G ad bd o1 o2 S M fo fd) p21 ?_
  refine yy_loc [0, 1, 2, 3, 4, 5] rfl ?_
  exact K S M fo fd hR

set_option maxHeartbeats 4000000 in
set_option maxRecDepth 100000 in
theorem law_11 (op_addJoin : Op_addJoin) {p : Program} {l : Launch} (hl0 : l.stackTraces = false) {e : Env} {s : State} {m : MethodId} {args : Array Value} {below : List Frame} {meth : Method} {c : Code} {G : gG} {B0 : Nat} {Q : State → Prop} (C : CX p s m args meth c cL_law RL 8 G B0) {b L0 : Nat} {xs : Nat → Int32} (hX : va_X b L0 xs s s.heap) (hbl : b < s.heap.size) (hbB : b < B0) (hL : L0 ≤ 2560) {i : Nat} (hi : i + 5 ≤ L0) {ad bd : Nat → Nat} {o1 o2 cs ss : Nat} {S : SA} {M : SM} {fo : Nat → Int64} {fd : Nat → UInt64} (hR : Rel S M) (hcs : cs + 1 ≤ room_1.cells) (hss : ss + 6 ≤ room_1.slots) (K : ∀ (S' : SA) (M' : SM) (fo' : Nat → Int64) (fd' : Nat → UInt64), Rel S' M' → YY p l e room_1 s m args below meth c G B0 8 Q 2020 [(5, .int (nI i)), (0, .ref (b)), (1, .ref (ad 0)), (2, .ref (bd 0)), (3, .ref (o1)), (4, .ref (o2))] [] (w1L G ad bd o1 o2 S' M' fo' fd') (cs + 1) (ss + 6)) : YY p l e room_1 s m args below meth c G B0 8 Q 840 [(5, .int (nI i)), (0, .ref (b)), (1, .ref (ad 0)), (2, .ref (bd 0)), (3, .ref (o1)), (4, .ref (o2))] [] (w1L G ad bd o1 o2 S M fo fd) cs ss := by
  have hi31 : L0 < 2 ^ 31 := by omega
  have hcs0 : cs + 1 + 0 ≤ room_1.cells := by omega
  have hss0 : ss + 6 + 0 ≤ room_1.slots := by omega
  refine yy_aload_n C 2 dL_law_840 (pc' := 841) rfl rfl rfl ?_
  refine yy_aload_n C 1 dL_law_841 (pc' := 842) rfl rfl rfl ?_
  refine yy_iload C 0 dL_law_842 (pc' := 844) rfl rfl ?_
  refine yy_iconst C (v := (nI 1)) dL_law_844 (pc' := 845) rfl (by decide) ?_
  refine yy_iadd C (v := (nI (i + 1))) dL_law_845 (pc' := 846) rfl (nI_add i 1) ?_
  refine yy_sld C hX hbl hbB (i := i + 1) (by omega) (by omega) dL_law_846 (pc' := 847) rfl ?_
  refine yy_aload_n C 1 dL_law_847 (pc' := 848) rfl rfl rfl ?_
  refine yy_iload C 0 dL_law_848 (pc' := 850) rfl rfl ?_
  refine yy_iconst C (v := (nI 2)) dL_law_850 (pc' := 851) rfl (by decide) ?_
  refine yy_iadd C (v := (nI (i + 2))) dL_law_851 (pc' := 852) rfl (nI_add i 2) ?_
  refine yy_sld C hX hbl hbB (i := i + 2) (by omega) (by omega) dL_law_852 (pc' := 853) rfl ?_
  refine yy_aload_n C 1 dL_law_853 (pc' := 854) rfl rfl rfl ?_
  refine yy_iload C 0 dL_law_854 (pc' := 856) rfl rfl ?_
  refine yy_iconst C (v := (nI 3)) dL_law_856 (pc' := 857) rfl (by decide) ?_
  refine yy_iadd C (v := (nI (i + 3))) dL_law_857 (pc' := 858) rfl (nI_add i 3) ?_
  refine yy_sld C hX hbl hbB (i := i + 3) (by omega) (by omega) dL_law_858 (pc' := 859) rfl ?_
  refine yy_aload_n C 4 dL_law_859 (pc' := 860) rfl rfl rfl ?_
  refine yc_i (yr_SW C (As := [.ref (ad 0), .int (xs (i + 1)), .int (xs (i + 2)), .int (xs (i + 3)), .ref (o1)]) (rest := []) lk_L_161 cd_L_addJoin st_L_addJoin (mL_addJoin l hl0 G B0 ad ((o2, .inl (G.2.2.2.2.2, 1, .inr (.inr (.inr (.inl fd))))) :: wM G bd M) S (xs (i + 1)) (xs (i + 2)) (xs (i + 3)) hR.1 o1 fo) ⟨by decide +kernel, by decide +kernel⟩ ⟨hcs, hss⟩ rfl rfl (Nat.le_of_ble_eq_true rfl) dL_law_860) (pc' := 863) rfl (fun r1 u1 hw1 => ?_)
  refine yy_istore C (L' := [(6, .int r1), (5, .int (nI i)), (0, .ref (b)), (1, .ref (ad 0)), (2, .ref (bd 0)), (3, .ref (o1)), (4, .ref (o2))]) dL_law_863 (pc' := 865) rfl (by decide) rfl ?_
  refine yy_aload_n C 4 dL_law_865 (pc' := 866) rfl rfl rfl ?_
  refine yy_aload_n C 2 dL_law_866 (pc' := 867) rfl rfl rfl ?_
  refine yy_iload C 1 dL_law_867 (pc' := 869) rfl rfl ?_
  refine yy_iconst C (v := (nI 1)) dL_law_869 (pc' := 870) rfl (by decide) ?_
  refine yy_iadd C (v := (nI (i + 1))) dL_law_870 (pc' := 871) rfl (nI_add i 1) ?_
  refine yy_sld C hX hbl hbB (i := i + 1) (by omega) (by omega) dL_law_871 (pc' := 872) rfl ?_
  refine yy_aload_n C 2 dL_law_872 (pc' := 873) rfl rfl rfl ?_
  refine yy_iload C 1 dL_law_873 (pc' := 875) rfl rfl ?_
  refine yy_iconst C (v := (nI 2)) dL_law_875 (pc' := 876) rfl (by decide) ?_
  refine yy_iadd C (v := (nI (i + 2))) dL_law_876 (pc' := 877) rfl (nI_add i 2) ?_
  refine yy_sld C hX hbl hbB (i := i + 2) (by omega) (by omega) dL_law_877 (pc' := 878) rfl ?_
  refine yy_aload_n C 2 dL_law_878 (pc' := 879) rfl rfl rfl ?_
  refine yy_iload C 1 dL_law_879 (pc' := 881) rfl rfl ?_
  refine yy_iconst C (v := (nI 3)) dL_law_881 (pc' := 882) rfl (by decide) ?_
  refine yy_iadd C (v := (nI (i + 3))) dL_law_882 (pc' := 883) rfl (nI_add i 3) ?_
  refine yy_sld C hX hbl hbB (i := i + 3) (by omega) (by omega) dL_law_883 (pc' := 884) rfl ?_
  refine yy_perm (w' := w2L G ad bd o1 o2 u1.1 M u1.2 fd) p12 ?_
  refine yc_i (yr_V C (As := [.int (xs (i + 1)), .int (xs (i + 2)), .int (xs (i + 3))]) (rest := []) lk_L_163 cd_X7_addJoin im_X7_addJoin se_X7_addJoin (mX7_addJoin l G B0 bd (wA G ad u1.1 ++ [(o1, .inl (G.2.2.1, 1, .inr (.inl u1.2))), (o2, .inl (G.2.2.2.2.2, 1, .inr (.inr (.inr (.inl fd)))))]) M (xs (i + 1)) (xs (i + 2)) (xs (i + 3)) (fun a => mk (S.2.2 0 a)) hR.rows hR.im) ⟨by decide +kernel, by decide +kernel⟩ ⟨hcs0, hss0⟩ 0 rfl rfl rfl rfl (Nat.le_of_ble_eq_true rfl) dL_law_884) (pc' := 887) rfl (fun z1 u2_1 hw_z1 => ?_)
  refine yy_istore C (L' := [(7, .int z1), (6, .int r1), (5, .int (nI i)), (0, .ref (b)), (1, .ref (ad 0)), (2, .ref (bd 0)), (3, .ref (o1)), (4, .ref (o2))]) dL_law_887 (pc' := 889) rfl (by decide) rfl ?_
  refine yy_aload_n C 5 dL_law_889 (pc' := 890) rfl rfl rfl ?_
  refine yc_i (yr_V C (As := []) (rest := []) lk_L_123 cd_X7_thrown im_X7_thrown se_X7_thrown (mX7_thrown l G B0 bd (wA G ad u1.1 ++ [(o1, .inl (G.2.2.1, 1, .inr (.inl u1.2))), (o2, .inl (G.2.2.2.2.2, 1, .inr (.inr (.inr (.inl fd)))))]) u2_1) ⟨by decide +kernel, by decide +kernel⟩ ⟨hcs0, hss0⟩ 0 rfl rfl rfl rfl (Nat.le_of_ble_eq_true rfl) dL_law_890) (pc' := 893) rfl (fun z2 _ hw_z2 => ?_)
  subst hw_z2
  have hop := op_addJoin hR hw1 hw_z1
  refine yy_iload C 1 dL_law_893 (pc' := 895) rfl rfl ?_
  rw [← hop.1]
  refine yy_icmp_eq C dL_law_895 (pc' := 898) rfl (tgt := 900) (by decide) (fun _ => ?_) (fun h_ => absurd rfl h_)
  refine yy_iload C 1 dL_law_900 (pc' := 902) rfl rfl ?_
  refine yy_if_ne C dL_law_902 (pc' := 905) rfl (tgt := 917) (by decide) (fun _ => ?_) (fun c_k => ?_)
  · skip
    refine yy_goto C (tgt := 2020) dL_law_917 (by decide) ?_
    refine yy_perm (w' := w1L G ad bd o1 o2 u1.1 u2_1 u1.2 fd) p21 ?_
    refine yy_loc [2, 3, 4, 5, 6, 7] rfl ?_
    exact K u1.1 u2_1 u1.2 fd hop.2.2
  · skip
    refine yy_aload_n C 6 dL_law_905 (pc' := 906) rfl rfl rfl ?_
    refine yy_iconst C (v := (nI 0)) dL_law_906 (pc' := 907) rfl (by decide) ?_
    refine yy_lald C 50 dL_law_907 (pc' := 908) rfl rfl (by decide) (by decide) ?_
    refine yy_iload C 0 dL_law_908 (pc' := 910) rfl rfl ?_
    refine yy_i2l C (v := z1.toInt64) dL_law_910 (pc' := 911) rfl rfl ?_
    refine yy_lcmp C dL_law_911 (pc' := 912) rfl ?_
    refine yy_eqi (show _ = nI 0 by rw [hop.2.1 c_k]; exact lg_self _) ?_
    refine yy_if_eq C dL_law_912 (pc' := 915) rfl (tgt := 917) (by decide) (fun _ => ?_) (fun h_ => absurd rfl h_)
    refine yy_goto C (tgt := 2020) dL_law_917 (by decide) ?_
    refine yy_perm (w' := w1L G ad bd o1 o2 u1.1 u2_1 u1.2 fd) p21 ?_
    refine yy_loc [2, 3, 4, 5, 6, 7] rfl ?_
    exact K u1.1 u2_1 u1.2 fd hop.2.2
