set_option maxHeartbeats 4000000 in
set_option maxRecDepth 100000 in
theorem law_24 (op_setPrice : Op_setPrice) {p : Program} {l : Launch} (hl0 : l.stackTraces = false) {e : Env} {s : State} {m : MethodId} {args : Array Value} {below : List Frame} {meth : Method} {c : Code} {G : gG} {B0 : Nat} {Q : State → Prop} (C : CX p s m args meth c cL_law RL 8 G B0) {b L0 : Nat} {xs : Nat → Int32} (hX : va_X b L0 xs s s.heap) (hbl : b < s.heap.size) (hbB : b < B0) (hL : L0 ≤ 2560) {i : Nat} (hi : i + 5 ≤ L0) {ad bd : Nat → Nat} {o1 o2 cs ss : Nat} {S : SA} {M : SM} {fo : Nat → Int64} {fd : Nat → UInt64} (hR : Rel S M) (hcs : cs + 1 ≤ room_1.cells) (hss : ss + 6 ≤ room_1.slots) (K : ∀ (S' : SA) (M' : SM) (fo' : Nat → Int64) (fd' : Nat → UInt64), Rel S' M' → YY p l e room_1 s m args below meth c G B0 8 Q 2020 [(5, .int (nI i)), (0, .ref (b)), (1, .ref (ad 0)), (2, .ref (bd 0)), (3, .ref (o1)), (4, .ref (o2))] [] (w1L G ad bd o1 o2 S' M' fo' fd') (cs + 1) (ss + 6)) : YY p l e room_1 s m args below meth c G B0 8 Q 1678 [(5, .int (nI i)), (0, .ref (b)), (1, .ref (ad 0)), (2, .ref (bd 0)), (3, .ref (o1)), (4, .ref (o2))] [] (w1L G ad bd o1 o2 S M fo fd) cs ss := by
  have hi31 : L0 < 2 ^ 31 := by omega
  have hcs0 : cs + 1 + 0 ≤ room_1.cells := by omega
  have hss0 : ss + 6 + 0 ≤ room_1.slots := by omega
  refine yy_aload_n C 2 dL_law_1678 (pc' := 1679) rfl rfl rfl ?_
  refine yy_aload_n C 1 dL_law_1679 (pc' := 1680) rfl rfl rfl ?_
  refine yy_iload C 0 dL_law_1680 (pc' := 1682) rfl rfl ?_
  refine yy_iconst C (v := (nI 1)) dL_law_1682 (pc' := 1683) rfl (by decide) ?_
  refine yy_iadd C (v := (nI (i + 1))) dL_law_1683 (pc' := 1684) rfl (nI_add i 1) ?_
  refine yy_sld C hX hbl hbB (i := i + 1) (by omega) (by omega) dL_law_1684 (pc' := 1685) rfl ?_
  refine yy_aload_n C 4 dL_law_1685 (pc' := 1686) rfl rfl rfl ?_
  refine yc_i (yr_SW C (As := [.ref (ad 0), .int (xs (i + 1)), .ref (o1)]) (rest := []) lk_L_200 cd_L_setPrice st_L_setPrice (mL_setPrice l hl0 G B0 ad ((o2, .inl (G.2.2.2.2.2, 1, .inr (.inr (.inr (.inl fd))))) :: wM G bd M) S (xs (i + 1)) hR.1 o1 fo) ⟨by decide +kernel, by decide +kernel⟩ ⟨hcs, hss⟩ rfl rfl (Nat.le_of_ble_eq_true rfl) dL_law_1686) (pc' := 1689) rfl (fun r1 u1 hw1 => ?_)
  refine yy_istore C (L' := [(6, .int r1), (5, .int (nI i)), (0, .ref (b)), (1, .ref (ad 0)), (2, .ref (bd 0)), (3, .ref (o1)), (4, .ref (o2))]) dL_law_1689 (pc' := 1691) rfl (by decide) rfl ?_
  refine yy_aload_n C 4 dL_law_1691 (pc' := 1692) rfl rfl rfl ?_
  refine yy_aload_n C 2 dL_law_1692 (pc' := 1693) rfl rfl rfl ?_
  refine yy_iload C 1 dL_law_1693 (pc' := 1695) rfl rfl ?_
  refine yy_iconst C (v := (nI 1)) dL_law_1695 (pc' := 1696) rfl (by decide) ?_
  refine yy_iadd C (v := (nI (i + 1))) dL_law_1696 (pc' := 1697) rfl (nI_add i 1) ?_
  refine yy_sld C hX hbl hbB (i := i + 1) (by omega) (by omega) dL_law_1697 (pc' := 1698) rfl ?_
  refine yy_perm (w' := w2L G ad bd o1 o2 u1.1 M u1.2 fd) p12 ?_
  refine yc_i (yr_V C (As := [.int (xs (i + 1))]) (rest := []) lk_L_202 cd_X7_setPrice im_X7_setPrice se_X7_setPrice (mX7_setPrice l G B0 bd (wA G ad u1.1 ++ [(o1, .inl (G.2.2.1, 1, .inr (.inl u1.2))), (o2, .inl (G.2.2.2.2.2, 1, .inr (.inr (.inr (.inl fd)))))]) M (xs (i + 1)) hR.im) ⟨by decide +kernel, by decide +kernel⟩ ⟨hcs0, hss0⟩ 0 rfl rfl rfl rfl (Nat.le_of_ble_eq_true rfl) dL_law_1698) (pc' := 1701) rfl (fun z1 u2_1 hw_z1 => ?_)
  refine yy_istore C (L' := [(7, .int z1), (6, .int r1), (5, .int (nI i)), (0, .ref (b)), (1, .ref (ad 0)), (2, .ref (bd 0)), (3, .ref (o1)), (4, .ref (o2))]) dL_law_1701 (pc' := 1703) rfl (by decide) rfl ?_
  refine yy_aload_n C 5 dL_law_1703 (pc' := 1704) rfl rfl rfl ?_
  refine yc_i (yr_V C (As := []) (rest := []) lk_L_123 cd_X7_thrown im_X7_thrown se_X7_thrown (mX7_thrown l G B0 bd (wA G ad u1.1 ++ [(o1, .inl (G.2.2.1, 1, .inr (.inl u1.2))), (o2, .inl (G.2.2.2.2.2, 1, .inr (.inr (.inr (.inl fd)))))]) u2_1) ⟨by decide +kernel, by decide +kernel⟩ ⟨hcs0, hss0⟩ 0 rfl rfl rfl rfl (Nat.le_of_ble_eq_true rfl) dL_law_1704) (pc' := 1707) rfl (fun z2 _ hw_z2 => ?_)
  subst hw_z2
  have hop := op_setPrice hR hw1 hw_z1
  refine yy_iload C 1 dL_law_1707 (pc' := 1709) rfl rfl ?_
  rw [← hop.1]
  refine yy_icmp_eq C dL_law_1709 (pc' := 1712) rfl (tgt := 1714) (by decide) (fun _ => ?_) (fun h_ => absurd rfl h_)
  refine yy_iload C 1 dL_law_1714 (pc' := 1716) rfl rfl ?_
  refine yy_if_ne C dL_law_1716 (pc' := 1719) rfl (tgt := 1731) (by decide) (fun _ => ?_) (fun c_k => ?_)
  · skip
    refine yy_goto C (tgt := 2020) dL_law_1731 (by decide) ?_
    refine yy_perm (w' := w1L G ad bd o1 o2 u1.1 u2_1 u1.2 fd) p21 ?_
    refine yy_loc [2, 3, 4, 5, 6, 7] rfl ?_
    exact K u1.1 u2_1 u1.2 fd hop.2.2
  · skip
    refine yy_aload_n C 6 dL_law_1719 (pc' := 1720) rfl rfl rfl ?_
    refine yy_iconst C (v := (nI 0)) dL_law_1720 (pc' := 1721) rfl (by decide) ?_
    refine yy_lald C 50 dL_law_1721 (pc' := 1722) rfl rfl (by decide) (by decide) ?_
    refine yy_iload C 0 dL_law_1722 (pc' := 1724) rfl rfl ?_
    refine yy_i2l C (v := z1.toInt64) dL_law_1724 (pc' := 1725) rfl rfl ?_
    refine yy_lcmp C dL_law_1725 (pc' := 1726) rfl ?_
    refine yy_eqi (show _ = nI 0 by rw [hop.2.1 c_k]; exact lg_self _) ?_
    refine yy_if_eq C dL_law_1726 (pc' := 1729) rfl (tgt := 1731) (by decide) (fun _ => ?_) (fun h_ => absurd rfl h_)
    refine yy_goto C (tgt := 2020) dL_law_1731 (by decide) ?_
    refine yy_perm (w' := w1L G ad bd o1 o2 u1.1 u2_1 u1.2 fd) p21 ?_
    refine yy_loc [2, 3, 4, 5, 6, 7] rfl ?_
    exact K u1.1 u2_1 u1.2 fd hop.2.2

set_option maxHeartbeats 4000000 in
set_option maxRecDepth 100000 in
theorem law_25 (op_owed : Op_owed) {p : Program} {l : Launch} (hl0 : l.stackTraces = false) {e : Env} {s : State} {m : MethodId} {args : Array Value} {below : List Frame} {meth : Method} {c : Code} {G : gG} {B0 : Nat} {Q : State → Prop} (C : CX p s m args meth c cL_law RL 8 G B0) {b L0 : Nat} {xs : Nat → Int32} (hX : va_X b L0 xs s s.heap) (hbl : b < s.heap.size) (hbB : b < B0) (hL : L0 ≤ 2560) {i : Nat} (hi : i + 5 ≤ L0) {ad bd : Nat → Nat} {o1 o2 cs ss : Nat} {S : SA} {M : SM} {fo : Nat → Int64} {fd : Nat → UInt64} (hR : Rel S M) (hcs : cs + 1 ≤ room_1.cells) (hss : ss + 6 ≤ room_1.slots) (K : ∀ (S' : SA) (M' : SM) (fo' : Nat → Int64) (fd' : Nat → UInt64), Rel S' M' → YY p l e room_1 s m args below meth c G B0 8 Q 2020 [(5, .int (nI i)), (0, .ref (b)), (1, .ref (ad 0)), (2, .ref (bd 0)), (3, .ref (o1)), (4, .ref (o2))] [] (w1L G ad bd o1 o2 S' M' fo' fd') (cs + 1) (ss + 6)) : YY p l e room_1 s m args below meth c G B0 8 Q 1734 [(5, .int (nI i)), (0, .ref (b)), (1, .ref (ad 0)), (2, .ref (bd 0)), (3, .ref (o1)), (4, .ref (o2))] [] (w1L G ad bd o1 o2 S M fo fd) cs ss := by
  have hi31 : L0 < 2 ^ 31 := by omega
  have hcs0 : cs + 1 + 0 ≤ room_1.cells := by omega
  have hss0 : ss + 6 + 0 ≤ room_1.slots := by omega
  refine yy_aload_n C 2 dL_law_1734 (pc' := 1735) rfl rfl rfl ?_
  refine yy_aload_n C 1 dL_law_1735 (pc' := 1736) rfl rfl rfl ?_
  refine yy_iload C 0 dL_law_1736 (pc' := 1738) rfl rfl ?_
  refine yy_iconst C (v := (nI 1)) dL_law_1738 (pc' := 1739) rfl (by decide) ?_
  refine yy_iadd C (v := (nI (i + 1))) dL_law_1739 (pc' := 1740) rfl (nI_add i 1) ?_
  refine yy_sld C hX hbl hbB (i := i + 1) (by omega) (by omega) dL_law_1740 (pc' := 1741) rfl ?_
  refine yy_aload_n C 4 dL_law_1741 (pc' := 1742) rfl rfl rfl ?_
  refine yc_i (yr_SW C (As := [.ref (ad 0), .int (xs (i + 1)), .ref (o1)]) (rest := []) lk_L_203 cd_L_owed st_L_owed (mL_owed l hl0 G B0 ad ((o2, .inl (G.2.2.2.2.2, 1, .inr (.inr (.inr (.inl fd))))) :: wM G bd M) S (xs (i + 1)) hR.1 o1 fo) ⟨by decide +kernel, by decide +kernel⟩ ⟨hcs, hss⟩ rfl rfl (Nat.le_of_ble_eq_true rfl) dL_law_1742) (pc' := 1745) rfl (fun r1 u1 hw1 => ?_)
  refine yy_istore C (L' := [(6, .int r1), (5, .int (nI i)), (0, .ref (b)), (1, .ref (ad 0)), (2, .ref (bd 0)), (3, .ref (o1)), (4, .ref (o2))]) dL_law_1745 (pc' := 1747) rfl (by decide) rfl ?_
  refine yy_aload_n C 4 dL_law_1747 (pc' := 1748) rfl rfl rfl ?_
  refine yy_aload_n C 2 dL_law_1748 (pc' := 1749) rfl rfl rfl ?_
  refine yy_iload C 1 dL_law_1749 (pc' := 1751) rfl rfl ?_
  refine yy_iconst C (v := (nI 1)) dL_law_1751 (pc' := 1752) rfl (by decide) ?_
  refine yy_iadd C (v := (nI (i + 1))) dL_law_1752 (pc' := 1753) rfl (nI_add i 1) ?_
  refine yy_sld C hX hbl hbB (i := i + 1) (by omega) (by omega) dL_law_1753 (pc' := 1754) rfl ?_
  refine yy_perm (w' := w2L G ad bd o1 o2 u1.1 M u1.2 fd) p12 ?_
  refine yc_i (yr_V C (As := [.int (xs (i + 1))]) (rest := []) lk_L_205 cd_X7_owed im_X7_owed se_X7_owed (mX7_owed l G B0 bd (wA G ad u1.1 ++ [(o1, .inl (G.2.2.1, 1, .inr (.inl u1.2))), (o2, .inl (G.2.2.2.2.2, 1, .inr (.inr (.inr (.inl fd)))))]) M (xs (i + 1)) hR.im) ⟨by decide +kernel, by decide +kernel⟩ ⟨hcs0, hss0⟩ 0 rfl rfl rfl rfl (Nat.le_of_ble_eq_true rfl) dL_law_1754) (pc' := 1757) rfl (fun z1 u2_1 hw_z1 => ?_)
  refine yy_istore C (L' := [(7, .int z1), (6, .int r1), (5, .int (nI i)), (0, .ref (b)), (1, .ref (ad 0)), (2, .ref (bd 0)), (3, .ref (o1)), (4, .ref (o2))]) dL_law_1757 (pc' := 1759) rfl (by decide) rfl ?_
  refine yy_aload_n C 5 dL_law_1759 (pc' := 1760) rfl rfl rfl ?_
  refine yc_i (yr_V C (As := []) (rest := []) lk_L_123 cd_X7_thrown im_X7_thrown se_X7_thrown (mX7_thrown l G B0 bd (wA G ad u1.1 ++ [(o1, .inl (G.2.2.1, 1, .inr (.inl u1.2))), (o2, .inl (G.2.2.2.2.2, 1, .inr (.inr (.inr (.inl fd)))))]) u2_1) ⟨by decide +kernel, by decide +kernel⟩ ⟨hcs0, hss0⟩ 0 rfl rfl rfl rfl (Nat.le_of_ble_eq_true rfl) dL_law_1760) (pc' := 1763) rfl (fun z2 _ hw_z2 => ?_)
  subst hw_z2
  have hop := op_owed hR hw1 hw_z1
  refine yy_iload C 1 dL_law_1763 (pc' := 1765) rfl rfl ?_
  rw [← hop.1]
  refine yy_icmp_eq C dL_law_1765 (pc' := 1768) rfl (tgt := 1770) (by decide) (fun _ => ?_) (fun h_ => absurd rfl h_)
  refine yy_iload C 1 dL_law_1770 (pc' := 1772) rfl rfl ?_
  refine yy_if_ne C dL_law_1772 (pc' := 1775) rfl (tgt := 1787) (by decide) (fun _ => ?_) (fun c_k => ?_)
  · skip
    refine yy_goto C (tgt := 2020) dL_law_1787 (by decide) ?_
    refine yy_perm (w' := w1L G ad bd o1 o2 u1.1 u2_1 u1.2 fd) p21 ?_
    refine yy_loc [2, 3, 4, 5, 6, 7] rfl ?_
    exact K u1.1 u2_1 u1.2 fd hop.2.2
  · skip
    refine yy_aload_n C 6 dL_law_1775 (pc' := 1776) rfl rfl rfl ?_
    refine yy_iconst C (v := (nI 0)) dL_law_1776 (pc' := 1777) rfl (by decide) ?_
    refine yy_lald C 50 dL_law_1777 (pc' := 1778) rfl rfl (by decide) (by decide) ?_
    refine yy_iload C 0 dL_law_1778 (pc' := 1780) rfl rfl ?_
    refine yy_i2l C (v := z1.toInt64) dL_law_1780 (pc' := 1781) rfl rfl ?_
    refine yy_lcmp C dL_law_1781 (pc' := 1782) rfl ?_
    refine yy_eqi (show _ = nI 0 by rw [hop.2.1 c_k]; exact lg_self _) ?_
    refine yy_if_eq C dL_law_1782 (pc' := 1785) rfl (tgt := 1787) (by decide) (fun _ => ?_) (fun h_ => absurd rfl h_)
    refine yy_goto C (tgt := 2020) dL_law_1787 (by decide) ?_
    refine yy_perm (w' := w1L G ad bd o1 o2 u1.1 u2_1 u1.2 fd) p21 ?_
    refine yy_loc [2, 3, 4, 5, 6, 7] rfl ?_
    exact K u1.1 u2_1 u1.2 fd hop.2.2

set_option maxHeartbeats 4000000 in
set_option maxRecDepth 100000 in
theorem law_26 (op_pay : Op_pay) {p : Program} {l : Launch} (hl0 : l.stackTraces = false) {e : Env} {s : State} {m : MethodId} {args : Array Value} {below : List Frame} {meth : Method} {c : Code} {G : gG} {B0 : Nat} {Q : State → Prop} (C : CX p s m args meth c cL_law RL 8 G B0) {b L0 : Nat} {xs : Nat → Int32} (hX : va_X b L0 xs s s.heap) (hbl : b < s.heap.size) (hbB : b < B0) (hL : L0 ≤ 2560) {i : Nat} (hi : i + 5 ≤ L0) {ad bd : Nat → Nat} {o1 o2 cs ss : Nat} {S : SA} {M : SM} {fo : Nat → Int64} {fd : Nat → UInt64} (hR : Rel S M) (hcs : cs + 1 ≤ room_1.cells) (hss : ss + 6 ≤ room_1.slots) (K : ∀ (S' : SA) (M' : SM) (fo' : Nat → Int64) (fd' : Nat → UInt64), Rel S' M' → YY p l e room_1 s m args below meth c G B0 8 Q 2020 [(5, .int (nI i)), (0, .ref (b)), (1, .ref (ad 0)), (2, .ref (bd 0)), (3, .ref (o1)), (4, .ref (o2))] [] (w1L G ad bd o1 o2 S' M' fo' fd') (cs + 1) (ss + 6)) : YY p l e room_1 s m args below meth c G B0 8 Q 1790 [(5, .int (nI i)), (0, .ref (b)), (1, .ref (ad 0)), (2, .ref (bd 0)), (3, .ref (o1)), (4, .ref (o2))] [] (w1L G ad bd o1 o2 S M fo fd) cs ss := by
  have hi31 : L0 < 2 ^ 31 := by omega
  have hcs0 : cs + 1 + 0 ≤ room_1.cells := by omega
  have hss0 : ss + 6 + 0 ≤ room_1.slots := by omega
  refine yy_aload_n C 2 dL_law_1790 (pc' := 1791) rfl rfl rfl ?_
  refine yy_aload_n C 1 dL_law_1791 (pc' := 1792) rfl rfl rfl ?_
  refine yy_iload C 0 dL_law_1792 (pc' := 1794) rfl rfl ?_
  refine yy_iconst C (v := (nI 1)) dL_law_1794 (pc' := 1795) rfl (by decide) ?_
  refine yy_iadd C (v := (nI (i + 1))) dL_law_1795 (pc' := 1796) rfl (nI_add i 1) ?_
  refine yy_sld C hX hbl hbB (i := i + 1) (by omega) (by omega) dL_law_1796 (pc' := 1797) rfl ?_
  refine yy_aload_n C 1 dL_law_1797 (pc' := 1798) rfl rfl rfl ?_
  refine yy_iload C 0 dL_law_1798 (pc' := 1800) rfl rfl ?_
  refine yy_iconst C (v := (nI 2)) dL_law_1800 (pc' := 1801) rfl (by decide) ?_
  refine yy_iadd C (v := (nI (i + 2))) dL_law_1801 (pc' := 1802) rfl (nI_add i 2) ?_
  refine yy_sld C hX hbl hbB (i := i + 2) (by omega) (by omega) dL_law_1802 (pc' := 1803) rfl ?_
  refine yy_aload_n C 4 dL_law_1803 (pc' := 1804) rfl rfl rfl ?_
  refine yc_i (yr_SW C (As := [.ref (ad 0), .int (xs (i + 1)), .int (xs (i + 2)), .ref (o1)]) (rest := []) lk_L_206 cd_L_pay st_L_pay (mL_pay l hl0 G B0 ad ((o2, .inl (G.2.2.2.2.2, 1, .inr (.inr (.inr (.inl fd))))) :: wM G bd M) S (xs (i + 1)) (xs (i + 2)) hR.1 o1 fo) ⟨by decide +kernel, by decide +kernel⟩ ⟨hcs, hss⟩ rfl rfl (Nat.le_of_ble_eq_true rfl) dL_law_1804) (pc' := 1807) rfl (fun r1 u1 hw1 => ?_)
  refine yy_istore C (L' := [(6, .int r1), (5, .int (nI i)), (0, .ref (b)), (1, .ref (ad 0)), (2, .ref (bd 0)), (3, .ref (o1)), (4, .ref (o2))]) dL_law_1807 (pc' := 1809) rfl (by decide) rfl ?_
  refine yy_aload_n C 4 dL_law_1809 (pc' := 1810) rfl rfl rfl ?_
  refine yy_aload_n C 2 dL_law_1810 (pc' := 1811) rfl rfl rfl ?_
  refine yy_iload C 1 dL_law_1811 (pc' := 1813) rfl rfl ?_
  refine yy_iconst C (v := (nI 1)) dL_law_1813 (pc' := 1814) rfl (by decide) ?_
  refine yy_iadd C (v := (nI (i + 1))) dL_law_1814 (pc' := 1815) rfl (nI_add i 1) ?_
  refine yy_sld C hX hbl hbB (i := i + 1) (by omega) (by omega) dL_law_1815 (pc' := 1816) rfl ?_
  refine yy_aload_n C 2 dL_law_1816 (pc' := 1817) rfl rfl rfl ?_
  refine yy_iload C 1 dL_law_1817 (pc' := 1819) rfl rfl ?_
  refine yy_iconst C (v := (nI 2)) dL_law_1819 (pc' := 1820) rfl (by decide) ?_
  refine yy_iadd C (v := (nI (i + 2))) dL_law_1820 (pc' := 1821) rfl (nI_add i 2) ?_
  refine yy_sld C hX hbl hbB (i := i + 2) (by omega) (by omega) dL_law_1821 (pc' := 1822) rfl ?_
  refine yy_perm (w' := w2L G ad bd o1 o2 u1.1 M u1.2 fd) p12 ?_
  refine yc_i (yr_V C (As := [.int (xs (i + 1)), .int (xs (i + 2))]) (rest := []) lk_L_208 cd_X7_pay im_X7_pay se_X7_pay (mX7_pay l G B0 bd (wA G ad u1.1 ++ [(o1, .inl (G.2.2.1, 1, .inr (.inl u1.2))), (o2, .inl (G.2.2.2.2.2, 1, .inr (.inr (.inr (.inl fd)))))]) M (xs (i + 1)) (xs (i + 2)) hR.im) ⟨by decide +kernel, by decide +kernel⟩ ⟨hcs0, hss0⟩ 0 rfl rfl rfl rfl (Nat.le_of_ble_eq_true rfl) dL_law_1822) (pc' := 1825) rfl (fun z1 u2_1 hw_z1 => ?_)
  refine yy_istore C (L' := [(7, .int z1), (6, .int r1), (5, .int (nI i)), (0, .ref (b)), (1, .ref (ad 0)), (2, .ref (bd 0)), (3, .ref (o1)), (4, .ref (o2))]) dL_law_1825 (pc' := 1827) rfl (by decide) rfl ?_
  refine yy_aload_n C 5 dL_law_1827 (pc' := 1828) rfl rfl rfl ?_
  refine yc_i (yr_V C (As := []) (rest := []) lk_L_123 cd_X7_thrown im_X7_thrown se_X7_thrown (mX7_thrown l G B0 bd (wA G ad u1.1 ++ [(o1, .inl (G.2.2.1, 1, .inr (.inl u1.2))), (o2, .inl (G.2.2.2.2.2, 1, .inr (.inr (.inr (.inl fd)))))]) u2_1) ⟨by decide +kernel, by decide +kernel⟩ ⟨hcs0, hss0⟩ 0 rfl rfl rfl rfl (Nat.le_of_ble_eq_true rfl) dL_law_1828) (pc' := 1831) rfl (fun z2 _ hw_z2 => ?_)
  subst hw_z2
  have hop := op_pay hR hw1 hw_z1
  refine yy_iload C 1 dL_law_1831 (pc' := 1833) rfl rfl ?_
  rw [← hop.1]
  refine yy_icmp_eq C dL_law_1833 (pc' := 1836) rfl (tgt := 1838) (by decide) (fun _ => ?_) (fun h_ => absurd rfl h_)
  refine yy_iload C 1 dL_law_1838 (pc' := 1840) rfl rfl ?_
  refine yy_if_ne C dL_law_1840 (pc' := 1843) rfl (tgt := 1855) (by decide) (fun _ => ?_) (fun c_k => ?_)
  · skip
    refine yy_goto C (tgt := 2020) dL_law_1855 (by decide) ?_
    refine yy_perm (w' := w1L G ad bd o1 o2 u1.1 u2_1 u1.2 fd) p21 ?_
    refine yy_loc [2, 3, 4, 5, 6, 7] rfl ?_
    exact K u1.1 u2_1 u1.2 fd hop.2.2
  · skip
    refine yy_aload_n C 6 dL_law_1843 (pc' := 1844) rfl rfl rfl ?_
    refine yy_iconst C (v := (nI 0)) dL_law_1844 (pc' := 1845) rfl (by decide) ?_
    refine yy_lald C 50 dL_law_1845 (pc' := 1846) rfl rfl (by decide) (by decide) ?_
    refine yy_iload C 0 dL_law_1846 (pc' := 1848) rfl rfl ?_
    refine yy_i2l C (v := z1.toInt64) dL_law_1848 (pc' := 1849) rfl rfl ?_
    refine yy_lcmp C dL_law_1849 (pc' := 1850) rfl ?_
    refine yy_eqi (show _ = nI 0 by rw [hop.2.1 c_k]; exact lg_self _) ?_
    refine yy_if_eq C dL_law_1850 (pc' := 1853) rfl (tgt := 1855) (by decide) (fun _ => ?_) (fun h_ => absurd rfl h_)
    refine yy_goto C (tgt := 2020) dL_law_1855 (by decide) ?_
    refine yy_perm (w' := w1L G ad bd o1 o2 u1.1 u2_1 u1.2 fd) p21 ?_
    refine yy_loc [2, 3, 4, 5, 6, 7] rfl ?_
    exact K u1.1 u2_1 u1.2 fd hop.2.2

set_option maxHeartbeats 4000000 in
set_option maxRecDepth 100000 in
theorem law_27 (op_pass : Op_pass) {p : Program} {l : Launch} (hl0 : l.stackTraces = false) {e : Env} {s : State} {m : MethodId} {args : Array Value} {below : List Frame} {meth : Method} {c : Code} {G : gG} {B0 : Nat} {Q : State → Prop} (C : CX p s m args meth c cL_law RL 8 G B0) {b L0 : Nat} {xs : Nat → Int32} (hX : va_X b L0 xs s s.heap) (hbl : b < s.heap.size) (hbB : b < B0) (hL : L0 ≤ 2560) {i : Nat} (hi : i + 5 ≤ L0) {ad bd : Nat → Nat} {o1 o2 cs ss : Nat} {S : SA} {M : SM} {fo : Nat → Int64} {fd : Nat → UInt64} (hR : Rel S M) (hcs : cs + 1 ≤ room_1.cells) (hss : ss + 6 ≤ room_1.slots) (K : ∀ (S' : SA) (M' : SM) (fo' : Nat → Int64) (fd' : Nat → UInt64), Rel S' M' → YY p l e room_1 s m args below meth c G B0 8 Q 2020 [(5, .int (nI i)), (0, .ref (b)), (1, .ref (ad 0)), (2, .ref (bd 0)), (3, .ref (o1)), (4, .ref (o2))] [] (w1L G ad bd o1 o2 S' M' fo' fd') (cs + 1) (ss + 6)) : YY p l e room_1 s m args below meth c G B0 8 Q 1858 [(5, .int (nI i)), (0, .ref (b)), (1, .ref (ad 0)), (2, .ref (bd 0)), (3, .ref (o1)), (4, .ref (o2))] [] (w1L G ad bd o1 o2 S M fo fd) cs ss := by
  have hi31 : L0 < 2 ^ 31 := by omega
  have hcs0 : cs + 1 + 0 ≤ room_1.cells := by omega
  have hss0 : ss + 6 + 0 ≤ room_1.slots := by omega
  refine yy_aload_n C 2 dL_law_1858 (pc' := 1859) rfl rfl rfl ?_
  refine yy_aload_n C 1 dL_law_1859 (pc' := 1860) rfl rfl rfl ?_
  refine yy_iload C 0 dL_law_1860 (pc' := 1862) rfl rfl ?_
  refine yy_iconst C (v := (nI 1)) dL_law_1862 (pc' := 1863) rfl (by decide) ?_
  refine yy_iadd C (v := (nI (i + 1))) dL_law_1863 (pc' := 1864) rfl (nI_add i 1) ?_
  refine yy_sld C hX hbl hbB (i := i + 1) (by omega) (by omega) dL_law_1864 (pc' := 1865) rfl ?_
  refine yy_aload_n C 4 dL_law_1865 (pc' := 1866) rfl rfl rfl ?_
  refine yc_i (yr_SW C (As := [.ref (ad 0), .int (xs (i + 1)), .ref (o1)]) (rest := []) lk_L_209 cd_L_pass st_L_pass (mL_pass l hl0 G B0 ad ((o2, .inl (G.2.2.2.2.2, 1, .inr (.inr (.inr (.inl fd))))) :: wM G bd M) S (xs (i + 1)) hR.1 o1 fo) ⟨by decide +kernel, by decide +kernel⟩ ⟨hcs, hss⟩ rfl rfl (Nat.le_of_ble_eq_true rfl) dL_law_1866) (pc' := 1869) rfl (fun r1 u1 hw1 => ?_)
  refine yy_istore C (L' := [(6, .int r1), (5, .int (nI i)), (0, .ref (b)), (1, .ref (ad 0)), (2, .ref (bd 0)), (3, .ref (o1)), (4, .ref (o2))]) dL_law_1869 (pc' := 1871) rfl (by decide) rfl ?_
  refine yy_aload_n C 4 dL_law_1871 (pc' := 1872) rfl rfl rfl ?_
  refine yy_aload_n C 2 dL_law_1872 (pc' := 1873) rfl rfl rfl ?_
  refine yy_iload C 1 dL_law_1873 (pc' := 1875) rfl rfl ?_
  refine yy_iconst C (v := (nI 1)) dL_law_1875 (pc' := 1876) rfl (by decide) ?_
  refine yy_iadd C (v := (nI (i + 1))) dL_law_1876 (pc' := 1877) rfl (nI_add i 1) ?_
  refine yy_sld C hX hbl hbB (i := i + 1) (by omega) (by omega) dL_law_1877 (pc' := 1878) rfl ?_
  refine yy_perm (w' := w2L G ad bd o1 o2 u1.1 M u1.2 fd) p12 ?_
  refine yc_i (yr_V C (As := [.int (xs (i + 1))]) (rest := []) lk_L_211 cd_X7_pass im_X7_pass se_X7_pass (mX7_pass l G B0 bd (wA G ad u1.1 ++ [(o1, .inl (G.2.2.1, 1, .inr (.inl u1.2))), (o2, .inl (G.2.2.2.2.2, 1, .inr (.inr (.inr (.inl fd)))))]) M (xs (i + 1)) hR.im) ⟨by decide +kernel, by decide +kernel⟩ ⟨hcs0, hss0⟩ 0 rfl rfl rfl rfl (Nat.le_of_ble_eq_true rfl) dL_law_1878) (pc' := 1881) rfl (fun z1 u2_1 hw_z1 => ?_)
  refine yy_istore C (L' := [(7, .int z1), (6, .int r1), (5, .int (nI i)), (0, .ref (b)), (1, .ref (ad 0)), (2, .ref (bd 0)), (3, .ref (o1)), (4, .ref (o2))]) dL_law_1881 (pc' := 1883) rfl (by decide) rfl ?_
  refine yy_aload_n C 5 dL_law_1883 (pc' := 1884) rfl rfl rfl ?_
  refine yc_i (yr_V C (As := []) (rest := []) lk_L_123 cd_X7_thrown im_X7_thrown se_X7_thrown (mX7_thrown l G B0 bd (wA G ad u1.1 ++ [(o1, .inl (G.2.2.1, 1, .inr (.inl u1.2))), (o2, .inl (G.2.2.2.2.2, 1, .inr (.inr (.inr (.inl fd)))))]) u2_1) ⟨by decide +kernel, by decide +kernel⟩ ⟨hcs0, hss0⟩ 0 rfl rfl rfl rfl (Nat.le_of_ble_eq_true rfl) dL_law_1884) (pc' := 1887) rfl (fun z2 _ hw_z2 => ?_)
  subst hw_z2
  have hop := op_pass hR hw1 hw_z1
  refine yy_iload C 1 dL_law_1887 (pc' := 1889) rfl rfl ?_
  rw [← hop.1]
  refine yy_icmp_eq C dL_law_1889 (pc' := 1892) rfl (tgt := 1894) (by decide) (fun _ => ?_) (fun h_ => absurd rfl h_)
  refine yy_iload C 1 dL_law_1894 (pc' := 1896) rfl rfl ?_
  refine yy_if_ne C dL_law_1896 (pc' := 1899) rfl (tgt := 1911) (by decide) (fun _ => ?_) (fun c_k => ?_)
  · skip
    refine yy_goto C (tgt := 2020) dL_law_1911 (by decide) ?_
    refine yy_perm (w' := w1L G ad bd o1 o2 u1.1 u2_1 u1.2 fd) p21 ?_
    refine yy_loc [2, 3, 4, 5, 6, 7] rfl ?_
    exact K u1.1 u2_1 u1.2 fd hop.2.2
  · skip
    refine yy_aload_n C 6 dL_law_1899 (pc' := 1900) rfl rfl rfl ?_
    refine yy_iconst C (v := (nI 0)) dL_law_1900 (pc' := 1901) rfl (by decide) ?_
    refine yy_lald C 50 dL_law_1901 (pc' := 1902) rfl rfl (by decide) (by decide) ?_
    refine yy_iload C 0 dL_law_1902 (pc' := 1904) rfl rfl ?_
    refine yy_i2l C (v := z1.toInt64) dL_law_1904 (pc' := 1905) rfl rfl ?_
    refine yy_lcmp C dL_law_1905 (pc' := 1906) rfl ?_
    refine yy_eqi (show _ = nI 0 by rw [hop.2.1 c_k]; exact lg_self _) ?_
    refine yy_if_eq C dL_law_1906 (pc' := 1909) rfl (tgt := 1911) (by decide) (fun _ => ?_) (fun h_ => absurd rfl h_)
    refine yy_goto C (tgt := 2020) dL_law_1911 (by decide) ?_
    refine yy_perm (w' := w1L G ad bd o1 o2 u1.1 u2_1 u1.2 fd) p21 ?_
    refine yy_loc [2, 3, 4, 5, 6, 7] rfl ?_
    exact K u1.1 u2_1 u1.2 fd hop.2.2
