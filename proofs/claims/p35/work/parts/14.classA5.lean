def lgA (S : SA) (a : Nat) : Nat := lgM (S.2.1 13) (S.2.1 14) (nI a) (S.1 5)
/-- the log: what was given is held; it never overflows -/
def JA (S : SA) : Prop := (∀ a, a < 5 → ∀ k, (lgA S a).testBit k = true → hb S a k = true) ∧ S.1 5 = fb_sm (fun a => fb_ct (fun k => (lgA S a).testBit k) 40) 5
def shareF (k n : Nat) : UInt32 := FP.fdiv (FP.i2f (nI k)) (FP.i2f (nI n))
theorem share_ok0 : ∀ k, k < 21 → ∀ n, n < 21 → 0 < n → FP.fdiv (FP.i2f (nI k)) (FP.i2f (nI n)) &&& 0x7fffffff ≤ 0x7f800000 := by decide +kernel
theorem share_ok : ∀ k, k < 21 → ∀ n, n < 21 → 0 < n → vf_n32 (FP.fdiv (FP.i2f (nI k)) (FP.i2f (nI n))) := share_ok0
theorem cdNH_nn {nl : Nat} {h : Nat → Nat → Bool} {a x : Int32} (hn : nl ≤ 40) (e : cdNH nl h a x = 0) : ∃ j k : Nat, j < 5 ∧ k < nl ∧ a = nI j ∧ x = nI k ∧ h j k = false := by
  obtain ⟨h1, h2, h3⟩ := cdNH_0 e
  obtain ⟨j, hj, rfl⟩ := inR_of (by omega) h1
  obtain ⟨k, hk, rfl⟩ := inR_of (by omega) h2
  rw [ix_lt hj (by omega), ix_lt hk (by omega)] at h3
  exact ⟨j, k, hj, hk, rfl, rfl, h3⟩
theorem ans_0 {nq : Nat} {q : Nat → Int32} {j : Nat} (hn : nq ≤ 20) (hj : j < nq) (h : q j = nI 119) : cdAns nq q (nI j) = 0 := by
  rw [cdAns, if_neg (by rw [inR_nI (by omega) hj]; decide), if_pos (by rw [ix_lt hj (by omega)]; exact h)]
theorem ans_2 {nq : Nat} {q : Nat → Int32} {j : Nat} (hn : nq ≤ 20) (hj : j < nq) (h : ¬ q j = nI 119) : cdAns nq q (nI j) = 2 := by
  rw [cdAns, if_neg (by rw [inR_nI (by omega) hj]; decide), if_neg (by rw [ix_lt hj (by omega)]; exact h)]
theorem pass_0 {d j : Nat} (h1 : 1 ≤ j) (h2 : j ≤ 90) (h3 : d + j ≤ 9999) : cdPass d (nI j) = 0 := by
  rw [cdPass, if_pos (by simp [inB, nI_ltI (show j < 2 ^ 31 by omega) (show 1 < 2 ^ 31 by decide), nI_ltI (show 90 < 2 ^ 31 by decide) (show j < 2 ^ 31 by omega)]; omega), if_neg (by rw [nI_add, nI_ltI (by decide) (by omega)]; omega)]
theorem pass_1 {d j : Nat} (h1 : 1 ≤ j) (h2 : j ≤ 90) (hd : d ≤ 9999) (h3 : ¬ d + j ≤ 9999) : cdPass d (nI j) = 1 := by
  rw [cdPass, if_pos (by simp [inB, nI_ltI (show j < 2 ^ 31 by omega) (show 1 < 2 ^ 31 by decide), nI_ltI (show 90 < 2 ^ 31 by decide) (show j < 2 ^ 31 by omega)]; omega), if_pos (by rw [nI_add, nI_ltI (by decide) (by omega)]; omega)]
theorem nI_rng {z : Int32} {n : Nat} (hn : n < 2 ^ 31) (h1 : ¬ z < nI 1) (h2 : z ≤ nI n) : ∃ j : Nat, 1 ≤ j ∧ j ≤ n ∧ z = nI j := by
  have h3 : ¬ z < 0 := fun h => h1 (Int32.lt_trans h (by decide))
  obtain ⟨j, hj, rfl⟩ := nI_of h3
  exact ⟨j, Nat.not_lt.mp (fun h => h1 ((nI_ltI hj (by decide)).mpr h)), (nI_leI hj hn).mp h2, rfl⟩
theorem nI_rng0 {z : Int32} {n : Nat} (hn : n < 2 ^ 31) (h1 : ¬ z < 0) (h2 : z ≤ nI n) : ∃ j : Nat, j ≤ n ∧ z = nI j := by
  obtain ⟨j, hj, rfl⟩ := nI_of h1
  exact ⟨j, (nI_leI hj hn).mp h2, rfl⟩
def cdRoot (S : SA) (a x : Int32) : Nat := if cdNH (S.1 1) (hb S) a x = 0 then (if protI S (ix a) (ix x) = -1 then 4 else 0) else cdNH (S.1 1) (hb S) a x
theorem lg_lt {S : SA} (hI : IA S) (a : Int32) : lgM (S.2.1 13) (S.2.1 14) a (S.1 5) < 2 ^ 40 := by
  have h : ∀ n, n ≤ S.1 5 → lgM (S.2.1 13) (S.2.1 14) a n < 2 ^ 40 := by
    intro n
    induction n with
    | zero => intro _; exact (by decide : 0 < 2 ^ 40)
    | succ n ih =>
      intro hn
      by_cases hc : S.2.1 13 n = a
      · rw [lgM_t hc]
        exact Nat.or_lt_two_pow (ih (by omega)) (bit40 (hI.2.2.2.2.2.2.2.2.2.2.2.1 n (by omega)))
      · rw [lgM_f hc]
        exact ih (by omega)
  exact h _ (Nat.le_refl _)
theorem req_0 {nd nq : Nat} {ow : Nat → Int32} {wt : Bool} {j : Nat} {d : Int32} (hj : j < 5) (hd : inR d nd = true) (ho : ow j ≤ nI 100) (hq : nq < 20) (hw : wt = false) : cdReq nd nq ow wt (nI j) d = 0 := by
  rw [cdReq, if_neg (by rw [inR_nI (by decide) hj]; decide), if_neg (by rw [hd]; decide), if_neg (by rw [ix_lt hj (by decide)]; exact Int32.not_lt.mpr ho), if_neg (by simp [hw]; omega)]
theorem req_3 {nd nq : Nat} {ow : Nat → Int32} {wt : Bool} {j : Nat} {d : Int32} (hj : j < 5) (hd : inR d nd = true) (ho : nI 100 < ow j) : cdReq nd nq ow wt (nI j) d = 3 := by
  rw [cdReq, if_neg (by rw [inR_nI (by decide) hj]; decide), if_neg (by rw [hd]; decide), if_pos (by rw [ix_lt hj (by decide)]; exact ho)]
theorem req_4 {nd nq : Nat} {ow : Nat → Int32} {wt : Bool} {j : Nat} {d : Int32} (hj : j < 5) (hd : inR d nd = true) (ho : ow j ≤ nI 100) (hw : nq = 20 ∨ wt = true) : cdReq nd nq ow wt (nI j) d = 4 := by
  rw [cdReq, if_neg (by rw [inR_nI (by decide) hj]; decide), if_neg (by rw [hd]; decide), if_neg (by rw [ix_lt hj (by decide)]; exact Int32.not_lt.mpr ho), if_pos (by simp; exact hw)]
theorem share_1 {n : Nat} (hn : n ≤ 20) (h : ¬ 0 < nI n) : cdShare n = 1 := by
  rcases Nat.eq_zero_or_pos n with hz | hz
  · rw [hz]; rfl
  · exact absurd (nI_lt hz (by omega)) h
def ush (x : Int64) (y : Int32) : Int64 := (x.toUInt64 >>> (y.toInt64.toUInt64 &&& Int64.toUInt64 63)).toInt64
theorem bk_add {x y : Int64} (h : mk x + mk y < 2 ^ 64) : mk (x + y) = mk x + mk y := by
  unfold mk at *
  rw [Int64.toBitVec_add, BitVec.toNat_add, Nat.mod_eq_of_lt h]
theorem bk_sub {x y : Int64} (h : mk y ≤ mk x) : mk (x - y) = mk x - mk y := by
  unfold mk at *
  rw [Int64.toBitVec_sub, BitVec.toNat_sub_of_le (BitVec.le_def.mpr h)]
theorem bk_and (x y : Int64) : mk (x &&& y) = mk x &&& mk y := by
  unfold mk
  rw [Int64.toBitVec_and, BitVec.toNat_and]
theorem bk_ush (x : Int64) {k : Nat} (h : (nI k).toInt64.toUInt64 &&& Int64.toUInt64 63 = UInt64.ofNat k) (hk : k < 64) : mk (ush x (nI k)) = mk x / 2 ^ k := by
  unfold ush mk
  rw [h]
  show (x.toUInt64 >>> UInt64.ofNat k).toNat = _
  rw [UInt64.toNat_shiftRight, Nat.shiftRight_eq_div_pow]
  have h1 : (UInt64.ofNat k).toNat % 64 = k := by
    rw [UInt64.toNat_ofNat']
    omega
  rw [h1]
  rfl
theorem bk_low {x : Int64} : x.toInt32 &&& nI 127 = nI (mk x % 128) := by
  apply Int32.toBitVec_inj.mp
  apply BitVec.eq_of_toNat_eq
  rw [Int32.toBitVec_and, BitVec.toNat_and]
  have h1 : (x.toInt32).toBitVec.toNat = mk x % 2 ^ 32 := by
    unfold mk
    rw [Int64.toBitVec_toInt32, BitVec.signExtend_eq_setWidth_of_le _ (by decide), BitVec.toNat_setWidth]
  have h2 : (nI 127).toBitVec.toNat = 2 ^ 7 - 1 := by decide
  have h3 : (nI (mk x % 128)).toBitVec.toNat = mk x % 128 := by
    unfold nI
    simp
    omega
  rw [h1, h2, h3, Nat.and_two_pow_sub_one_eq_mod]
  omega
theorem bk_spl {a b m n : Nat} (ha : a < 256) (hm : m < 256) : (a + 256 * b) &&& (m + 256 * n) = (a &&& m) + 256 * (b &&& n) := by
  apply Nat.eq_of_testBit_eq
  intro i
  have h1 : (a &&& m) < 2 ^ 8 := Nat.lt_of_le_of_lt Nat.and_le_left ha
  rw [Nat.testBit_and, show a + 256 * b = 2 ^ 8 * b + a by omega, show m + 256 * n = 2 ^ 8 * n + m by omega, show (a &&& m) + 256 * (b &&& n) = 2 ^ 8 * (b &&& n) + (a &&& m) by omega, Nat.testBit_two_pow_mul_add _ ha, Nat.testBit_two_pow_mul_add _ hm, Nat.testBit_two_pow_mul_add _ h1]
  split
  · rw [Nat.testBit_and]
  · rw [Nat.testBit_and]
def g1_ (m x : Nat) : Nat := x - ((x / 2) &&& m)
def g2_ (m x : Nat) : Nat := (x &&& m) + ((x / 4) &&& m)
def g3_ (m x : Nat) : Nat := (x + x / 16) &&& m
theorem g1_le (m x : Nat) : ((x / 2) &&& m) ≤ x := Nat.le_trans Nat.and_le_left (Nat.div_le_self _ _)
theorem g1_t : ∀ a, a < 128 → (a + 128) &&& 85 = a &&& 85 := by decide +kernel
theorem g2_t : ∀ a, a < 64 → ∀ r, r < 4 → (a + 64 * r) &&& 51 = a &&& 51 := by decide +kernel
theorem g1_s {a z m : Nat} (ha : a < 256) : g1_ (85 + 256 * m) (a + 256 * z) = g1_ 85 a + 256 * g1_ m z := by
  unfold g1_
  have h1 : (a + 256 * z) / 2 = (a / 2 + 128 * (z % 2)) + 256 * (z / 2) := by omega
  have h2 : (a / 2 + 128 * (z % 2)) &&& 85 = (a / 2) &&& 85 := by
    rcases Nat.mod_two_eq_zero_or_one z with h | h
    · rw [h]; rfl
    · rw [h]; exact g1_t _ (by omega)
  rw [h1, bk_spl (by omega) (by decide), h2]
  have h3 := g1_le 85 a
  have h4 := g1_le m z
  omega
theorem g2_s {a z m : Nat} (ha : a < 256) : g2_ (51 + 256 * m) (a + 256 * z) = g2_ 51 a + 256 * g2_ m z := by
  unfold g2_
  have h1 : (a + 256 * z) / 4 = (a / 4 + 64 * (z % 4)) + 256 * (z / 4) := by omega
  have h2 : (a / 4 + 64 * (z % 4)) &&& 51 = (a / 4) &&& 51 := g2_t _ (by omega) _ (by omega)
  rw [bk_spl ha (by decide), h1, bk_spl (by omega) (by decide), h2]
  omega
theorem g3_s {a z m : Nat} (ha : a ≤ 102) (hz : z % 16 ≤ 6) : g3_ (15 + 256 * m) (a + 256 * z) = g3_ 15 a + 256 * g3_ m z := by
  unfold g3_
  have h1 : a + 256 * z + (a + 256 * z) / 16 = (a + a / 16 + 16 * (z % 16)) + 256 * (z + z / 16) := by omega
  rw [h1, bk_spl (by omega) (by decide), show (15 : Nat) = 2 ^ 4 - 1 by decide, Nat.and_two_pow_sub_one_eq_mod, Nat.and_two_pow_sub_one_eq_mod]
  omega
theorem g2_lo (x m : Nat) : g2_ (51 + 256 * m) x % 16 ≤ 6 := by
  unfold g2_
  have h1 : ∀ y, (y &&& (51 + 256 * m)) % 16 ≤ 3 := by
    intro y
    have h2 := Nat.and_mod_two_pow (a := y) (b := 51 + 256 * m) (n := 4)
    rw [show (51 + 256 * m) % 2 ^ 4 = 2 ^ 2 - 1 by omega, Nat.and_two_pow_sub_one_eq_mod] at h2
    rw [show (16 : Nat) = 2 ^ 4 by decide, h2]
    omega
  have h3 := h1 x
  have h4 := h1 (x / 4)
  omega
def gB_ (a : Nat) : Nat := fb_ct (fun k => a.testBit k) 8
theorem gB_t : ∀ a, a < 256 → g3_ 15 (g2_ 51 (g1_ 85 a)) = gB_ a ∧ g2_ 51 (g1_ 85 a) ≤ 102 ∧ g1_ 85 a < 256 := by decide +kernel
theorem gB_c {a z n : Nat} (ha : a < 256) : fb_ct (fun k => (a + 256 * z).testBit k) (8 + n) = gB_ a + fb_ct (fun k => z.testBit k) n := by
  rw [fb_ct_split]
  have h0 : a + 256 * z = 2 ^ 8 * z + a := by omega
  have h1 : fb_ct (fun k => (a + 256 * z).testBit k) 8 = gB_ a := fb_ct_cong (fun k hk => by rw [h0, Nat.testBit_two_pow_mul_add _ ha, if_pos hk])
  have h2 : fb_ct (fun k => (a + 256 * z).testBit (8 + k)) n = fb_ct (fun k => z.testBit k) n := fb_ct_cong (fun k hk => by rw [h0, Nat.testBit_two_pow_mul_add _ ha, if_neg (by omega), show 8 + k - 8 = k by omega])
  rw [h1, h2]
def gG_ (m5 m3 mf x : Nat) : Nat := g3_ mf (g2_ m3 (g1_ m5 x))
theorem gG_s {a z m5 m3 mf : Nat} (ha : a < 256) (hz : g2_ m3 (g1_ m5 z) % 16 ≤ 6) : gG_ (85 + 256 * m5) (51 + 256 * m3) (15 + 256 * mf) (a + 256 * z) = gB_ a + 256 * gG_ m5 m3 mf z := by
  unfold gG_
  obtain ⟨h1, h2, h3⟩ := gB_t a ha
  rw [g1_s ha, g2_s h3, g3_s h2 hz, h1]
theorem gB_le (a : Nat) : gB_ a ≤ 8 := fb_ct_le _ 8
theorem gG_z (m5 m3 mf : Nat) : gG_ m5 m3 mf 0 = 0 := by simp [gG_, g1_, g2_, g3_]
theorem g2_z (m5 m3 : Nat) : g2_ m3 (g1_ m5 0) % 16 ≤ 6 := by simp [g1_, g2_]
theorem gG_all {x : Nat} (hx : x < 2 ^ 40) : ∃ b0 b1 b2 b3 b4 : Nat, b0 ≤ 8 ∧ b1 ≤ 8 ∧ b2 ≤ 8 ∧ b3 ≤ 8 ∧ b4 ≤ 8 ∧ fb_ct (fun k => x.testBit k) 40 = b0 + b1 + b2 + b3 + b4 ∧ gG_ 6148914691236517205 3689348814741910323 1085102592571150095 x = b0 + 256 * (b1 + 256 * (b2 + 256 * (b3 + 256 * b4))) := by
  obtain ⟨a0, z0, h0, rfl⟩ : ∃ a z, a < 256 ∧ x = a + 256 * z := ⟨x % 256, x / 256, by omega, by omega⟩
  obtain ⟨a1, z1, h1, rfl⟩ : ∃ a z, a < 256 ∧ z0 = a + 256 * z := ⟨z0 % 256, z0 / 256, by omega, by omega⟩
  obtain ⟨a2, z2, h2, rfl⟩ : ∃ a z, a < 256 ∧ z1 = a + 256 * z := ⟨z1 % 256, z1 / 256, by omega, by omega⟩
  obtain ⟨a3, z3, h3, rfl⟩ : ∃ a z, a < 256 ∧ z2 = a + 256 * z := ⟨z2 % 256, z2 / 256, by omega, by omega⟩
  obtain ⟨a4, z4, h4, rfl⟩ : ∃ a z, a < 256 ∧ z3 = a + 256 * z := ⟨z3 % 256, z3 / 256, by omega, by omega⟩
  obtain rfl : z4 = 0 := by omega
  refine ⟨gB_ a0, gB_ a1, gB_ a2, gB_ a3, gB_ a4, gB_le _, gB_le _, gB_le _, gB_le _, gB_le _, ?_, ?_⟩
  · rw [show (40 : Nat) = 8 + (8 + (8 + (8 + (8 + 0)))) by decide, gB_c h0, gB_c h1, gB_c h2, gB_c h3, gB_c h4]
    simp only [fb_ct]
    omega
  · rw [show (6148914691236517205 : Nat) = 85 + 256 * (85 + 256 * (85 + 256 * (85 + 256 * (85 + 256 * (85 + 256 * (85 + 256 * 85)))))) by decide, show (3689348814741910323 : Nat) = 51 + 256 * (51 + 256 * (51 + 256 * (51 + 256 * (51 + 256 * (51 + 256 * (51 + 256 * 51)))))) by decide, show (1085102592571150095 : Nat) = 15 + 256 * (15 + 256 * (15 + 256 * (15 + 256 * (15 + 256 * (15 + 256 * (15 + 256 * 15)))))) by decide]
    rw [gG_s h0 (g2_lo _ _), gG_s h1 (g2_lo _ _), gG_s h2 (g2_lo _ _), gG_s h3 (g2_lo _ _), gG_s h4 (g2_z _ _), gG_z, Nat.mul_zero, Nat.add_zero]
theorem bitc {x : Nat} (hx : x < 2 ^ 40) {y1 y2 y3 y4 y5 y6 : Int64} (h1 : y1 = lN x - (ush (lN x) (nI 1) &&& 6148914691236517205)) (h2 : y2 = (y1 &&& 3689348814741910323) + (ush y1 (nI 2) &&& 3689348814741910323)) (h3 : y3 = (y2 + ush y2 (nI 4)) &&& 1085102592571150095) (h4 : y4 = y3 + ush y3 (nI 8)) (h5 : y5 = y4 + ush y4 (nI 16)) (h6 : y6 = y5 + ush y5 (nI 32)) : y6.toInt32 &&& nI 127 = nI (fb_ct (fun k => x.testBit k) 40) := by
  obtain ⟨b0, b1, b2, b3, b4, c0, c1, c2, c3, c4, hc, hG⟩ := gG_all hx
  have k0 : mk (lN x) = x := mk_lN (Nat.lt_trans hx (by decide))
  have k1 : mk y1 = g1_ 6148914691236517205 x := by
    have e : mk (ush (lN x) (nI 1) &&& 6148914691236517205) = (x / 2) &&& 6148914691236517205 := by
      rw [bk_and, bk_ush _ (by decide) (by decide), k0]; rfl
    rw [h1, bk_sub (by rw [e, k0]; exact g1_le _ _), e, k0]; rfl
  have l1 : g1_ 6148914691236517205 x < 2 ^ 40 := Nat.lt_of_le_of_lt (Nat.sub_le _ _) hx
  have k2 : mk y2 = g2_ 3689348814741910323 (mk y1) := by
    have e1 : mk (y1 &&& 3689348814741910323) = mk y1 &&& 3689348814741910323 := bk_and _ _
    have e2 : mk (ush y1 (nI 2) &&& 3689348814741910323) = (mk y1 / 4) &&& 3689348814741910323 := by
      rw [bk_and, bk_ush _ (by decide) (by decide)]; rfl
    have q1 : mk y1 &&& 3689348814741910323 ≤ mk y1 := Nat.and_le_left
    have q2 : (mk y1 / 4) &&& 3689348814741910323 ≤ mk y1 / 4 := Nat.and_le_left
    rw [h2, bk_add (by rw [e1, e2]; omega), e1, e2]; rfl
  have l2 : mk y2 < 2 ^ 42 := by
    have q1 : mk y1 &&& 3689348814741910323 ≤ mk y1 := Nat.and_le_left
    have q2 : (mk y1 / 4) &&& 3689348814741910323 ≤ mk y1 / 4 := Nat.and_le_left
    rw [k2]
    unfold g2_
    omega
  have k3 : mk y3 = g3_ 1085102592571150095 (mk y2) := by
    have e1 : mk (ush y2 (nI 4)) = mk y2 / 16 := bk_ush _ (by decide) (by decide)
    rw [h3, bk_and, bk_add (by rw [e1]; omega), e1]; rfl
  have k4 : mk y3 = b0 + 256 * (b1 + 256 * (b2 + 256 * (b3 + 256 * b4))) := by
    rw [k3, k2, k1, ← hG]; rfl
  have k5 : mk y4 = mk y3 + mk y3 / 256 := by
    have e1 : mk (ush y3 (nI 8)) = mk y3 / 256 := bk_ush _ (by decide) (by decide)
    rw [h4, bk_add (by rw [e1]; omega), e1]
  have k6 : mk y5 = mk y4 + mk y4 / 65536 := by
    have e1 : mk (ush y4 (nI 16)) = mk y4 / 65536 := bk_ush _ (by decide) (by decide)
    rw [h5, bk_add (by rw [e1]; omega), e1]
  have k7 : mk y6 = mk y5 + mk y5 / 4294967296 := by
    have e1 : mk (ush y5 (nI 32)) = mk y5 / 4294967296 := bk_ush _ (by decide) (by decide)
    rw [h6, bk_add (by rw [e1]; omega), e1]
  rw [bk_low, hc]
  congr 1
  clear hG k1 k2 k3 l1 l2 h1 h2 h3 h4 h5 h6 hc k0
  have r4 : mk y4 = (b0 + b1) + 256 * (b1 + b2) + 65536 * (b2 + b3) + 16777216 * (b3 + b4) + 4294967296 * b4 := by omega
  have r5 : mk y5 = (b0 + b1 + b2 + b3) + 256 * (b1 + b2 + b3 + b4) + 65536 * (b2 + b3 + b4) + 16777216 * (b3 + b4) + 4294967296 * b4 := by omega
  have r6 : mk y6 = (b0 + b1 + b2 + b3 + b4) + 256 * (b1 + b2 + b3 + b4) + 65536 * (b2 + b3 + b4) + 16777216 * (b3 + b4) + 4294967296 * b4 := by omega
  omega
theorem pass_up0 {pr tl : Nat → Nat} {x k : Nat} (h : x.testBit k = true) : ∀ n, (passN pr tl x n).testBit k = true
  | 0 => h
  | n + 1 => by
    by_cases hc : passN pr tl x n &&& pr n = pr n
    · rw [pass_t hc, Nat.testBit_or, pass_up0 h n]; rfl
    · rw [pass_f hc]; exact pass_up0 h n
theorem pw_up0 {pr tl : Nat → Nat} {nj x k : Nat} (h : x.testBit k = true) : ∀ n, (pwN pr tl nj x n).testBit k = true
  | 0 => h
  | n + 1 => pass_up0 (pw_up0 h n) nj
theorem cloA_up0 {S : SA} {x k : Nat} (h : x.testBit k = true) : (cloA S x).testBit k = true := pw_up0 h _
theorem lgM_cong {ga gl ga' gl' : Nat → Int32} {a : Int32} : ∀ {n : Nat}, (∀ j, j < n → ga j = ga' j ∧ gl j = gl' j) → lgM ga gl a n = lgM ga' gl' a n
  | 0, _ => rfl
  | n + 1, h => by
    have h1 := lgM_cong (a := a) (n := n) (fun j hj => h j (Nat.lt_succ_of_lt hj))
    obtain ⟨h2, h3⟩ := h n (Nat.lt_succ_self n)
    by_cases hc : ga n = a
    · rw [lgM_t hc, lgM_t (h2 ▸ hc), h1, h3]
    · rw [lgM_f hc, lgM_f (h2 ▸ hc), h1]
theorem lg_gi {S : SA} {a k z : Nat} (hk : k < 40) (ha : a < 5) (hz : z < 5) : lgA (giS S a k) z = if z = a then lgA S z ||| 2 ^ k else lgA S z := by
  show lgM (upd (S.2.1 13) (S.1 5) (nI a)) (upd (S.2.1 14) (S.1 5) (nI k)) (nI z) (S.1 5 + 1) = _
  have h0 : lgM (upd (S.2.1 13) (S.1 5) (nI a)) (upd (S.2.1 14) (S.1 5) (nI k)) (nI z) (S.1 5) = lgA S z := lgM_cong (fun j hj => ⟨by rw [upd, if_neg (by omega)], by rw [upd, if_neg (by omega)]⟩)
  have h1 : upd (S.2.1 13) (S.1 5) (nI a) (S.1 5) = nI a := by rw [upd, if_pos rfl]
  have h2 : upd (S.2.1 14) (S.1 5) (nI k) (S.1 5) = nI k := by rw [upd, if_pos rfl]
  by_cases hc : z = a
  · rw [if_pos hc, lgM_t (by rw [h1, hc]), h0, h2, ix_nI (by omega)]
  · rw [if_neg hc, lgM_f (by rw [h1]; exact fun e => hc ((nI_eq (by omega) (by omega)).mp e).symm), h0]
theorem hb_gi {S : SA} {a k z j : Nat} (hI : IA S) (hk : k < 40) (ha : a < 5) : hb (giS S a k) z j = if z = a then (cloA S (mk (S.2.2 0 a) ||| 2 ^ k)).testBit j else hb S z j := by
  show (mk (vp_updL (S.2.2 0) a (lN (cloA S (mk (S.2.2 0 a) ||| 2 ^ k))) z)).testBit j = _
  by_cases hc : z = a
  · have h1 : cloA S (mk (S.2.2 0 a) ||| 2 ^ k) < 2 ^ 40 := clo_lt (Nat.or_lt_two_pow (hI.2.2.2.2.2.2.2.2.2.2.1 a ha) (bit40 hk)) (fun j hj => (hI.2.2.2.2.2.2.2.2.2.1 j hj).2)
    rw [if_pos hc, vp_updL, if_pos hc, mk_lN (Nat.lt_trans h1 (by decide))]
  · rw [if_neg hc, vp_updL, if_neg hc]; rfl
theorem lg_free {S : SA} (hJ : JA S) {a k : Nat} (ha : a < 5) (h : freeB S a k = true) : (lgA S a).testBit k = false := by
  cases hc : (lgA S a).testBit k
  · rfl
  · have h1 := hJ.1 a ha k hc
    unfold freeB at h
    unfold hb at h1
    rw [h1] at h
    cases h
theorem ct_set {x k : Nat} (hk : k < 40) (h : x.testBit k = false) : fb_ct (fun j => (x ||| 2 ^ k).testBit j) 40 = fb_ct (fun j => x.testBit j) 40 + 1 := by
  have h1 := fb_ct_upd (fun j => x.testBit j) true hk
  rw [if_neg (by simp [h]), if_pos rfl, Nat.add_zero] at h1
  rw [← h1]
  refine fb_ct_cong (fun j _ => ?_)
  rw [fb_bit_set]
  by_cases hc : j = k
  · simp [hc]
  · simp [hc]
theorem gv_cap {S : SA} (hJ : JA S) (hI : IA S) {a k : Nat} (ha : a < 5) (hk : k < 40) (h : freeB S a k = true) : S.1 5 < 200 := by
  have h1 := ct_set hk (lg_free hJ ha h)
  have h2 := fb_ct_le (fun j => (lgA S a ||| 2 ^ k).testBit j) 40
  have h3 := fb_sm_upd (fun z => fb_ct (fun j => (lgA S z).testBit j) 40) 40 ha
  have h4 : fb_sm (fun z => if z = a then 40 else fb_ct (fun j => (lgA S z).testBit j) 40) 5 ≤ 5 * 40 := fb_sm_bound (fun z _ => by
    show (if z = a then 40 else fb_ct (fun j => (lgA S z).testBit j) 40) ≤ 40
    split
    · exact Nat.le_refl _
    · exact fb_ct_le _ _)
  have h5 := hJ.2
  omega
theorem JA_gi {S : SA} (hI : IA S) (hJ : JA S) {a k : Nat} (ha : a < 5) (hk : k < 40) (h : freeB S a k = true) : JA (giS S a k) := by
  have hf := lg_free hJ ha h
  refine ⟨fun z hz j hj => ?_, ?_⟩
  · rw [lg_gi hk ha hz] at hj
    rw [hb_gi hI hk ha]
    by_cases hc : z = a
    · rw [if_pos hc] at hj ⊢
      rw [fb_bit_set] at hj
      refine cloA_up0 ?_
      rw [fb_bit_set]
      by_cases hd : (lgA S z).testBit j = true
      · have h1 := hJ.1 z hz j hd
        unfold hb at h1
        rw [hc] at h1
        rw [h1]; rfl
      · rw [Bool.not_eq_true] at hd
        rw [hd] at hj
        rw [show decide (j = k) = true from hj, Bool.or_true]
    · rw [if_neg hc] at hj ⊢
      exact hJ.1 z hz j hj
  · show S.1 5 + 1 = _
    have h1 := fb_sm_upd (fun z => fb_ct (fun j => (lgA S z).testBit j) 40) (fb_ct (fun j => (lgA S a).testBit j) 40 + 1) ha
    have h2 := hJ.2
    have h3 : fb_sm (fun z => fb_ct (fun j => (lgA (giS S a k) z).testBit j) 40) 5 = fb_sm (fun z => if z = a then fb_ct (fun j => (lgA S a).testBit j) 40 + 1 else fb_ct (fun j => (lgA S z).testBit j) 40) 5 := fb_sm_cong (fun z hz => by
      by_cases hc : z = a
      · show fb_ct (fun j => (lgA (giS S a k) z).testBit j) 40 = if z = a then _ else _
        rw [if_pos hc, ← ct_set hk hf]
        refine fb_ct_cong (fun j _ => ?_)
        rw [lg_gi hk ha hz, if_pos hc, hc]
      · show fb_ct (fun j => (lgA (giS S a k) z).testBit j) 40 = if z = a then _ else _
        rw [if_neg hc]
        refine fb_ct_cong (fun j _ => ?_)
        rw [lg_gi hk ha hz, if_neg hc])
    rw [h3]
    omega
theorem gv_inv {S : SA} (hI : IA S) (hJ : JA S) {a : Nat} {d : Int32} (ha : a < 5) : ∀ i, i ≤ S.1 1 → IA (gvS S a d i) ∧ JA (gvS S a d i) ∧ (gvS S a d i).1 1 = S.1 1 ∧ True
  | 0, _ => ⟨hI, hJ, rfl, trivial⟩
  | i + 1, hi => by
    obtain ⟨h1, h2, h3, _⟩ := gv_inv hI hJ (d := d) ha i (by omega)
    have hk : i < 40 := by
      have := hI.2.1
      omega
    by_cases hc : gvB (gvS S a d i) a d i = true
    · rw [(gv_t hc).1]
      have hf : freeB (gvS S a d i) a i = true := by
        unfold gvB at hc
        rw [Bool.and_eq_true] at hc
        exact hc.2
      exact ⟨IA_gi h1 ha hk (gv_cap h2 h1 ha hk hf), JA_gi h1 h2 ha hk hf, h3, trivial⟩
    · rw [(gv_f (by simpa using hc)).1]
      exact ⟨h1, h2, h3, trivial⟩
section YH
variable {p : Program} {l : Launch} {e : Env} {R : Room} {s : State} {m : MethodId} {args : Array Value} {below : List Frame} {meth : Method} {c : Code} {G : gG} {B0 : Nat} {nL : Nat} {Q : State → Prop} {pc : Nat} {L : List (Nat × Value)} {st : List Value} {w : va_W} {cs ss : Nat}
theorem yy_topl {v : Int64} (k : ∀ y : Int64, y = v → YY p l e R s m args below meth c G B0 nL Q pc L (.long y :: st) w cs ss) : YY p l e R s m args below meth c G B0 nL Q pc L (.long v :: st) w cs ss := k v rfl
end YH
abbrev rJ13_bitCount_95d88 : Room := { frames := 0, cells := 0, slots := 0, locals := 0 }
set_option maxHeartbeats 4000000 in
set_option maxRecDepth 100000 in
theorem mJ13_bitCount_95d88 (l : Launch) (G : gG) (B0 : Nat) (w : va_W) (x : Nat) (hx : x < 2 ^ 40) : Met l yJ13_bitCount_95d88 (Cond.code yJ13_bitCount_95d88 cJ13_bitCount_95d88 2 (some .int) :: WG) rJ13_bitCount_95d88 (va_Pc [.long (lN x)] (PR G B0 (w))) (va_Qi (fun (r : Int32) (_ : Unit) => r = nI (fb_ct (fun k => x.testBit k) 40)) (fun (_ : Unit) (t_ : State) => va_P G.1 vwCl (w) t_.heap ∧ va_D (fun q => B0 ≤ q) (w)) (fun q => B0 ≤ q)) rJ13_bitCount_95d88.cells rJ13_bitCount_95d88.slots (fun q => B0 ≤ q) := by
  refine met_of RJ13 [(0, .long (lN x))] rfl (by decide) (Nat.le_of_ble_eq_true rfl) rfl ?_
  intro p e s m args below meth c C hr hnm
  refine yq ?_
  intro QQ hQ
  refine yy_lload_n C 0 dJ13_bitCount_95d88_0 (pc' := 1) rfl rfl rfl ?_
  refine yy_lload_n C 0 dJ13_bitCount_95d88_1 (pc' := 2) rfl rfl rfl ?_
  refine yy_iconst C (v := (nI 1)) dJ13_bitCount_95d88_2 (pc' := 3) rfl (by decide) ?_
  refine yy_lushr C (v := (ush (lN x) (nI 1))) dJ13_bitCount_95d88_3 (pc' := 4) rfl rfl ?_
  refine yy_ldc2 C dJ13_bitCount_95d88_4 (pc' := 7) rfl lg_J13_314 ?_
  refine yy_land C (v := ((ush (lN x) (nI 1)) &&& (6148914691236517205))) dJ13_bitCount_95d88_7 (pc' := 8) rfl rfl ?_
  refine yy_lsub C (v := ((lN x) - ((ush (lN x) (nI 1)) &&& (6148914691236517205)))) dJ13_bitCount_95d88_8 (pc' := 9) rfl rfl ?_
  refine yy_topl (fun y1 hy1 => ?_)
  refine yy_lstore_n C (L' := [(0, .long y1)]) dJ13_bitCount_95d88_9 (pc' := 10) rfl rfl (by decide) rfl ?_
  refine yy_lload_n C 0 dJ13_bitCount_95d88_10 (pc' := 11) rfl rfl rfl ?_
  refine yy_ldc2 C dJ13_bitCount_95d88_11 (pc' := 14) rfl lg_J13_316 ?_
  refine yy_land C (v := (y1 &&& (3689348814741910323))) dJ13_bitCount_95d88_14 (pc' := 15) rfl rfl ?_
  refine yy_lload_n C 0 dJ13_bitCount_95d88_15 (pc' := 16) rfl rfl rfl ?_
  refine yy_iconst C (v := (nI 2)) dJ13_bitCount_95d88_16 (pc' := 17) rfl (by decide) ?_
  refine yy_lushr C (v := (ush y1 (nI 2))) dJ13_bitCount_95d88_17 (pc' := 18) rfl rfl ?_
  refine yy_ldc2 C dJ13_bitCount_95d88_18 (pc' := 21) rfl lg_J13_316 ?_
  refine yy_land C (v := ((ush y1 (nI 2)) &&& (3689348814741910323))) dJ13_bitCount_95d88_21 (pc' := 22) rfl rfl ?_
  refine yy_ladd C (v := ((y1 &&& (3689348814741910323)) + ((ush y1 (nI 2)) &&& (3689348814741910323)))) dJ13_bitCount_95d88_22 (pc' := 23) rfl rfl ?_
  refine yy_topl (fun y2 hy2 => ?_)
  refine yy_lstore_n C (L' := [(0, .long y2)]) dJ13_bitCount_95d88_23 (pc' := 24) rfl rfl (by decide) rfl ?_
  refine yy_lload_n C 0 dJ13_bitCount_95d88_24 (pc' := 25) rfl rfl rfl ?_
  refine yy_lload_n C 0 dJ13_bitCount_95d88_25 (pc' := 26) rfl rfl rfl ?_
  refine yy_iconst C (v := (nI 4)) dJ13_bitCount_95d88_26 (pc' := 27) rfl (by decide) ?_
  refine yy_lushr C (v := (ush y2 (nI 4))) dJ13_bitCount_95d88_27 (pc' := 28) rfl rfl ?_
  refine yy_ladd C (v := (y2 + (ush y2 (nI 4)))) dJ13_bitCount_95d88_28 (pc' := 29) rfl rfl ?_
  refine yy_ldc2 C dJ13_bitCount_95d88_29 (pc' := 32) rfl lg_J13_318 ?_
  refine yy_land C (v := ((y2 + (ush y2 (nI 4))) &&& (1085102592571150095))) dJ13_bitCount_95d88_32 (pc' := 33) rfl rfl ?_
  refine yy_topl (fun y3 hy3 => ?_)
  refine yy_lstore_n C (L' := [(0, .long y3)]) dJ13_bitCount_95d88_33 (pc' := 34) rfl rfl (by decide) rfl ?_
  refine yy_lload_n C 0 dJ13_bitCount_95d88_34 (pc' := 35) rfl rfl rfl ?_
  refine yy_lload_n C 0 dJ13_bitCount_95d88_35 (pc' := 36) rfl rfl rfl ?_
  refine yy_bipush C (v := (nI 8)) dJ13_bitCount_95d88_36 (pc' := 38) rfl (by decide) ?_
  refine yy_lushr C (v := (ush y3 (nI 8))) dJ13_bitCount_95d88_38 (pc' := 39) rfl rfl ?_
  refine yy_ladd C (v := (y3 + (ush y3 (nI 8)))) dJ13_bitCount_95d88_39 (pc' := 40) rfl rfl ?_
  refine yy_topl (fun y4 hy4 => ?_)
  refine yy_lstore_n C (L' := [(0, .long y4)]) dJ13_bitCount_95d88_40 (pc' := 41) rfl rfl (by decide) rfl ?_
  refine yy_lload_n C 0 dJ13_bitCount_95d88_41 (pc' := 42) rfl rfl rfl ?_
  refine yy_lload_n C 0 dJ13_bitCount_95d88_42 (pc' := 43) rfl rfl rfl ?_
  refine yy_bipush C (v := (nI 16)) dJ13_bitCount_95d88_43 (pc' := 45) rfl (by decide) ?_
  refine yy_lushr C (v := (ush y4 (nI 16))) dJ13_bitCount_95d88_45 (pc' := 46) rfl rfl ?_
  refine yy_ladd C (v := (y4 + (ush y4 (nI 16)))) dJ13_bitCount_95d88_46 (pc' := 47) rfl rfl ?_
  refine yy_topl (fun y5 hy5 => ?_)
  refine yy_lstore_n C (L' := [(0, .long y5)]) dJ13_bitCount_95d88_47 (pc' := 48) rfl rfl (by decide) rfl ?_
  refine yy_lload_n C 0 dJ13_bitCount_95d88_48 (pc' := 49) rfl rfl rfl ?_
  refine yy_lload_n C 0 dJ13_bitCount_95d88_49 (pc' := 50) rfl rfl rfl ?_
  refine yy_bipush C (v := (nI 32)) dJ13_bitCount_95d88_50 (pc' := 52) rfl (by decide) ?_
  refine yy_lushr C (v := (ush y5 (nI 32))) dJ13_bitCount_95d88_52 (pc' := 53) rfl rfl ?_
  refine yy_ladd C (v := (y5 + (ush y5 (nI 32)))) dJ13_bitCount_95d88_53 (pc' := 54) rfl rfl ?_
  refine yy_topl (fun y6 hy6 => ?_)
  refine yy_lstore_n C (L' := [(0, .long y6)]) dJ13_bitCount_95d88_54 (pc' := 55) rfl rfl (by decide) rfl ?_
  refine yy_lload_n C 0 dJ13_bitCount_95d88_55 (pc' := 56) rfl rfl rfl ?_
  refine yy_l2i C (v := y6.toInt32) dJ13_bitCount_95d88_56 (pc' := 57) rfl rfl ?_
  refine yy_bipush C (v := (nI 127)) dJ13_bitCount_95d88_57 (pc' := 59) rfl (by decide) ?_
  refine yy_iand C (v := (y6.toInt32 &&& (nI 127))) dJ13_bitCount_95d88_59 (pc' := 60) rfl rfl ?_
  subst hQ
  exact ye_i C hr (vp_nar_int _) () dJ13_bitCount_95d88_60 rfl (by decide) (by decide) (bitc hx hy1 hy2 hy3 hy4 hy5 hy6)

abbrev rX6_holds : Room := { frames := 7, cells := 1, slots := 6, locals := 113 }
set_option maxHeartbeats 4000000 in
set_option maxRecDepth 100000 in
theorem mX6_holds (l : Launch) (hl0 : l.stackTraces = false) (G : gG) (B0 : Nat) (ad : Nat → Nat) (F : va_W) (S : SA) (a x : Int32) (hI : IA S) : vy_Met l yX6_holds (Cond.code yX6_holds cX6_holds 3 (some .boolean) :: WG) rX6_holds (va_Pc [.ref (ad 0), .int a, .int x] (PR G B0 (wA G ad S ++ F))) (va_Qi (fun (r : Int32) (_ : Unit) => cdHolds (S.1 1) a x = 0 ∧ r = bI (hb S (ix a) (ix x))) (fun (_ : Unit) (t_ : State) => va_P G.1 vwCl (wA G ad S ++ F) t_.heap ∧ va_D (fun q => B0 ≤ q) (wA G ad S ++ F)) (fun q => B0 ≤ q)) (vx_X (fun _ : Unit => True) (fun (E : String) (_ : Unit) (t_ : State) => ((E = "java/lang/IllegalArgumentException" ∧ cdHolds (S.1 1) a x = 1) ∨ (E = "java/lang/IndexOutOfBoundsException" ∧ cdHolds (S.1 1) a x = 2)) ∧ va_P G.1 vwCl (wA G ad S ++ F) t_.heap ∧ va_D (fun q => B0 ≤ q) (wA G ad S ++ F)) (fun q => B0 ≤ q)) rX6_holds.cells rX6_holds.slots (fun q => B0 ≤ q) := by
  refine xmet_of RX6 [(0, .ref (ad 0)), (1, .int a), (2, .int x)] rfl (by decide) (Nat.le_of_ble_eq_true rfl) rfl ?_
  intro p e s m args below meth c C hr hnm hno
  refine yq ?_
  intro QQ hQ
  obtain ⟨i0, i1, i2, i3, i4, i5, i6, i7, i8, iJ, iH, iG, iQ⟩ := id hI
  refine yy_iload_n C 1 dX6_holds_0 (pc' := 1) rfl rfl rfl ?_
  refine xc_v (xr_S C (As := [.int a]) (rest := []) lk_X6_146 cd_X6_requireAsker st_X6_requireAsker (mX6_requireAsker l hl0 G B0 (wA G ad S ++ F) a) ⟨by decide, by decide⟩ ⟨by decide, by decide⟩ rfl rfl (Nat.le_of_ble_eq_true rfl) dX6_holds_1) (pc' := 4) rfl (fun E _ hw1 => ?_) (fun _ hw1 => ?_)
  · skip
    obtain ⟨rfl, hx_⟩ := hw1
    subst hQ; exact xe_out C hno () rfl (by simp [hx_, cdHolds]) (by decide) (by decide)
  have zn1 := hw1
  obtain ⟨ja, hja, rfl⟩ := inR_of (by omega) zn1
  have eja : ix (nI ja) = ja := ix_lt hja (by omega)
  refine yy_aload_n C 0 dX6_holds_4 (pc' := 5) rfl rfl rfl ?_
  refine yy_iload_n C 2 dX6_holds_5 (pc' := 6) rfl rfl rfl ?_
  refine xc_v (xr_V C (As := [.int x]) (rest := []) lk_X6_78 cd_X6_requireLine im_X6_requireLine se_X6_requireLine (mX6_requireLine l hl0 G B0 ad F (S) x (by exact hI)) ⟨by decide, by decide⟩ ⟨by decide, by decide⟩ 0 rfl rfl rfl rfl (Nat.le_of_ble_eq_true rfl) dX6_holds_6) (pc' := 9) rfl (fun E _ hw2 => ?_) (fun _ hw2 => ?_)
  · skip
    obtain ⟨rfl, hx_⟩ := hw2
    subst hQ; exact xe_out C hno () rfl (by simp [hx_, cdHolds, zn1, eja]) (by decide) (by decide)
  have zn2 := hw2
  obtain ⟨jx, hjx, rfl⟩ := inR_of (by omega) zn2
  have ejx : ix (nI jx) = jx := ix_lt hjx (by omega)
  refine yy_aload_n C 0 dX6_holds_9 (pc' := 10) rfl rfl rfl ?_
  refine yy_get C (v := .ref (ad 7)) fk_X6_51 0 dX6_holds_10 (pc' := 13) rfl rfl rfl ?_
  refine yy_iload_n C 1 dX6_holds_13 (pc' := 14) rfl rfl rfl ?_
  refine yy_lald C 7 dX6_holds_14 (pc' := 15) rfl rfl (by omega) (by decide) ?_
  refine yy_mk ?_
  refine yy_iload_n C 2 dX6_holds_15 (pc' := 16) rfl rfl rfl ?_
  refine yc_i (yr_S C (As := [.long (lN (mk ((S.2.2 0) ja))), .int (nI jx)]) (rest := []) lk_X6_149 cd_X6_contains st_X6_contains (mX6_contains l G B0 (wA G ad S ++ F) (mk ((S.2.2 0) ja)) jx (by omega)) ⟨by decide, by decide⟩ ⟨by decide, by decide⟩ rfl rfl (Nat.le_of_ble_eq_true rfl) dX6_holds_16) (pc' := 19) rfl (fun r3 _ hw3 => ?_)
  subst hw3
  subst hQ
  exact xe_i C hr (nar_b _) () dX6_holds_19 rfl (by decide) (by decide) ⟨by simp [cdHolds, zn1, eja, zn2, ejx], by rw [eja, ejx]; rfl⟩

abbrev rX6_holdsByLog : Room := { frames := 7, cells := 1, slots := 6, locals := 113 }
set_option maxHeartbeats 4000000 in
set_option maxRecDepth 100000 in
theorem mX6_holdsByLog (l : Launch) (hl0 : l.stackTraces = false) (G : gG) (B0 : Nat) (ad : Nat → Nat) (F : va_W) (S : SA) (a x : Int32) (hI : IA S) : vy_Met l yX6_holdsByLog (Cond.code yX6_holdsByLog cX6_holdsByLog 3 (some .boolean) :: WG) rX6_holdsByLog (va_Pc [.ref (ad 0), .int a, .int x] (PR G B0 (wA G ad S ++ F))) (va_Qi (fun (r : Int32) (_ : Unit) => cdHolds (S.1 1) a x = 0 ∧ r = bI ((cloA S (lgM (S.2.1 13) (S.2.1 14) a (S.1 5))).testBit (ix x))) (fun (_ : Unit) (t_ : State) => va_P G.1 vwCl (wA G ad S ++ F) t_.heap ∧ va_D (fun q => B0 ≤ q) (wA G ad S ++ F)) (fun q => B0 ≤ q)) (vx_X (fun _ : Unit => True) (fun (E : String) (_ : Unit) (t_ : State) => ((E = "java/lang/IllegalArgumentException" ∧ cdHolds (S.1 1) a x = 1) ∨ (E = "java/lang/IndexOutOfBoundsException" ∧ cdHolds (S.1 1) a x = 2)) ∧ va_P G.1 vwCl (wA G ad S ++ F) t_.heap ∧ va_D (fun q => B0 ≤ q) (wA G ad S ++ F)) (fun q => B0 ≤ q)) rX6_holdsByLog.cells rX6_holdsByLog.slots (fun q => B0 ≤ q) := by
  refine xmet_of RX6 [(0, .ref (ad 0)), (1, .int a), (2, .int x)] rfl (by decide) (Nat.le_of_ble_eq_true rfl) rfl ?_
  intro p e s m args below meth c C hr hnm hno
  refine yq ?_
  intro QQ hQ
  obtain ⟨i0, i1, i2, i3, i4, i5, i6, i7, i8, iJ, iH, iG, iQ⟩ := id hI
  refine yy_iload_n C 1 dX6_holdsByLog_0 (pc' := 1) rfl rfl rfl ?_
  refine xc_v (xr_S C (As := [.int a]) (rest := []) lk_X6_146 cd_X6_requireAsker st_X6_requireAsker (mX6_requireAsker l hl0 G B0 (wA G ad S ++ F) a) ⟨by decide, by decide⟩ ⟨by decide, by decide⟩ rfl rfl (Nat.le_of_ble_eq_true rfl) dX6_holdsByLog_1) (pc' := 4) rfl (fun E _ hw1 => ?_) (fun _ hw1 => ?_)
  · skip
    obtain ⟨rfl, hx_⟩ := hw1
    subst hQ; exact xe_out C hno () rfl (by simp [hx_, cdHolds]) (by decide) (by decide)
  have zn1 := hw1
  obtain ⟨ja, hja, rfl⟩ := inR_of (by omega) zn1
  have eja : ix (nI ja) = ja := ix_lt hja (by omega)
  refine yy_aload_n C 0 dX6_holdsByLog_4 (pc' := 5) rfl rfl rfl ?_
  refine yy_iload_n C 2 dX6_holdsByLog_5 (pc' := 6) rfl rfl rfl ?_
  refine xc_v (xr_V C (As := [.int x]) (rest := []) lk_X6_78 cd_X6_requireLine im_X6_requireLine se_X6_requireLine (mX6_requireLine l hl0 G B0 ad F (S) x (by exact hI)) ⟨by decide, by decide⟩ ⟨by decide, by decide⟩ 0 rfl rfl rfl rfl (Nat.le_of_ble_eq_true rfl) dX6_holdsByLog_6) (pc' := 9) rfl (fun E _ hw2 => ?_) (fun _ hw2 => ?_)
  · skip
    obtain ⟨rfl, hx_⟩ := hw2
    subst hQ; exact xe_out C hno () rfl (by simp [hx_, cdHolds, zn1, eja]) (by decide) (by decide)
  have zn2 := hw2
  obtain ⟨jx, hjx, rfl⟩ := inR_of (by omega) zn2
  have ejx : ix (nI jx) = jx := ix_lt hjx (by omega)
  refine yy_aload_n C 0 dX6_holdsByLog_9 (pc' := 10) rfl rfl rfl ?_
  refine yy_get C (v := .ref (ad 4)) fk_X6_33 0 dX6_holdsByLog_10 (pc' := 13) rfl rfl rfl ?_
  refine yy_aload_n C 0 dX6_holdsByLog_13 (pc' := 14) rfl rfl rfl ?_
  refine yy_get C (v := .ref (ad 5)) fk_X6_40 0 dX6_holdsByLog_14 (pc' := 17) rfl rfl rfl ?_
  refine yy_iload_n C 1 dX6_holdsByLog_17 (pc' := 18) rfl rfl rfl ?_
  refine yc_l (yr_V C (As := [.int (nI ja)]) (rest := [.ref (ad 4)]) lk_X6_153 cd_X2_linesGivenTo im_X2_linesGivenTo se_X2_linesGivenTo (mX2_linesGivenTo l G B0 ad F (S) (nI ja) (by exact hI)) ⟨by decide, by decide⟩ ⟨by decide, by decide⟩ 5 rfl rfl rfl rfl (Nat.le_of_ble_eq_true rfl) dX6_holdsByLog_18) (pc' := 21) rfl (fun r3 _ hw3 => ?_)
  subst hw3
  refine yc_l (yr_V C (As := [.long (lN (lgM (S.2.1 13) (S.2.1 14) (nI ja) (S.1 5)))]) (rest := []) lk_X6_157 cd_X0_closure im_X0_closure se_X0_closure (mX0_closure l G B0 ad F (S) ((lgM (S.2.1 13) (S.2.1 14) (nI ja) (S.1 5))) (lg_lt hI _) (by exact hI)) ⟨by decide, by decide⟩ ⟨by decide, by decide⟩ 4 rfl rfl rfl rfl (Nat.le_of_ble_eq_true rfl) dX6_holdsByLog_21) (pc' := 24) rfl (fun r4 _ hw4 => ?_)
  subst hw4
  refine yy_iload_n C 2 dX6_holdsByLog_24 (pc' := 25) rfl rfl rfl ?_
  refine yc_i (yr_S C (As := [.long (lN (cloA S (lgM (S.2.1 13) (S.2.1 14) (nI ja) (S.1 5)))), .int (nI jx)]) (rest := []) lk_X6_149 cd_X6_contains st_X6_contains (mX6_contains l G B0 (wA G ad S ++ F) (cloA S (lgM (S.2.1 13) (S.2.1 14) (nI ja) (S.1 5))) jx (by omega)) ⟨by decide, by decide⟩ ⟨by decide, by decide⟩ rfl rfl (Nat.le_of_ble_eq_true rfl) dX6_holdsByLog_25) (pc' := 28) rfl (fun r5 _ hw5 => ?_)
  subst hw5
  subst hQ
  exact xe_i C hr (nar_b _) () dX6_holdsByLog_28 rfl (by decide) (by decide) ⟨by simp [cdHolds, zn1, eja, zn2, ejx], by rw [ejx]⟩

abbrev rX6_held : Room := { frames := 7, cells := 1, slots := 6, locals := 112 }
set_option maxHeartbeats 4000000 in
set_option maxRecDepth 100000 in
theorem mX6_held (l : Launch) (hl0 : l.stackTraces = false) (G : gG) (B0 : Nat) (ad : Nat → Nat) (F : va_W) (S : SA) (a : Int32) (hI : IA S) : vy_Met l yX6_held (Cond.code yX6_held cX6_held 2 (some .int) :: WG) rX6_held (va_Pc [.ref (ad 0), .int a] (PR G B0 (wA G ad S ++ F))) (va_Qi (fun (r : Int32) (_ : Unit) => cd1 5 a = 0 ∧ r = nI (fb_ct (fun k => hb S (ix a) k) 40)) (fun (_ : Unit) (t_ : State) => va_P G.1 vwCl (wA G ad S ++ F) t_.heap ∧ va_D (fun q => B0 ≤ q) (wA G ad S ++ F)) (fun q => B0 ≤ q)) (vx_X (fun _ : Unit => True) (fun (E : String) (_ : Unit) (t_ : State) => (E = "java/lang/IllegalArgumentException" ∧ cd1 5 a = 1) ∧ va_P G.1 vwCl (wA G ad S ++ F) t_.heap ∧ va_D (fun q => B0 ≤ q) (wA G ad S ++ F)) (fun q => B0 ≤ q)) rX6_held.cells rX6_held.slots (fun q => B0 ≤ q) := by
  refine xmet_of RX6 [(0, .ref (ad 0)), (1, .int a)] rfl (by decide) (Nat.le_of_ble_eq_true rfl) rfl ?_
  intro p e s m args below meth c C hr hnm hno
  refine yq ?_
  intro QQ hQ
  obtain ⟨i0, i1, i2, i3, i4, i5, i6, i7, i8, iJ, iH, iG, iQ⟩ := id hI
  refine yy_iload_n C 1 dX6_held_0 (pc' := 1) rfl rfl rfl ?_
  refine xc_v (xr_S C (As := [.int a]) (rest := []) lk_X6_146 cd_X6_requireAsker st_X6_requireAsker (mX6_requireAsker l hl0 G B0 (wA G ad S ++ F) a) ⟨by decide, by decide⟩ ⟨by decide, by decide⟩ rfl rfl (Nat.le_of_ble_eq_true rfl) dX6_held_1) (pc' := 4) rfl (fun E _ hw1 => ?_) (fun _ hw1 => ?_)
  · skip
    obtain ⟨rfl, hx_⟩ := hw1
    subst hQ; exact xe_out C hno () rfl (by simp [hx_, cd1]) (by decide) (by decide)
  have zn1 := hw1
  obtain ⟨ja, hja, rfl⟩ := inR_of (by omega) zn1
  have eja : ix (nI ja) = ja := ix_lt hja (by omega)
  refine yy_aload_n C 0 dX6_held_4 (pc' := 5) rfl rfl rfl ?_
  refine yy_get C (v := .ref (ad 7)) fk_X6_51 0 dX6_held_5 (pc' := 8) rfl rfl rfl ?_
  refine yy_iload_n C 1 dX6_held_8 (pc' := 9) rfl rfl rfl ?_
  refine yy_lald C 7 dX6_held_9 (pc' := 10) rfl rfl (by omega) (by decide) ?_
  refine yy_mk ?_
  refine yc_i (yr_S C (As := [.long (lN (mk ((S.2.2 0) ja)))]) (rest := []) lk_X6_161 cd_J13_bitCount_95d88 st_J13_bitCount_95d88 (mJ13_bitCount_95d88 l G B0 (wA G ad S ++ F) (mk ((S.2.2 0) ja)) (iH ja hja)) ⟨by decide, by decide⟩ ⟨by decide, by decide⟩ rfl rfl (Nat.le_of_ble_eq_true rfl) dX6_held_10) (pc' := 13) rfl (fun r2 _ hw2 => ?_)
  subst hw2
  subst hQ
  exact xe_i C hr (vp_nar_int _) () dX6_held_13 rfl (by decide) (by decide) ⟨by simp [cd1, zn1, eja], by rw [eja]; rfl⟩

abbrev rX6_given : Room := { frames := 7, cells := 1, slots := 6, locals := 112 }
set_option maxHeartbeats 4000000 in
set_option maxRecDepth 100000 in
theorem mX6_given (l : Launch) (hl0 : l.stackTraces = false) (G : gG) (B0 : Nat) (ad : Nat → Nat) (F : va_W) (S : SA) (a : Int32) (hI : IA S) : vy_Met l yX6_given (Cond.code yX6_given cX6_given 2 (some .int) :: WG) rX6_given (va_Pc [.ref (ad 0), .int a] (PR G B0 (wA G ad S ++ F))) (va_Qi (fun (r : Int32) (_ : Unit) => cd1 5 a = 0 ∧ r = nI (fb_ct (fun k => (lgM (S.2.1 13) (S.2.1 14) a (S.1 5)).testBit k) 40)) (fun (_ : Unit) (t_ : State) => va_P G.1 vwCl (wA G ad S ++ F) t_.heap ∧ va_D (fun q => B0 ≤ q) (wA G ad S ++ F)) (fun q => B0 ≤ q)) (vx_X (fun _ : Unit => True) (fun (E : String) (_ : Unit) (t_ : State) => (E = "java/lang/IllegalArgumentException" ∧ cd1 5 a = 1) ∧ va_P G.1 vwCl (wA G ad S ++ F) t_.heap ∧ va_D (fun q => B0 ≤ q) (wA G ad S ++ F)) (fun q => B0 ≤ q)) rX6_given.cells rX6_given.slots (fun q => B0 ≤ q) := by
  refine xmet_of RX6 [(0, .ref (ad 0)), (1, .int a)] rfl (by decide) (Nat.le_of_ble_eq_true rfl) rfl ?_
  intro p e s m args below meth c C hr hnm hno
  refine yq ?_
  intro QQ hQ
  obtain ⟨i0, i1, i2, i3, i4, i5, i6, i7, i8, iJ, iH, iG, iQ⟩ := id hI
  refine yy_iload_n C 1 dX6_given_0 (pc' := 1) rfl rfl rfl ?_
  refine xc_v (xr_S C (As := [.int a]) (rest := []) lk_X6_146 cd_X6_requireAsker st_X6_requireAsker (mX6_requireAsker l hl0 G B0 (wA G ad S ++ F) a) ⟨by decide, by decide⟩ ⟨by decide, by decide⟩ rfl rfl (Nat.le_of_ble_eq_true rfl) dX6_given_1) (pc' := 4) rfl (fun E _ hw1 => ?_) (fun _ hw1 => ?_)
  · skip
    obtain ⟨rfl, hx_⟩ := hw1
    subst hQ; exact xe_out C hno () rfl (by simp [hx_, cd1]) (by decide) (by decide)
  have zn1 := hw1
  refine yy_aload_n C 0 dX6_given_4 (pc' := 5) rfl rfl rfl ?_
  refine yy_get C (v := .ref (ad 5)) fk_X6_40 0 dX6_given_5 (pc' := 8) rfl rfl rfl ?_
  refine yy_iload_n C 1 dX6_given_8 (pc' := 9) rfl rfl rfl ?_
  refine yc_l (yr_V C (As := [.int a]) (rest := []) lk_X6_153 cd_X2_linesGivenTo im_X2_linesGivenTo se_X2_linesGivenTo (mX2_linesGivenTo l G B0 ad F (S) a (by exact hI)) ⟨by decide, by decide⟩ ⟨by decide, by decide⟩ 5 rfl rfl rfl rfl (Nat.le_of_ble_eq_true rfl) dX6_given_9) (pc' := 12) rfl (fun r2 _ hw2 => ?_)
  subst hw2
  refine yc_i (yr_S C (As := [.long (lN (lgM (S.2.1 13) (S.2.1 14) a (S.1 5)))]) (rest := []) lk_X6_161 cd_J13_bitCount_95d88 st_J13_bitCount_95d88 (mJ13_bitCount_95d88 l G B0 (wA G ad S ++ F) (lgM (S.2.1 13) (S.2.1 14) a (S.1 5)) (lg_lt hI _)) ⟨by decide, by decide⟩ ⟨by decide, by decide⟩ rfl rfl (Nat.le_of_ble_eq_true rfl) dX6_given_12) (pc' := 15) rfl (fun r3 _ hw3 => ?_)
  subst hw3
  subst hQ
  exact xe_i C hr (vp_nar_int _) () dX6_given_15 rfl (by decide) (by decide) ⟨by simp [cd1, zn1], rfl⟩

abbrev rX6_holders : Room := { frames := 7, cells := 1, slots := 6, locals := 113 }
set_option maxHeartbeats 4000000 in
set_option maxRecDepth 100000 in
theorem mX6_holders (l : Launch) (hl0 : l.stackTraces = false) (G : gG) (B0 : Nat) (ad : Nat → Nat) (F : va_W) (S : SA) (x : Int32) (hI : IA S) : vy_Met l yX6_holders (Cond.code yX6_holders cX6_holders 4 (some .int) :: WG) rX6_holders (va_Pc [.ref (ad 0), .int x] (PR G B0 (wA G ad S ++ F))) (va_Qi (fun (r : Int32) (_ : Unit) => cd1 (S.1 1) x = 0 ∧ r = nI (fb_ct (fun z => hb S z (ix x)) 5)) (fun (_ : Unit) (t_ : State) => va_P G.1 vwCl (wA G ad S ++ F) t_.heap ∧ va_D (fun q => B0 ≤ q) (wA G ad S ++ F)) (fun q => B0 ≤ q)) (vx_X (fun _ : Unit => True) (fun (E : String) (_ : Unit) (t_ : State) => (E = "java/lang/IndexOutOfBoundsException" ∧ cd1 (S.1 1) x = 1) ∧ va_P G.1 vwCl (wA G ad S ++ F) t_.heap ∧ va_D (fun q => B0 ≤ q) (wA G ad S ++ F)) (fun q => B0 ≤ q)) rX6_holders.cells rX6_holders.slots (fun q => B0 ≤ q) := by
  refine xmet_of RX6 [(0, .ref (ad 0)), (1, .int x)] rfl (by decide) (Nat.le_of_ble_eq_true rfl) rfl ?_
  intro p e s m args below meth c C hr hnm hno
  refine yq ?_
  intro QQ hQ
  obtain ⟨i0, i1, i2, i3, i4, i5, i6, i7, i8, iJ, iH, iG, iQ⟩ := id hI
  refine yy_aload_n C 0 dX6_holders_0 (pc' := 1) rfl rfl rfl ?_
  refine yy_iload_n C 1 dX6_holders_1 (pc' := 2) rfl rfl rfl ?_
  refine xc_v (xr_V C (As := [.int x]) (rest := []) lk_X6_78 cd_X6_requireLine im_X6_requireLine se_X6_requireLine (mX6_requireLine l hl0 G B0 ad F (S) x (by exact hI)) ⟨by decide, by decide⟩ ⟨by decide, by decide⟩ 0 rfl rfl rfl rfl (Nat.le_of_ble_eq_true rfl) dX6_holders_2) (pc' := 5) rfl (fun E _ hw1 => ?_) (fun _ hw1 => ?_)
  · skip
    obtain ⟨rfl, hx_⟩ := hw1
    subst hQ; exact xe_out C hno () rfl (by simp [hx_, cd1]) (by decide) (by decide)
  have zn1 := hw1
  obtain ⟨jx, hjx, rfl⟩ := inR_of (by omega) zn1
  have ejx : ix (nI jx) = jx := ix_lt hjx (by omega)
  refine yy_iconst C (v := (nI 0)) dX6_holders_5 (pc' := 6) rfl (by decide) ?_
  refine yy_istore_n C (L' := [(2, .int (nI 0)), (0, .ref (ad 0)), (1, .int (nI jx))]) dX6_holders_6 (pc' := 7) rfl rfl (by decide) rfl ?_
  refine yy_iconst C (v := (nI 0)) dX6_holders_7 (pc' := 8) rfl (by decide) ?_
  refine yy_istore_n C (L' := [(3, .int (nI 0)), (2, .int (nI 0)), (0, .ref (ad 0)), (1, .int (nI jx))]) dX6_holders_8 (pc' := 9) rfl rfl (by decide) rfl ?_
  have lp_9 : ∀ (f_ : Nat) (i : Nat), (hi : i ≤ 5) → 5 - i < f_ → YY p l e rX6_holders s m args below meth c G B0 4 QQ 9 [(2, .int (nI (fb_ct (fun z => hb S z jx) i))), (3, .int (nI i)), (0, .ref (ad 0)), (1, .int (nI jx))] [] (wA G ad S ++ F) 0 0 := by
    intro f_
    induction f_ with
    | zero => intro i hi hf_; exact absurd hf_ (Nat.not_lt_zero _)
    | succ f_ ih =>
      intro i hi hf_
      refine yy_iload_n C 1 dX6_holders_9 (pc' := 10) rfl rfl rfl ?_
      refine yy_iconst C (v := (nI 5)) dX6_holders_10 (pc' := 11) rfl (by decide) ?_
      refine yn_icmp_ge C (by omega) (by decide) dX6_holders_11 (pc' := 14) rfl (tgt := 36) (by decide) (fun c_11 => ?_) (fun c_11 => ?_)
      · skip
        refine yy_iload_n C 0 dX6_holders_36 (pc' := 37) rfl rfl rfl ?_
        subst hQ
        exact xe_i C hr (vp_nar_int _) () dX6_holders_37 rfl (by decide) (by decide) ⟨by simp [cd1, zn1, ejx], by rw [ejx, show i = 5 by omega]⟩
      · skip
        refine yy_aload_n C 2 dX6_holders_14 (pc' := 15) rfl rfl rfl ?_
        refine yy_get C (v := .ref (ad 7)) fk_X6_51 0 dX6_holders_15 (pc' := 18) rfl rfl rfl ?_
        refine yy_iload_n C 1 dX6_holders_18 (pc' := 19) rfl rfl rfl ?_
        refine yy_lald C 7 dX6_holders_19 (pc' := 20) rfl rfl (by omega) (by decide) ?_
        refine yy_mk ?_
        refine yy_iload_n C 3 dX6_holders_20 (pc' := 21) rfl rfl rfl ?_
        refine yc_i (yr_S C (As := [.long (lN (mk ((S.2.2 0) i))), .int (nI jx)]) (rest := []) lk_X6_149 cd_X6_contains st_X6_contains (mX6_contains l G B0 (wA G ad S ++ F) (mk ((S.2.2 0) i)) jx (by omega)) ⟨by decide, by decide⟩ ⟨by decide, by decide⟩ rfl rfl (Nat.le_of_ble_eq_true rfl) dX6_holders_21) (pc' := 24) rfl (fun r2 _ hw2 => ?_)
        subst hw2
        refine yb_if_eq C dX6_holders_24 (pc' := 27) rfl (tgt := 30) (by decide) (fun c_24 => ?_) (fun c_24 => ?_)
        · skip
          refine yy_iinc C (v := (nI (i + 1))) (L' := [(3, .int (nI (i + 1))), (2, .int (nI (fb_ct (fun z => hb S z jx) i))), (0, .ref (ad 0)), (1, .int (nI jx))]) 1 dX6_holders_30 (pc' := 33) rfl rfl (nI_add i 1) (by decide) rfl ?_
          refine yy_goto C (tgt := 9) dX6_holders_33 (by decide) ?_
          rw [← ct_f (p := (fun z => hb S z jx)) (i := i) c_24]
          refine yy_loc [1, 0, 2, 3] rfl ?_
          exact ih (i + 1) (by omega) (by omega)
        · skip
          refine yy_iinc C (v := (nI ((fb_ct (fun z => hb S z jx) i) + 1))) (L' := [(2, .int (nI ((fb_ct (fun z => hb S z jx) i) + 1))), (3, .int (nI i)), (0, .ref (ad 0)), (1, .int (nI jx))]) 0 dX6_holders_27 (pc' := 30) rfl rfl (nI_add (fb_ct (fun z => hb S z jx) i) 1) (by decide) rfl ?_
          refine yy_iinc C (v := (nI (i + 1))) (L' := [(3, .int (nI (i + 1))), (2, .int (nI ((fb_ct (fun z => hb S z jx) i) + 1))), (0, .ref (ad 0)), (1, .int (nI jx))]) 1 dX6_holders_30 (pc' := 33) rfl rfl (nI_add i 1) (by decide) rfl ?_
          refine yy_goto C (tgt := 9) dX6_holders_33 (by decide) ?_
          rw [← ct_t (p := (fun z => hb S z jx)) (i := i) c_24]
          refine yy_loc [1, 0, 2, 3] rfl ?_
          exact ih (i + 1) (by omega) (by omega)
  refine yy_loc (L' := [(2, .int (nI 0)), (3, .int (nI 0)), (0, .ref (ad 0)), (1, .int (nI jx))]) [1, 0, 2, 3] rfl ?_
  exact lp_9 (5 - 0 + 1) 0 (Nat.zero_le _) (by omega)

abbrev rX6_why : Room := { frames := 8, cells := 1, slots := 6, locals := 135 }
set_option maxHeartbeats 4000000 in
set_option maxRecDepth 100000 in
theorem mX6_why (l : Launch) (hl0 : l.stackTraces = false) (G : gG) (B0 : Nat) (ad : Nat → Nat) (F : va_W) (S : SA) (a x : Int32) (hI : IA S) : vy_Met l yX6_why (Cond.code yX6_why cX6_why 4 (some .char) :: WG) rX6_why (va_Pc [.ref (ad 0), .int a, .int x] (PR G B0 (wA G ad S ++ F))) (va_Qi (fun (r : Int32) (_ : Unit) => cdNH (S.1 1) (hb S) a x = 0 ∧ r = whyC S (ix a) (ix x)) (fun (_ : Unit) (t_ : State) => va_P G.1 vwCl (wA G ad S ++ F) t_.heap ∧ va_D (fun q => B0 ≤ q) (wA G ad S ++ F)) (fun q => B0 ≤ q)) (vx_X (fun _ : Unit => True) (fun (E : String) (_ : Unit) (t_ : State) => ((E = "java/lang/IllegalArgumentException" ∧ cdNH (S.1 1) (hb S) a x = 1) ∨ (E = "java/lang/IndexOutOfBoundsException" ∧ cdNH (S.1 1) (hb S) a x = 2) ∨ (E = "java/lang/IllegalStateException" ∧ cdNH (S.1 1) (hb S) a x = 3)) ∧ va_P G.1 vwCl (wA G ad S ++ F) t_.heap ∧ va_D (fun q => B0 ≤ q) (wA G ad S ++ F)) (fun q => B0 ≤ q)) rX6_why.cells rX6_why.slots (fun q => B0 ≤ q) := by
  refine xmet_of RX6 [(0, .ref (ad 0)), (1, .int a), (2, .int x)] rfl (by decide) (Nat.le_of_ble_eq_true rfl) rfl ?_
  intro p e s m args below meth c C hr hnm hno
  refine yq ?_
  intro QQ hQ
  obtain ⟨i0, i1, i2, i3, i4, i5, i6, i7, i8, iJ, iH, iG, iQ⟩ := id hI
  refine yy_aload_n C 0 dX6_why_0 (pc' := 1) rfl rfl rfl ?_
  refine yy_iload_n C 1 dX6_why_1 (pc' := 2) rfl rfl rfl ?_
  refine yy_iload_n C 2 dX6_why_2 (pc' := 3) rfl rfl rfl ?_
  refine xc_v (xr_V C (As := [.int a, .int x]) (rest := []) lk_X6_167 cd_X6_requireNotHeld im_X6_requireNotHeld se_X6_requireNotHeld (mX6_requireNotHeld l hl0 G B0 ad F (S) a x (by exact hI)) ⟨by decide, by decide⟩ ⟨by decide, by decide⟩ 0 rfl rfl rfl rfl (Nat.le_of_ble_eq_true rfl) dX6_why_3) (pc' := 6) rfl (fun E _ hw1 => ?_) (fun _ hw1 => ?_)
  · skip
    subst hQ; exact xe_out C hno () rfl hw1 (by decide) (by decide)
  have zn1 := hw1
  obtain ⟨ja, jx, hja, hjx, rfl, rfl, hnh⟩ := cdNH_nn (by omega) zn1
  have eja : ix (nI ja) = ja := ix_lt hja (by omega)
  have ejx : ix (nI jx) = jx := ix_lt hjx (by omega)
  refine yy_aload_n C 0 dX6_why_6 (pc' := 7) rfl rfl rfl ?_
  refine yy_iload_n C 1 dX6_why_7 (pc' := 8) rfl rfl rfl ?_
  refine yy_iload_n C 2 dX6_why_8 (pc' := 9) rfl rfl rfl ?_
  refine yc_i (yr_V C (As := [.int (nI ja), .int (nI jx)]) (rest := []) lk_X6_170 cd_X6_findProtectedLine im_X6_findProtectedLine se_X6_findProtectedLine (mX6_findProtectedLine l G B0 ad F (S) ja jx (by omega) (by omega) (by exact hI)) ⟨by decide, by decide⟩ ⟨by decide, by decide⟩ 0 rfl rfl rfl rfl (Nat.le_of_ble_eq_true rfl) dX6_why_9) (pc' := 12) rfl (fun r2 _ hw2 => ?_)
  subst hw2
  refine yy_istore_n C (L' := [(3, .int (protI S ja jx)), (0, .ref (ad 0)), (1, .int (nI ja)), (2, .int (nI jx))]) dX6_why_12 (pc' := 13) rfl rfl (by decide) rfl ?_
  refine yy_iload_n C 0 dX6_why_13 (pc' := 14) rfl rfl rfl ?_
  refine yy_iconst C (v := (-1)) dX6_why_14 (pc' := 15) rfl (by decide) ?_
  refine yy_icmp_ne C dX6_why_15 (pc' := 18) rfl (tgt := 21) (by decide) (fun c_15 => ?_) (fun c_15 => ?_)
  · skip
    refine yy_iload_n C 0 dX6_why_21 (pc' := 22) rfl rfl rfl ?_
    refine yy_iload_n C 3 dX6_why_22 (pc' := 23) rfl rfl rfl ?_
    refine yy_icmp_eq C dX6_why_23 (pc' := 26) rfl (tgt := 29) (by decide) (fun c_23 => ?_) (fun c_23 => ?_)
    · skip
      refine yy_aload_n C 1 dX6_why_29 (pc' := 30) rfl rfl rfl ?_
      refine yy_iload_n C 3 dX6_why_30 (pc' := 31) rfl rfl rfl ?_
      refine yc_i (yr_V C (As := [.int (nI jx)]) (rest := []) lk_X6_173 cd_X6_isHiddenByRule im_X6_isHiddenByRule se_X6_isHiddenByRule (mX6_isHiddenByRule l G B0 ad F (S) jx (by omega) (by exact hI)) ⟨by decide, by decide⟩ ⟨by decide, by decide⟩ 0 rfl rfl rfl rfl (Nat.le_of_ble_eq_true rfl) dX6_why_31) (pc' := 34) rfl (fun r3 _ hw3 => ?_)
      subst hw3
      refine yb_if_eq C dX6_why_34 (pc' := 37) rfl (tgt := 42) (by decide) (fun c_34 => ?_) (fun c_34 => ?_)
      · skip
        refine yy_bipush C (v := (nI 115)) dX6_why_42 (pc' := 44) rfl (by decide) ?_
        subst hQ
        exact xe_i C hr rfl () dX6_why_44 rfl (by decide) (by decide) ⟨zn1, by rw [eja, ejx]; rw [whyC, if_neg c_15, if_pos c_23, if_neg (by simp [c_34])]⟩
      · skip
        refine yy_bipush C (v := (nI 114)) dX6_why_37 (pc' := 39) rfl (by decide) ?_
        refine yy_goto C (tgt := 44) dX6_why_39 (by decide) ?_
        subst hQ
        exact xe_i C hr rfl () dX6_why_44 rfl (by decide) (by decide) ⟨zn1, by rw [eja, ejx]; rw [whyC, if_neg c_15, if_pos c_23, if_pos c_34]⟩
    · skip
      refine yy_bipush C (v := (nI 106)) dX6_why_26 (pc' := 28) rfl (by decide) ?_
      subst hQ
      exact xe_i C hr rfl () dX6_why_28 rfl (by decide) (by decide) ⟨zn1, by rw [eja, ejx]; rw [whyC, if_neg c_15, if_neg c_23]⟩
  · skip
    refine yy_bipush C (v := (nI 45)) dX6_why_18 (pc' := 20) rfl (by decide) ?_
    subst hQ
    exact xe_i C hr rfl () dX6_why_20 rfl (by decide) (by decide) ⟨zn1, by rw [eja, ejx]; rw [whyC, if_pos c_15]⟩

abbrev rX6_root : Room := { frames := 8, cells := 1, slots := 6, locals := 135 }
set_option maxHeartbeats 4000000 in
set_option maxRecDepth 100000 in
theorem mX6_root (l : Launch) (hl0 : l.stackTraces = false) (G : gG) (B0 : Nat) (ad : Nat → Nat) (F : va_W) (S : SA) (a x : Int32) (hI : IA S) : vy_Met l yX6_root (Cond.code yX6_root cX6_root 4 (some .char) :: WG) rX6_root (va_Pc [.ref (ad 0), .int a, .int x] (PR G B0 (wA G ad S ++ F))) (va_Qi (fun (r : Int32) (_ : Unit) => cdRoot S a x = 0 ∧ r = rootC S (ix a) (ix x)) (fun (_ : Unit) (t_ : State) => va_P G.1 vwCl (wA G ad S ++ F) t_.heap ∧ va_D (fun q => B0 ≤ q) (wA G ad S ++ F)) (fun q => B0 ≤ q)) (vx_X (fun _ : Unit => True) (fun (E : String) (_ : Unit) (t_ : State) => ((E = "java/lang/IllegalArgumentException" ∧ cdRoot S a x = 1) ∨ (E = "java/lang/IndexOutOfBoundsException" ∧ cdRoot S a x = 2) ∨ (E = "java/lang/IllegalStateException" ∧ cdRoot S a x = 3) ∨ (E = "java/util/NoSuchElementException" ∧ cdRoot S a x = 4)) ∧ va_P G.1 vwCl (wA G ad S ++ F) t_.heap ∧ va_D (fun q => B0 ≤ q) (wA G ad S ++ F)) (fun q => B0 ≤ q)) rX6_root.cells rX6_root.slots (fun q => B0 ≤ q) := by
  refine xmet_of RX6 [(0, .ref (ad 0)), (1, .int a), (2, .int x)] rfl (by decide) (Nat.le_of_ble_eq_true rfl) rfl ?_
  intro p e s m args below meth c C hr hnm hno
  refine yq ?_
  intro QQ hQ
  obtain ⟨i0, i1, i2, i3, i4, i5, i6, i7, i8, iJ, iH, iG, iQ⟩ := id hI
  refine yy_aload_n C 0 dX6_root_0 (pc' := 1) rfl rfl rfl ?_
  refine yy_iload_n C 1 dX6_root_1 (pc' := 2) rfl rfl rfl ?_
  refine yy_iload_n C 2 dX6_root_2 (pc' := 3) rfl rfl rfl ?_
  refine xc_v (xr_V C (As := [.int a, .int x]) (rest := []) lk_X6_167 cd_X6_requireNotHeld im_X6_requireNotHeld se_X6_requireNotHeld (mX6_requireNotHeld l hl0 G B0 ad F (S) a x (by exact hI)) ⟨by decide, by decide⟩ ⟨by decide, by decide⟩ 0 rfl rfl rfl rfl (Nat.le_of_ble_eq_true rfl) dX6_root_3) (pc' := 6) rfl (fun E _ hw1 => ?_) (fun _ hw1 => ?_)
  · skip
    subst hQ; rcases hw1 with ⟨rfl, hx_⟩ | ⟨rfl, hx_⟩ | ⟨rfl, hx_⟩ <;> exact xe_out C hno () rfl (by simp [cdRoot, hx_]) (by decide) (by decide)
  have zn1 := hw1
  obtain ⟨ja, jx, hja, hjx, rfl, rfl, hnh⟩ := cdNH_nn (by omega) zn1
  have eja : ix (nI ja) = ja := ix_lt hja (by omega)
  have ejx : ix (nI jx) = jx := ix_lt hjx (by omega)
  refine yy_aload_n C 0 dX6_root_6 (pc' := 7) rfl rfl rfl ?_
  refine yy_iload_n C 1 dX6_root_7 (pc' := 8) rfl rfl rfl ?_
  refine yy_iload_n C 2 dX6_root_8 (pc' := 9) rfl rfl rfl ?_
  refine yc_i (yr_V C (As := [.int (nI ja), .int (nI jx)]) (rest := []) lk_X6_170 cd_X6_findProtectedLine im_X6_findProtectedLine se_X6_findProtectedLine (mX6_findProtectedLine l G B0 ad F (S) ja jx (by omega) (by omega) (by exact hI)) ⟨by decide, by decide⟩ ⟨by decide, by decide⟩ 0 rfl rfl rfl rfl (Nat.le_of_ble_eq_true rfl) dX6_root_9) (pc' := 12) rfl (fun r2 _ hw2 => ?_)
  subst hw2
  refine yy_istore_n C (L' := [(3, .int (protI S ja jx)), (0, .ref (ad 0)), (1, .int (nI ja)), (2, .int (nI jx))]) dX6_root_12 (pc' := 13) rfl rfl (by decide) rfl ?_
  refine yy_iload_n C 0 dX6_root_13 (pc' := 14) rfl rfl rfl ?_
  refine yy_iconst C (v := (-1)) dX6_root_14 (pc' := 15) rfl (by decide) ?_
  refine yy_icmp_ne C dX6_root_15 (pc' := 18) rfl (tgt := 28) (by decide) (fun c_15 => ?_) (fun c_15 => ?_)
  · skip
    have hpx : ix (protI S ja jx) < 40 := Nat.lt_of_lt_of_le (prot_ix i1 hjx c_15) i1
    refine yy_aload_n C 1 dX6_root_28 (pc' := 29) rfl rfl rfl ?_
    refine yy_iload_n C 0 dX6_root_29 (pc' := 30) rfl rfl rfl ?_
    refine yy_ix ?_
    refine yc_i (yr_V C (As := [.int (nI (ix (protI S ja jx)))]) (rest := []) lk_X6_181 cd_X6_isHiddenBySpan im_X6_isHiddenBySpan se_X6_isHiddenBySpan (mX6_isHiddenBySpan l G B0 ad F (S) (ix (protI S ja jx)) (by omega) (by exact hI)) ⟨by decide, by decide⟩ ⟨by decide, by decide⟩ 0 rfl rfl rfl rfl (Nat.le_of_ble_eq_true rfl) dX6_root_30) (pc' := 33) rfl (fun r3 _ hw3 => ?_)
    subst hw3
    refine yb_if_eq C dX6_root_33 (pc' := 36) rfl (tgt := 41) (by decide) (fun c_33 => ?_) (fun c_33 => ?_)
    · skip
      refine yy_bipush C (v := (nI 114)) dX6_root_41 (pc' := 43) rfl (by decide) ?_
      subst hQ
      exact xe_i C hr rfl () dX6_root_43 rfl (by decide) (by decide) ⟨by simp [cdRoot, zn1, eja, ejx, c_15], by rw [eja, ejx]; simp [rootC, c_15, c_33]⟩
    · skip
      refine yy_bipush C (v := (nI 115)) dX6_root_36 (pc' := 38) rfl (by decide) ?_
      refine yy_goto C (tgt := 43) dX6_root_38 (by decide) ?_
      subst hQ
      exact xe_i C hr rfl () dX6_root_43 rfl (by decide) (by decide) ⟨by simp [cdRoot, zn1, eja, ejx, c_15], by rw [eja, ejx]; simp [rootC, c_15, c_33]⟩
  · skip
    subst hQ
    exact xe_throwX C hl0 thN (by decide +kernel) (by decide +kernel) (by decide +kernel) (by decide +kernel) hno (is := 178) (text := "the line is not withheld") (by decide +kernel) dX6_root_18 dX6_root_21 dX6_root_22 dX6_root_24 dX6_root_27 () rfl (by simp [cdRoot, zn1, eja, ejx, c_15]) (by decide) (by decide) (by decide) (by decide) (by decide) (by decide)

abbrev rX6_causes : Room := { frames := 8, cells := 1, slots := 6, locals := 135 }
set_option maxHeartbeats 4000000 in
set_option maxRecDepth 100000 in
theorem mX6_causes (l : Launch) (hl0 : l.stackTraces = false) (G : gG) (B0 : Nat) (ad : Nat → Nat) (F : va_W) (S : SA) (a x : Int32) (hI : IA S) : vy_Met l yX6_causes (Cond.code yX6_causes cX6_causes 5 (some .int) :: WG) rX6_causes (va_Pc [.ref (ad 0), .int a, .int x] (PR G B0 (wA G ad S ++ F))) (va_Qi (fun (r : Int32) (_ : Unit) => cdNH (S.1 1) (hb S) a x = 0 ∧ r = causesI S (ix a) (ix x)) (fun (_ : Unit) (t_ : State) => va_P G.1 vwCl (wA G ad S ++ F) t_.heap ∧ va_D (fun q => B0 ≤ q) (wA G ad S ++ F)) (fun q => B0 ≤ q)) (vx_X (fun _ : Unit => True) (fun (E : String) (_ : Unit) (t_ : State) => ((E = "java/lang/IllegalArgumentException" ∧ cdNH (S.1 1) (hb S) a x = 1) ∨ (E = "java/lang/IndexOutOfBoundsException" ∧ cdNH (S.1 1) (hb S) a x = 2) ∨ (E = "java/lang/IllegalStateException" ∧ cdNH (S.1 1) (hb S) a x = 3)) ∧ va_P G.1 vwCl (wA G ad S ++ F) t_.heap ∧ va_D (fun q => B0 ≤ q) (wA G ad S ++ F)) (fun q => B0 ≤ q)) rX6_causes.cells rX6_causes.slots (fun q => B0 ≤ q) := by
  refine xmet_of RX6 [(0, .ref (ad 0)), (1, .int a), (2, .int x)] rfl (by decide) (Nat.le_of_ble_eq_true rfl) rfl ?_
  intro p e s m args below meth c C hr hnm hno
  refine yq ?_
  intro QQ hQ
  obtain ⟨i0, i1, i2, i3, i4, i5, i6, i7, i8, iJ, iH, iG, iQ⟩ := id hI
  refine yy_aload_n C 0 dX6_causes_0 (pc' := 1) rfl rfl rfl ?_
  refine yy_iload_n C 1 dX6_causes_1 (pc' := 2) rfl rfl rfl ?_
  refine yy_iload_n C 2 dX6_causes_2 (pc' := 3) rfl rfl rfl ?_
  refine xc_v (xr_V C (As := [.int a, .int x]) (rest := []) lk_X6_167 cd_X6_requireNotHeld im_X6_requireNotHeld se_X6_requireNotHeld (mX6_requireNotHeld l hl0 G B0 ad F (S) a x (by exact hI)) ⟨by decide, by decide⟩ ⟨by decide, by decide⟩ 0 rfl rfl rfl rfl (Nat.le_of_ble_eq_true rfl) dX6_causes_3) (pc' := 6) rfl (fun E _ hw1 => ?_) (fun _ hw1 => ?_)
  · skip
    subst hQ; exact xe_out C hno () rfl hw1 (by decide) (by decide)
  have zn1 := hw1
  obtain ⟨ja, jx, hja, hjx, rfl, rfl, hnh⟩ := cdNH_nn (by omega) zn1
  have eja : ix (nI ja) = ja := ix_lt hja (by omega)
  have ejx : ix (nI jx) = jx := ix_lt hjx (by omega)
  refine yy_aload_n C 0 dX6_causes_6 (pc' := 7) rfl rfl rfl ?_
  refine yy_iload_n C 1 dX6_causes_7 (pc' := 8) rfl rfl rfl ?_
  refine yy_iload_n C 2 dX6_causes_8 (pc' := 9) rfl rfl rfl ?_
  refine yc_i (yr_V C (As := [.int (nI ja), .int (nI jx)]) (rest := []) lk_X6_170 cd_X6_findProtectedLine im_X6_findProtectedLine se_X6_findProtectedLine (mX6_findProtectedLine l G B0 ad F (S) ja jx (by omega) (by omega) (by exact hI)) ⟨by decide, by decide⟩ ⟨by decide, by decide⟩ 0 rfl rfl rfl rfl (Nat.le_of_ble_eq_true rfl) dX6_causes_9) (pc' := 12) rfl (fun r2 _ hw2 => ?_)
  subst hw2
  refine yy_istore_n C (L' := [(3, .int (protI S ja jx)), (0, .ref (ad 0)), (1, .int (nI ja)), (2, .int (nI jx))]) dX6_causes_12 (pc' := 13) rfl rfl (by decide) rfl ?_
  refine yy_iload_n C 0 dX6_causes_13 (pc' := 14) rfl rfl rfl ?_
  refine yy_iconst C (v := (-1)) dX6_causes_14 (pc' := 15) rfl (by decide) ?_
  refine yy_icmp_ne C dX6_causes_15 (pc' := 18) rfl (tgt := 20) (by decide) (fun c_15 => ?_) (fun c_15 => ?_)
  · skip
    have hpx : ix (protI S ja jx) < 40 := Nat.lt_of_lt_of_le (prot_ix i1 hjx c_15) i1
    refine yy_iload_n C 0 dX6_causes_20 (pc' := 21) rfl rfl rfl ?_
    refine yy_iload_n C 3 dX6_causes_21 (pc' := 22) rfl rfl rfl ?_
    refine yy_icmp_ne C dX6_causes_22 (pc' := 25) rfl (tgt := 29) (by decide) (fun c_22 => ?_) (fun c_22 => ?_)
    · skip
      refine yy_iconst C (v := (nI 1)) dX6_causes_29 (pc' := 30) rfl (by decide) ?_
      refine yy_istore C (L' := [(4, .int (nI 1)), (3, .int (protI S ja jx)), (0, .ref (ad 0)), (1, .int (nI ja)), (2, .int (nI jx))]) dX6_causes_30 (pc' := 32) rfl (by decide) rfl ?_
      refine yy_iload C 0 dX6_causes_32 (pc' := 34) rfl rfl ?_
      refine yy_aload_n C 2 dX6_causes_34 (pc' := 35) rfl rfl rfl ?_
      refine yy_iload_n C 1 dX6_causes_35 (pc' := 36) rfl rfl rfl ?_
      refine yy_ix ?_
      refine yc_i (yr_V C (As := [.int (nI (ix (protI S ja jx)))]) (rest := [.int (nI 1)]) lk_X6_184 cd_X6_countHidingReasons im_X6_countHidingReasons se_X6_countHidingReasons (mX6_countHidingReasons l G B0 ad F (S) (ix (protI S ja jx)) (by omega) (by exact hI)) ⟨by decide, by decide⟩ ⟨by decide, by decide⟩ 0 rfl rfl rfl rfl (Nat.le_of_ble_eq_true rfl) dX6_causes_36) (pc' := 39) rfl (fun r3 _ hw3 => ?_)
      subst hw3
      refine yy_iadd C (v := ((nI 1) + (bI (hRA S (ix (protI S ja jx))) + bI (hSA S (ix (protI S ja jx)))))) dX6_causes_39 (pc' := 40) rfl rfl ?_
      subst hQ
      exact xe_i C hr (vp_nar_int _) () dX6_causes_40 rfl (by decide) (by decide) ⟨zn1, by rw [eja, ejx]; rw [causesI, if_neg c_15, if_neg c_22]⟩
    · skip
      refine yy_iconst C (v := (nI 0)) dX6_causes_25 (pc' := 26) rfl (by decide) ?_
      refine yy_goto C (tgt := 30) dX6_causes_26 (by decide) ?_
      refine yy_istore C (L' := [(4, .int (nI 0)), (3, .int (protI S ja jx)), (0, .ref (ad 0)), (1, .int (nI ja)), (2, .int (nI jx))]) dX6_causes_30 (pc' := 32) rfl (by decide) rfl ?_
      refine yy_iload C 0 dX6_causes_32 (pc' := 34) rfl rfl ?_
      refine yy_aload_n C 2 dX6_causes_34 (pc' := 35) rfl rfl rfl ?_
      refine yy_iload_n C 1 dX6_causes_35 (pc' := 36) rfl rfl rfl ?_
      refine yy_ix ?_
      refine yc_i (yr_V C (As := [.int (nI (ix (protI S ja jx)))]) (rest := [.int (nI 0)]) lk_X6_184 cd_X6_countHidingReasons im_X6_countHidingReasons se_X6_countHidingReasons (mX6_countHidingReasons l G B0 ad F (S) (ix (protI S ja jx)) (by omega) (by exact hI)) ⟨by decide, by decide⟩ ⟨by decide, by decide⟩ 0 rfl rfl rfl rfl (Nat.le_of_ble_eq_true rfl) dX6_causes_36) (pc' := 39) rfl (fun r3 _ hw3 => ?_)
      subst hw3
      refine yy_iadd C (v := ((nI 0) + (bI (hRA S (ix (protI S ja jx))) + bI (hSA S (ix (protI S ja jx)))))) dX6_causes_39 (pc' := 40) rfl rfl ?_
      subst hQ
      exact xe_i C hr (vp_nar_int _) () dX6_causes_40 rfl (by decide) (by decide) ⟨zn1, by rw [eja, ejx]; rw [causesI, if_neg c_15, if_pos c_22]⟩
  · skip
    refine yy_iconst C (v := (nI 0)) dX6_causes_18 (pc' := 19) rfl (by decide) ?_
    subst hQ
    exact xe_i C hr (vp_nar_int _) () dX6_causes_19 rfl (by decide) (by decide) ⟨zn1, by rw [eja, ejx]; rw [causesI, if_pos c_15]⟩

abbrev rX6_request : Room := { frames := 7, cells := 1, slots := 6, locals := 115 }
set_option maxHeartbeats 4000000 in
set_option maxRecDepth 100000 in
theorem mX6_request (l : Launch) (hl0 : l.stackTraces = false) (G : gG) (B0 : Nat) (ad : Nat → Nat) (F : va_W) (S : SA) (a d : Int32) (hI : IA S) : vy_Met l yX6_request (Cond.code yX6_request cX6_request 3 (some .int) :: WG) rX6_request (va_Pc [.ref (ad 0), .int a, .int d] (PR G B0 (wA G ad S ++ F))) (va_Qi (fun (r : Int32) (_ : Unit) => cdReq (S.1 0) (S.1 6) (S.2.1 0) (wtg (S.1 6) (S.2.1 17) (S.2.1 15) (S.2.1 16) a d) a d = 0 ∧ r = nI (S.1 6)) (fun (_ : Unit) (t_ : State) => va_P G.1 vwCl (wA G ad (sN (sI (sI (sI (sI S 15 (upd (S.2.1 15) (S.1 6) a)) 16 (upd (S.2.1 16) (S.1 6) d)) 17 (upd (S.2.1 17) (S.1 6) (nI 119))) 18 (upd (S.2.1 18) (S.1 6) (nI (S.1 7)))) 6 (S.1 6 + 1)) ++ F) t_.heap ∧ va_D (fun q => B0 ≤ q) (wA G ad (sN (sI (sI (sI (sI S 15 (upd (S.2.1 15) (S.1 6) a)) 16 (upd (S.2.1 16) (S.1 6) d)) 17 (upd (S.2.1 17) (S.1 6) (nI 119))) 18 (upd (S.2.1 18) (S.1 6) (nI (S.1 7)))) 6 (S.1 6 + 1)) ++ F)) (fun q => B0 ≤ q)) (vx_X (fun _ : Unit => True) (fun (E : String) (_ : Unit) (t_ : State) => ((E = "java/lang/IllegalArgumentException" ∧ cdReq (S.1 0) (S.1 6) (S.2.1 0) (wtg (S.1 6) (S.2.1 17) (S.2.1 15) (S.2.1 16) a d) a d = 1) ∨ (E = "java/lang/IndexOutOfBoundsException" ∧ cdReq (S.1 0) (S.1 6) (S.2.1 0) (wtg (S.1 6) (S.2.1 17) (S.2.1 15) (S.2.1 16) a d) a d = 2) ∨ (E = "java/lang/UnsupportedOperationException" ∧ cdReq (S.1 0) (S.1 6) (S.2.1 0) (wtg (S.1 6) (S.2.1 17) (S.2.1 15) (S.2.1 16) a d) a d = 3) ∨ (E = "java/lang/IllegalStateException" ∧ cdReq (S.1 0) (S.1 6) (S.2.1 0) (wtg (S.1 6) (S.2.1 17) (S.2.1 15) (S.2.1 16) a d) a d = 4)) ∧ va_P G.1 vwCl (wA G ad S ++ F) t_.heap ∧ va_D (fun q => B0 ≤ q) (wA G ad S ++ F)) (fun q => B0 ≤ q)) rX6_request.cells rX6_request.slots (fun q => B0 ≤ q) := by
  refine xmet_of RX6 [(0, .ref (ad 0)), (1, .int a), (2, .int d)] rfl (by decide) (Nat.le_of_ble_eq_true rfl) rfl ?_
  intro p e s m args below meth c C hr hnm hno
  refine yq ?_
  intro QQ hQ
  obtain ⟨i0, i1, i2, i3, i4, i5, i6, i7, i8, iJ, iH, iG, iQ⟩ := id hI
  refine yy_iload_n C 1 dX6_request_0 (pc' := 1) rfl rfl rfl ?_
  refine xc_v (xr_S C (As := [.int a]) (rest := []) lk_X6_146 cd_X6_requireAsker st_X6_requireAsker (mX6_requireAsker l hl0 G B0 (wA G ad S ++ F) a) ⟨by decide, by decide⟩ ⟨by decide, by decide⟩ rfl rfl (Nat.le_of_ble_eq_true rfl) dX6_request_1) (pc' := 4) rfl (fun E _ hw1 => ?_) (fun _ hw1 => ?_)
  · skip
    obtain ⟨rfl, hx_⟩ := hw1
    subst hQ; exact xe_out C hno () rfl (by simp [cdReq, hx_]) (by decide) (by decide)
  have zn1 := hw1
  obtain ⟨ja, hja, rfl⟩ := inR_of (by omega) zn1
  have eja : ix (nI ja) = ja := ix_lt hja (by omega)
  refine yy_aload_n C 0 dX6_request_4 (pc' := 5) rfl rfl rfl ?_
  refine yy_iload_n C 2 dX6_request_5 (pc' := 6) rfl rfl rfl ?_
  refine xc_v (xr_V C (As := [.int d]) (rest := []) lk_X6_67 cd_X6_requireDocument im_X6_requireDocument se_X6_requireDocument (mX6_requireDocument l hl0 G B0 ad F (S) d (by exact hI)) ⟨by decide, by decide⟩ ⟨by decide, by decide⟩ 0 rfl rfl rfl rfl (Nat.le_of_ble_eq_true rfl) dX6_request_6) (pc' := 9) rfl (fun E _ hw2 => ?_) (fun _ hw2 => ?_)
  · skip
    obtain ⟨rfl, hx_⟩ := hw2
    subst hQ; exact xe_out C hno () rfl (by simp [cdReq, hx_, zn1, eja]) (by decide) (by decide)
  have zn2 := hw2
  refine yy_aload_n C 0 dX6_request_9 (pc' := 10) rfl rfl rfl ?_
  refine yy_get C (v := .ref (ad 8)) fk_X6_55 0 dX6_request_10 (pc' := 13) rfl rfl rfl ?_
  refine yy_iload_n C 1 dX6_request_13 (pc' := 14) rfl rfl rfl ?_
  refine yy_iald C 8 dX6_request_14 (pc' := 15) rfl rfl (by omega) (by decide) ?_
  refine yy_bipush C (v := (nI 100)) dX6_request_15 (pc' := 17) rfl (by decide) ?_
  refine yy_icmp_le C dX6_request_17 (pc' := 20) rfl (tgt := 30) (by decide) (fun c_17 => ?_) (fun c_17 => ?_)
  · skip
    refine yy_aload_n C 0 dX6_request_30 (pc' := 31) rfl rfl rfl ?_
    refine yy_get C (v := .ref (ad 6)) fk_X6_47 0 dX6_request_31 (pc' := 34) rfl rfl rfl ?_
    refine yy_iload_n C 1 dX6_request_34 (pc' := 35) rfl rfl rfl ?_
    refine yy_iload_n C 2 dX6_request_35 (pc' := 36) rfl rfl rfl ?_
    refine yc_i (yr_V C (As := [.int (nI ja), .int d]) (rest := []) lk_X6_193 cd_X3_isWaiting im_X3_isWaiting se_X3_isWaiting (mX3_isWaiting l G B0 ad F (S) (nI ja) d (by exact hI)) ⟨by decide, by decide⟩ ⟨by decide, by decide⟩ 6 rfl rfl rfl rfl (Nat.le_of_ble_eq_true rfl) dX6_request_36) (pc' := 39) rfl (fun r3 _ hw3 => ?_)
    subst hw3
    refine yb_if_eq C dX6_request_39 (pc' := 42) rfl (tgt := 52) (by decide) (fun c_39 => ?_) (fun c_39 => ?_)
    · skip
      refine yy_aload_n C 0 dX6_request_52 (pc' := 53) rfl rfl rfl ?_
      refine yy_get C (v := .ref (ad 6)) fk_X6_47 0 dX6_request_53 (pc' := 56) rfl rfl rfl ?_
      refine yy_iload_n C 1 dX6_request_56 (pc' := 57) rfl rfl rfl ?_
      refine yy_iload_n C 2 dX6_request_57 (pc' := 58) rfl rfl rfl ?_
      refine yy_aload_n C 0 dX6_request_58 (pc' := 59) rfl rfl rfl ?_
      refine yy_get C (v := .int (nI (S.1 7))) fk_X6_120 0 dX6_request_59 (pc' := 62) rfl rfl rfl ?_
      refine xc_i (xr_V C (As := [.int (nI ja), .int d, .int (nI (S.1 7))]) (rest := []) lk_X6_199 cd_X3_append im_X3_append se_X3_append (mX3_append l hl0 G B0 ad F (S) (nI ja) d (S.1 7) (by exact hI)) ⟨by decide, by decide⟩ ⟨by decide, by decide⟩ 6 rfl rfl rfl rfl (Nat.le_of_ble_eq_true rfl) dX6_request_62) (pc' := 65) rfl (fun E _ hw4 => ?_) (fun r4 _ hw4 => ?_)
      · skip
        obtain ⟨rfl, hx_⟩ := hw4
        subst hQ; exact xe_out C hno () rfl (Or.inr (Or.inr (Or.inr ⟨rfl, req_4 hja zn2 (by simpa using c_17) (Or.inl hx_)⟩))) (by decide) (by decide)
      obtain ⟨zn3, rfl⟩ := hw4
      subst hQ
      exact xe_i C hr (vp_nar_int _) () dX6_request_65 rfl (by decide) (by decide) ⟨req_0 hja zn2 c_17 (by omega) c_39, rfl⟩
    · skip
      subst hQ
      exact xe_throwS C hl0 th_X6_126_130 hno (is := 197) (text := "a request of this asker for this document waits") (by decide +kernel) dX6_request_42 dX6_request_45 dX6_request_46 dX6_request_48 dX6_request_51 () rfl (Or.inr (Or.inr (Or.inr ⟨rfl, req_4 hja zn2 c_17 (Or.inr c_39)⟩))) (by decide) (by decide) (by decide) (by decide) (by decide) (by decide)
  · skip
    subst hQ
    exact xe_throwS C hl0 th_X6_188_192 hno (is := 190) (text := "the asker owes more than 100") (by decide +kernel) dX6_request_20 dX6_request_23 dX6_request_24 dX6_request_26 dX6_request_29 () rfl (Or.inr (Or.inr (Or.inl ⟨rfl, req_3 hja zn2 (Int32.not_le.mp c_17)⟩))) (by decide) (by decide) (by decide) (by decide) (by decide) (by decide)

abbrev rX6_state : Room := { frames := 7, cells := 1, slots := 6, locals := 113 }
set_option maxHeartbeats 4000000 in
set_option maxRecDepth 100000 in
theorem mX6_state (l : Launch) (hl0 : l.stackTraces = false) (G : gG) (B0 : Nat) (ad : Nat → Nat) (F : va_W) (S : SA) (k : Int32) (hI : IA S) (hq : ∀ j, j < S.1 6 → narrow .char (.int (S.2.1 17 j)) = .int (S.2.1 17 j)) : vy_Met l yX6_state (Cond.code yX6_state cX6_state 2 (some .char) :: WG) rX6_state (va_Pc [.ref (ad 0), .int k] (PR G B0 (wA G ad S ++ F))) (va_Qi (fun (r : Int32) (_ : Unit) => cd1 (S.1 6) k = 0 ∧ r = S.2.1 17 (ix k)) (fun (_ : Unit) (t_ : State) => va_P G.1 vwCl (wA G ad S ++ F) t_.heap ∧ va_D (fun q => B0 ≤ q) (wA G ad S ++ F)) (fun q => B0 ≤ q)) (vx_X (fun _ : Unit => True) (fun (E : String) (_ : Unit) (t_ : State) => (E = "java/lang/IndexOutOfBoundsException" ∧ cd1 (S.1 6) k = 1) ∧ va_P G.1 vwCl (wA G ad S ++ F) t_.heap ∧ va_D (fun q => B0 ≤ q) (wA G ad S ++ F)) (fun q => B0 ≤ q)) rX6_state.cells rX6_state.slots (fun q => B0 ≤ q) := by
  refine xmet_of RX6 [(0, .ref (ad 0)), (1, .int k)] rfl (by decide) (Nat.le_of_ble_eq_true rfl) rfl ?_
  intro p e s m args below meth c C hr hnm hno
  refine yq ?_
  intro QQ hQ
  obtain ⟨i0, i1, i2, i3, i4, i5, i6, i7, i8, iJ, iH, iG, iQ⟩ := id hI
  refine yy_aload_n C 0 dX6_state_0 (pc' := 1) rfl rfl rfl ?_
  refine yy_iload_n C 1 dX6_state_1 (pc' := 2) rfl rfl rfl ?_
  refine xc_v (xr_V C (As := [.int k]) (rest := []) lk_X6_200 cd_X6_requireRequest im_X6_requireRequest se_X6_requireRequest (mX6_requireRequest l hl0 G B0 ad F (S) k (by exact hI)) ⟨by decide, by decide⟩ ⟨by decide, by decide⟩ 0 rfl rfl rfl rfl (Nat.le_of_ble_eq_true rfl) dX6_state_2) (pc' := 5) rfl (fun E _ hw1 => ?_) (fun _ hw1 => ?_)
  · skip
    obtain ⟨rfl, hx_⟩ := hw1
    subst hQ; exact xe_out C hno () rfl (by simp [hx_, cd1]) (by decide) (by decide)
  have zn1 := hw1
  obtain ⟨jk, hjk, rfl⟩ := inR_of (by omega) zn1
  have ejk : ix (nI jk) = jk := ix_lt hjk (by omega)
  refine yy_aload_n C 0 dX6_state_5 (pc' := 6) rfl rfl rfl ?_
  refine yy_get C (v := .ref (ad 6)) fk_X6_47 0 dX6_state_6 (pc' := 9) rfl rfl rfl ?_
  refine yy_get C (v := .ref (ad 26)) fk_X6_203 6 dX6_state_9 (pc' := 12) rfl rfl rfl ?_
  refine yy_iload_n C 1 dX6_state_12 (pc' := 13) rfl rfl rfl ?_
  refine yy_cald C 26 dX6_state_13 (pc' := 14) rfl rfl (by omega) (by decide) ?_
  subst hQ
  exact xe_i C hr (hq jk hjk) () dX6_state_14 rfl (by decide) (by decide) ⟨by simp [cd1, zn1, ejk], by rw [ejk]⟩

abbrev rX6_withdraw : Room := { frames := 7, cells := 1, slots := 6, locals := 113 }
set_option maxHeartbeats 4000000 in
set_option maxRecDepth 100000 in
theorem mX6_withdraw (l : Launch) (hl0 : l.stackTraces = false) (G : gG) (B0 : Nat) (ad : Nat → Nat) (F : va_W) (S : SA) (k : Int32) (hI : IA S) : vy_Met l yX6_withdraw (Cond.code yX6_withdraw cX6_withdraw 2 (some .int) :: WG) rX6_withdraw (va_Pc [.ref (ad 0), .int k] (PR G B0 (wA G ad S ++ F))) (va_Qi (fun (r : Int32) (u : Nat) => cdAns (S.1 6) (S.2.1 17) k = 0 ∧ k = nI u ∧ u < S.1 6 ∧ r = nI (fb_ct (fun z => decide (upd (S.2.1 17) u (nI 120) z = nI 119)) (S.1 6))) (fun (u : Nat) (t_ : State) => va_P G.1 vwCl (wA G ad (sI S 17 (upd (S.2.1 17) u (nI 120))) ++ F) t_.heap ∧ va_D (fun q => B0 ≤ q) (wA G ad (sI S 17 (upd (S.2.1 17) u (nI 120))) ++ F)) (fun q => B0 ≤ q)) (vx_X (fun _ : Unit => True) (fun (E : String) (_ : Unit) (t_ : State) => ((E = "java/lang/IndexOutOfBoundsException" ∧ cdAns (S.1 6) (S.2.1 17) k = 1) ∨ (E = "java/lang/IllegalStateException" ∧ cdAns (S.1 6) (S.2.1 17) k = 2)) ∧ va_P G.1 vwCl (wA G ad S ++ F) t_.heap ∧ va_D (fun q => B0 ≤ q) (wA G ad S ++ F)) (fun q => B0 ≤ q)) rX6_withdraw.cells rX6_withdraw.slots (fun q => B0 ≤ q) := by
  refine xmet_of RX6 [(0, .ref (ad 0)), (1, .int k)] rfl (by decide) (Nat.le_of_ble_eq_true rfl) rfl ?_
  intro p e s m args below meth c C hr hnm hno
  refine yq ?_
  intro QQ hQ
  obtain ⟨i0, i1, i2, i3, i4, i5, i6, i7, i8, iJ, iH, iG, iQ⟩ := id hI
  refine yy_aload_n C 0 dX6_withdraw_0 (pc' := 1) rfl rfl rfl ?_
  refine yy_iload_n C 1 dX6_withdraw_1 (pc' := 2) rfl rfl rfl ?_
  refine xc_v (xr_V C (As := [.int k]) (rest := []) lk_X6_200 cd_X6_requireRequest im_X6_requireRequest se_X6_requireRequest (mX6_requireRequest l hl0 G B0 ad F (S) k (by exact hI)) ⟨by decide, by decide⟩ ⟨by decide, by decide⟩ 0 rfl rfl rfl rfl (Nat.le_of_ble_eq_true rfl) dX6_withdraw_2) (pc' := 5) rfl (fun E _ hw1 => ?_) (fun _ hw1 => ?_)
  · skip
    obtain ⟨rfl, hx_⟩ := hw1
    subst hQ; exact xe_out C hno () rfl (Or.inl ⟨rfl, by simp [cdAns, hx_]⟩) (by decide) (by decide)
  have zn1 := hw1
  obtain ⟨jk, hjk, rfl⟩ := inR_of (by omega) zn1
  have ejk : ix (nI jk) = jk := ix_lt hjk (by omega)
  refine yy_aload_n C 0 dX6_withdraw_5 (pc' := 6) rfl rfl rfl ?_
  refine yy_iload_n C 1 dX6_withdraw_6 (pc' := 7) rfl rfl rfl ?_
  refine xc_v (xr_V C (As := [.int (nI jk)]) (rest := []) lk_X6_207 cd_X6_requireWaiting im_X6_requireWaiting se_X6_requireWaiting (mX6_requireWaiting l hl0 G B0 ad F (S) jk (by omega) (by exact hI)) ⟨by decide, by decide⟩ ⟨by decide, by decide⟩ 0 rfl rfl rfl rfl (Nat.le_of_ble_eq_true rfl) dX6_withdraw_7) (pc' := 10) rfl (fun E _ hw2 => ?_) (fun _ hw2 => ?_)
  · skip
    obtain ⟨rfl, hx_⟩ := hw2
    subst hQ; exact xe_out C hno () rfl (Or.inr ⟨rfl, ans_2 i6 hjk hx_⟩) (by decide) (by decide)
  have zn2 := hw2
  refine yy_aload_n C 0 dX6_withdraw_10 (pc' := 11) rfl rfl rfl ?_
  refine yy_get C (v := .ref (ad 6)) fk_X6_47 0 dX6_withdraw_11 (pc' := 14) rfl rfl rfl ?_
  refine yy_get C (v := .ref (ad 26)) fk_X6_203 6 dX6_withdraw_14 (pc' := 17) rfl rfl rfl ?_
  refine yy_iload_n C 1 dX6_withdraw_17 (pc' := 18) rfl rfl rfl ?_
  refine yy_bipush C (v := (nI 120)) dX6_withdraw_18 (pc' := 20) rfl (by decide) ?_
  refine yy_cast C (w' := wA G ad (sI S 17 (upd (S.2.1 17) jk (nI 120))) ++ F) 26 dX6_withdraw_20 (pc' := 21) rfl rfl (by omega) (by decide) rfl rfl ?_
  refine yy_aload_n C 0 dX6_withdraw_21 (pc' := 22) rfl rfl rfl ?_
  refine yy_get C (v := .ref (ad 6)) fk_X6_47 0 dX6_withdraw_22 (pc' := 25) rfl rfl rfl ?_
  refine yy_bipush C (v := (nI 119)) dX6_withdraw_25 (pc' := 27) rfl (by decide) ?_
  refine yc_i (yr_V C (As := [.int (nI 119)]) (rest := []) lk_X6_217 cd_X3_countInState im_X3_countInState se_X3_countInState (mX3_countInState l G B0 ad F (sI S 17 (upd (S.2.1 17) jk (nI 120))) (nI 119) (by exact hI)) ⟨by decide, by decide⟩ ⟨by decide, by decide⟩ 6 rfl rfl rfl rfl (Nat.le_of_ble_eq_true rfl) dX6_withdraw_27) (pc' := 30) rfl (fun r3 _ hw3 => ?_)
  subst hw3
  subst hQ
  exact xe_i C hr (vp_nar_int _) jk dX6_withdraw_30 rfl (by decide) (by decide) ⟨ans_0 i6 hjk zn2, rfl, hjk, rfl⟩

abbrev rX6_giveDocument : Room := { frames := 5, cells := 0, slots := 0, locals := 115 }
set_option maxHeartbeats 4000000 in
set_option maxRecDepth 100000 in
theorem mX6_giveDocument (l : Launch) (G : gG) (B0 : Nat) (ad : Nat → Nat) (F : va_W) (S : SA) (a : Nat) (d : Int32) (ha : a < 5) (hI : IA S) (hJ : JA S) : Met l yX6_giveDocument (Cond.code yX6_giveDocument cX6_giveDocument 5 (some .int) :: WG) rX6_giveDocument (va_Pc [.ref (ad 0), .int (nI a), .int d] (PR G B0 (wA G ad S ++ F))) (va_Qi (fun (r : Int32) (_ : Unit) => r = nI (gvC S a d (S.1 1))) (fun (_ : Unit) (t_ : State) => va_P G.1 vwCl (wA G ad (gvS S a d (S.1 1)) ++ F) t_.heap ∧ va_D (fun q => B0 ≤ q) (wA G ad (gvS S a d (S.1 1)) ++ F)) (fun q => B0 ≤ q)) rX6_giveDocument.cells rX6_giveDocument.slots (fun q => B0 ≤ q) := by
  refine met_of RX6 [(0, .ref (ad 0)), (1, .int (nI a)), (2, .int d)] rfl (by decide) (Nat.le_of_ble_eq_true rfl) rfl ?_
  intro p e s m args below meth c C hr hnm
  refine yq ?_
  intro QQ hQ
  obtain ⟨i0, i1, i2, i3, i4, i5, i6, i7, i8, iJ, iH, iG, iQ⟩ := id hI
  refine yy_iconst C (v := (nI 0)) dX6_giveDocument_0 (pc' := 1) rfl (by decide) ?_
  refine yy_istore_n C (L' := [(3, .int (nI 0)), (0, .ref (ad 0)), (1, .int (nI a)), (2, .int d)]) dX6_giveDocument_1 (pc' := 2) rfl rfl (by decide) rfl ?_
  refine yy_iconst C (v := (nI 0)) dX6_giveDocument_2 (pc' := 3) rfl (by decide) ?_
  refine yy_istore C (L' := [(4, .int (nI 0)), (3, .int (nI 0)), (0, .ref (ad 0)), (1, .int (nI a)), (2, .int d)]) dX6_giveDocument_3 (pc' := 5) rfl (by decide) rfl ?_
  have lp_5 : ∀ (f_ : Nat) (i : Nat), (hi : i ≤ S.1 1) → S.1 1 - i < f_ → YY p l e rX6_giveDocument s m args below meth c G B0 5 QQ 5 [(3, .int (nI (gvC S a d i))), (4, .int (nI i)), (0, .ref (ad 0)), (1, .int (nI a)), (2, .int d)] [] (wA G ad (gvS S a d i) ++ F) 0 0 := by
    intro f_
    induction f_ with
    | zero => intro i hi hf_; exact absurd hf_ (Nat.not_lt_zero _)
    | succ f_ ih =>
      intro i hi hf_
      obtain ⟨hIi, hJi, hni, hmi⟩ := gv_inv (d := d) hI hJ ha i hi
      obtain ⟨g0, g1, g2, g3, g4, g5, g6, g7, g8, gJ, gH, gG, gQ⟩ := id hIi
      refine yy_iload C 1 dX6_giveDocument_5 (pc' := 7) rfl rfl ?_
      refine yy_aload_n C 2 dX6_giveDocument_7 (pc' := 8) rfl rfl rfl ?_
      refine yy_get C (v := .ref (ad 1)) fk_X6_12 0 dX6_giveDocument_8 (pc' := 11) rfl rfl rfl ?_
      refine yy_get C (v := .int (nI ((gvS S a d i).1 1))) fk_X6_246 1 dX6_giveDocument_11 (pc' := 14) rfl rfl rfl ?_
      refine yn_icmp_ge C (by omega) (by omega) dX6_giveDocument_14 (pc' := 17) rfl (tgt := 72) (by decide) (fun c_14 => ?_) (fun c_14 => ?_)
      · skip
        obtain rfl : i = S.1 1 := by omega
        refine yy_iload_n C 0 dX6_giveDocument_72 (pc' := 73) rfl rfl rfl ?_
        subst hQ
        exact ye_i C hr (vp_nar_int _) () dX6_giveDocument_73 rfl (by decide) (by decide) rfl
      · skip
        refine yy_aload_n C 2 dX6_giveDocument_17 (pc' := 18) rfl rfl rfl ?_
        refine yy_get C (v := .ref (ad 1)) fk_X6_12 0 dX6_giveDocument_18 (pc' := 21) rfl rfl rfl ?_
        refine yy_get C (v := .ref (ad 10)) fk_X6_84 1 dX6_giveDocument_21 (pc' := 24) rfl rfl rfl ?_
        refine yy_iload C 1 dX6_giveDocument_24 (pc' := 26) rfl rfl ?_
        refine yy_iald C 10 dX6_giveDocument_26 (pc' := 27) rfl rfl (by omega) (by decide) ?_
        refine yy_iload_n C 4 dX6_giveDocument_27 (pc' := 28) rfl rfl rfl ?_
        refine yy_icmp_ne C dX6_giveDocument_28 (pc' := 31) rfl (tgt := 66) (by decide) (fun c_28 => ?_) (fun c_28 => ?_)
        · skip
          refine yy_iinc C (v := (nI (i + 1))) (L' := [(4, .int (nI (i + 1))), (3, .int (nI (gvC S a d i))), (0, .ref (ad 0)), (1, .int (nI a)), (2, .int d)]) 1 dX6_giveDocument_66 (pc' := 69) rfl rfl (nI_add i 1) (by decide) rfl ?_
          refine yy_goto C (tgt := 5) dX6_giveDocument_69 (by decide) ?_
          obtain ⟨hg1, hg2⟩ := gv_f (S := S) (a := a) (d := d) (i := i) (by simp [gvB, c_28])
          rw [← hg1, ← hg2]
          refine yy_loc [1, 0, 2, 3, 4] rfl ?_
          exact ih (i + 1) (by omega) (by omega)
        · skip
          refine yy_aload_n C 2 dX6_giveDocument_31 (pc' := 32) rfl rfl rfl ?_
          refine yy_get C (v := .ref (ad 7)) fk_X6_51 0 dX6_giveDocument_32 (pc' := 35) rfl rfl rfl ?_
          refine yy_iload_n C 3 dX6_giveDocument_35 (pc' := 36) rfl rfl rfl ?_
          refine yy_lald C 7 dX6_giveDocument_36 (pc' := 37) rfl rfl (by omega) (by decide) ?_
          refine yy_mk ?_
          refine yy_iload C 1 dX6_giveDocument_37 (pc' := 39) rfl rfl ?_
          refine yc_i (yr_S C (As := [.long (lN (mk (((gvS S a d i).2.2 0) a))), .int (nI i)]) (rest := []) lk_X6_149 cd_X6_contains st_X6_contains (mX6_contains l G B0 (wA G ad (gvS S a d i) ++ F) (mk (((gvS S a d i).2.2 0) a)) i (by omega)) ⟨by decide, by decide⟩ ⟨by decide, by decide⟩ rfl rfl (Nat.le_of_ble_eq_true rfl) dX6_giveDocument_39) (pc' := 42) rfl (fun r1 _ hw1 => ?_)
          subst hw1
          refine yb_if_ne C dX6_giveDocument_42 (pc' := 45) rfl (tgt := 66) (by decide) (fun c_42 => ?_) (fun c_42 => ?_)
          · skip
            refine yy_iinc C (v := (nI (i + 1))) (L' := [(4, .int (nI (i + 1))), (3, .int (nI (gvC S a d i))), (0, .ref (ad 0)), (1, .int (nI a)), (2, .int d)]) 1 dX6_giveDocument_66 (pc' := 69) rfl rfl (nI_add i 1) (by decide) rfl ?_
            refine yy_goto C (tgt := 5) dX6_giveDocument_69 (by decide) ?_
            obtain ⟨hg1, hg2⟩ := gv_f (S := S) (a := a) (d := d) (i := i) (by simp [gvB, freeB, c_28, c_42])
            rw [← hg1, ← hg2]
            refine yy_loc [1, 0, 2, 3, 4] rfl ?_
            exact ih (i + 1) (by omega) (by omega)
          · skip
            refine yy_aload_n C 2 dX6_giveDocument_45 (pc' := 46) rfl rfl rfl ?_
            refine yy_iload_n C 3 dX6_giveDocument_46 (pc' := 47) rfl rfl rfl ?_
            refine yy_iload C 1 dX6_giveDocument_47 (pc' := 49) rfl rfl ?_
            refine yc_i (yr_V C (As := [.int (nI a), .int (nI i)]) (rest := []) lk_X6_170 cd_X6_findProtectedLine im_X6_findProtectedLine se_X6_findProtectedLine (mX6_findProtectedLine l G B0 ad F (gvS S a d i) a i (by omega) (by omega) hIi) ⟨by decide, by decide⟩ ⟨by decide, by decide⟩ 0 rfl rfl rfl rfl (Nat.le_of_ble_eq_true rfl) dX6_giveDocument_49) (pc' := 52) rfl (fun r2 _ hw2 => ?_)
            subst hw2
            refine yy_iconst C (v := (-1)) dX6_giveDocument_52 (pc' := 53) rfl (by decide) ?_
            refine yy_icmp_ne C dX6_giveDocument_53 (pc' := 56) rfl (tgt := 66) (by decide) (fun c_53 => ?_) (fun c_53 => ?_)
            · skip
              refine yy_iinc C (v := (nI (i + 1))) (L' := [(4, .int (nI (i + 1))), (3, .int (nI (gvC S a d i))), (0, .ref (ad 0)), (1, .int (nI a)), (2, .int d)]) 1 dX6_giveDocument_66 (pc' := 69) rfl rfl (nI_add i 1) (by decide) rfl ?_
              refine yy_goto C (tgt := 5) dX6_giveDocument_69 (by decide) ?_
              obtain ⟨hg1, hg2⟩ := gv_f (S := S) (a := a) (d := d) (i := i) (by simp [gvB, freeB, c_28, c_42, c_53])
              rw [← hg1, ← hg2]
              refine yy_loc [1, 0, 2, 3, 4] rfl ?_
              exact ih (i + 1) (by omega) (by omega)
            · skip
              refine yy_aload_n C 2 dX6_giveDocument_56 (pc' := 57) rfl rfl rfl ?_
              refine yy_iload_n C 3 dX6_giveDocument_57 (pc' := 58) rfl rfl rfl ?_
              refine yy_iload C 1 dX6_giveDocument_58 (pc' := 60) rfl rfl ?_
              refine yc_v (yr_V C (As := [.int (nI a), .int (nI i)]) (rest := []) lk_X6_279 cd_X6_give im_X6_give se_X6_give (mX6_give l G B0 ad F (gvS S a d i) a i (by omega) (by omega) (gv_cap (a := a) (k := i) hJi hIi ha (by omega) (by simp [freeB, c_42, c_53])) hIi) ⟨by decide, by decide⟩ ⟨by decide, by decide⟩ 0 rfl rfl rfl rfl (Nat.le_of_ble_eq_true rfl) dX6_giveDocument_60) (pc' := 63) rfl (fun _ hw3 => ?_)
              refine yy_iinc C (v := (nI ((gvC S a d i) + 1))) (L' := [(3, .int (nI ((gvC S a d i) + 1))), (4, .int (nI i)), (0, .ref (ad 0)), (1, .int (nI a)), (2, .int d)]) 0 dX6_giveDocument_63 (pc' := 66) rfl rfl (nI_add (gvC S a d i) 1) (by decide) rfl ?_
              refine yy_iinc C (v := (nI (i + 1))) (L' := [(4, .int (nI (i + 1))), (3, .int (nI ((gvC S a d i) + 1))), (0, .ref (ad 0)), (1, .int (nI a)), (2, .int d)]) 1 dX6_giveDocument_66 (pc' := 69) rfl rfl (nI_add i 1) (by decide) rfl ?_
              refine yy_goto C (tgt := 5) dX6_giveDocument_69 (by decide) ?_
              obtain ⟨hg1, hg2⟩ := gv_t (S := S) (a := a) (d := d) (i := i) (by simp [gvB, freeB, c_28, c_42, c_53])
              rw [← hg1, ← hg2]
              refine yy_loc [1, 0, 2, 3, 4] rfl ?_
              exact ih (i + 1) (by omega) (by omega)
  refine yy_loc (L' := [(3, .int (nI 0)), (4, .int (nI 0)), (0, .ref (ad 0)), (1, .int (nI a)), (2, .int d)]) [1, 0, 2, 3, 4] rfl ?_
  exact lp_5 (S.1 1 - 0 + 1) 0 (Nat.zero_le _) (Nat.lt_succ_self _)

abbrev rX6_answer : Room := { frames := 7, cells := 1, slots := 6, locals := 139 }
set_option maxHeartbeats 4000000 in
set_option maxRecDepth 100000 in
theorem mX6_answer (l : Launch) (hl0 : l.stackTraces = false) (G : gG) (B0 : Nat) (ad : Nat → Nat) (F : va_W) (S : SA) (k : Int32) (hI : IA S) (hJ : JA S) : vy_Met l yX6_answer (Cond.code yX6_answer cX6_answer 2 (some .int) :: WG) rX6_answer (va_Pc [.ref (ad 0), .int k] (PR G B0 (wA G ad S ++ F))) (va_Qi (fun (r : Int32) (u : Nat) => cdAns (S.1 6) (S.2.1 17) k = 0 ∧ k = nI u ∧ u < S.1 6 ∧ r = nI (gvC (sI S 17 (upd (S.2.1 17) u (nI 97))) (ix (S.2.1 15 u)) (S.2.1 16 u) (S.1 1))) (fun (u : Nat) (t_ : State) => va_P G.1 vwCl (wA G ad (gvS (sI S 17 (upd (S.2.1 17) u (nI 97))) (ix (S.2.1 15 u)) (S.2.1 16 u) (S.1 1)) ++ F) t_.heap ∧ va_D (fun q => B0 ≤ q) (wA G ad (gvS (sI S 17 (upd (S.2.1 17) u (nI 97))) (ix (S.2.1 15 u)) (S.2.1 16 u) (S.1 1)) ++ F)) (fun q => B0 ≤ q)) (vx_X (fun _ : Unit => True) (fun (E : String) (_ : Unit) (t_ : State) => ((E = "java/lang/IndexOutOfBoundsException" ∧ cdAns (S.1 6) (S.2.1 17) k = 1) ∨ (E = "java/lang/IllegalStateException" ∧ cdAns (S.1 6) (S.2.1 17) k = 2)) ∧ va_P G.1 vwCl (wA G ad S ++ F) t_.heap ∧ va_D (fun q => B0 ≤ q) (wA G ad S ++ F)) (fun q => B0 ≤ q)) rX6_answer.cells rX6_answer.slots (fun q => B0 ≤ q) := by
  refine xmet_of RX6 [(0, .ref (ad 0)), (1, .int k)] rfl (by decide) (Nat.le_of_ble_eq_true rfl) rfl ?_
  intro p e s m args below meth c C hr hnm hno
  refine yq ?_
  intro QQ hQ
  obtain ⟨i0, i1, i2, i3, i4, i5, i6, i7, i8, iJ, iH, iG, iQ⟩ := id hI
  refine yy_aload_n C 0 dX6_answer_0 (pc' := 1) rfl rfl rfl ?_
  refine yy_iload_n C 1 dX6_answer_1 (pc' := 2) rfl rfl rfl ?_
  refine xc_v (xr_V C (As := [.int k]) (rest := []) lk_X6_200 cd_X6_requireRequest im_X6_requireRequest se_X6_requireRequest (mX6_requireRequest l hl0 G B0 ad F (S) k (by exact hI)) ⟨by decide, by decide⟩ ⟨by decide, by decide⟩ 0 rfl rfl rfl rfl (Nat.le_of_ble_eq_true rfl) dX6_answer_2) (pc' := 5) rfl (fun E _ hw1 => ?_) (fun _ hw1 => ?_)
  · skip
    obtain ⟨rfl, hx_⟩ := hw1
    subst hQ; exact xe_out C hno () rfl (Or.inl ⟨rfl, by simp [cdAns, hx_]⟩) (by decide) (by decide)
  have zn1 := hw1
  obtain ⟨jk, hjk, rfl⟩ := inR_of (by omega) zn1
  have ejk : ix (nI jk) = jk := ix_lt hjk (by omega)
  refine yy_aload_n C 0 dX6_answer_5 (pc' := 6) rfl rfl rfl ?_
  refine yy_iload_n C 1 dX6_answer_6 (pc' := 7) rfl rfl rfl ?_
  refine xc_v (xr_V C (As := [.int (nI jk)]) (rest := []) lk_X6_207 cd_X6_requireWaiting im_X6_requireWaiting se_X6_requireWaiting (mX6_requireWaiting l hl0 G B0 ad F (S) jk (by omega) (by exact hI)) ⟨by decide, by decide⟩ ⟨by decide, by decide⟩ 0 rfl rfl rfl rfl (Nat.le_of_ble_eq_true rfl) dX6_answer_7) (pc' := 10) rfl (fun E _ hw2 => ?_) (fun _ hw2 => ?_)
  · skip
    obtain ⟨rfl, hx_⟩ := hw2
    subst hQ; exact xe_out C hno () rfl (Or.inr ⟨rfl, ans_2 i6 hjk hx_⟩) (by decide) (by decide)
  have zn2 := hw2
  refine yy_aload_n C 0 dX6_answer_10 (pc' := 11) rfl rfl rfl ?_
  refine yy_get C (v := .ref (ad 6)) fk_X6_47 0 dX6_answer_11 (pc' := 14) rfl rfl rfl ?_
  refine yy_get C (v := .ref (ad 26)) fk_X6_203 6 dX6_answer_14 (pc' := 17) rfl rfl rfl ?_
  refine yy_iload_n C 1 dX6_answer_17 (pc' := 18) rfl rfl rfl ?_
  refine yy_bipush C (v := (nI 97)) dX6_answer_18 (pc' := 20) rfl (by decide) ?_
  refine yy_cast C (w' := wA G ad (sI S 17 (upd (S.2.1 17) jk (nI 97))) ++ F) 26 dX6_answer_20 (pc' := 21) rfl rfl (by omega) (by decide) rfl rfl ?_
  refine yy_aload_n C 0 dX6_answer_21 (pc' := 22) rfl rfl rfl ?_
  refine yy_aload_n C 0 dX6_answer_22 (pc' := 23) rfl rfl rfl ?_
  refine yy_get C (v := .ref (ad 6)) fk_X6_47 0 dX6_answer_23 (pc' := 26) rfl rfl rfl ?_
  refine yy_get C (v := .ref (ad 24)) fk_X6_210 6 dX6_answer_26 (pc' := 29) rfl rfl rfl ?_
  refine yy_iload_n C 1 dX6_answer_29 (pc' := 30) rfl rfl rfl ?_
  refine yy_iald C 24 dX6_answer_30 (pc' := 31) rfl rfl (by omega) (by decide) ?_
  refine yy_ix ?_
  refine yy_aload_n C 0 dX6_answer_31 (pc' := 32) rfl rfl rfl ?_
  refine yy_get C (v := .ref (ad 6)) fk_X6_47 0 dX6_answer_32 (pc' := 35) rfl rfl rfl ?_
  refine yy_get C (v := .ref (ad 25)) fk_X6_213 6 dX6_answer_35 (pc' := 38) rfl rfl rfl ?_
  refine yy_iload_n C 1 dX6_answer_38 (pc' := 39) rfl rfl rfl ?_
  refine yy_iald C 25 dX6_answer_39 (pc' := 40) rfl rfl (by omega) (by decide) ?_
  refine yc_i (yr_V C (As := [.int (nI (ix ((S.2.1 15) jk))), .int ((S.2.1 16) jk)]) (rest := []) lk_X6_214 cd_X6_giveDocument im_X6_giveDocument se_X6_giveDocument (mX6_giveDocument l G B0 ad F (sI S 17 (upd (S.2.1 17) jk (nI 97))) (ix ((S.2.1 15) jk)) ((S.2.1 16) jk) (iQ jk hjk) (by exact hI) (by exact hJ)) ⟨by decide, by decide⟩ ⟨by decide, by decide⟩ 0 rfl rfl rfl rfl (Nat.le_of_ble_eq_true rfl) dX6_answer_40) (pc' := 43) rfl (fun r3 _ hw3 => ?_)
  subst hw3
  subst hQ
  exact xe_i C hr (vp_nar_int _) jk dX6_answer_43 rfl (by decide) (by decide) ⟨ans_0 i6 hjk zn2, rfl, hjk, rfl⟩

abbrev rX6_setPrice : Room := { frames := 6, cells := 1, slots := 6, locals := 92 }
set_option maxHeartbeats 4000000 in
set_option maxRecDepth 100000 in
theorem mX6_setPrice (l : Launch) (hl0 : l.stackTraces = false) (G : gG) (B0 : Nat) (ad : Nat → Nat) (F : va_W) (S : SA) (z : Int32) (hI : IA S) : vy_Met l yX6_setPrice (Cond.code yX6_setPrice cX6_setPrice 3 (some .int) :: WG) rX6_setPrice (va_Pc [.ref (ad 0), .int z] (PR G B0 (wA G ad S ++ F))) (va_Qi (fun (r : Int32) (u : Nat) => cdPrice z = 0 ∧ z = nI u ∧ u ≤ 99 ∧ r = nI (S.1 8)) (fun (u : Nat) (t_ : State) => va_P G.1 vwCl (wA G ad (sN S 8 u) ++ F) t_.heap ∧ va_D (fun q => B0 ≤ q) (wA G ad (sN S 8 u) ++ F)) (fun q => B0 ≤ q)) (vx_X (fun _ : Unit => True) (fun (E : String) (_ : Unit) (t_ : State) => (E = "java/lang/IllegalArgumentException" ∧ cdPrice z = 1) ∧ va_P G.1 vwCl (wA G ad S ++ F) t_.heap ∧ va_D (fun q => B0 ≤ q) (wA G ad S ++ F)) (fun q => B0 ≤ q)) rX6_setPrice.cells rX6_setPrice.slots (fun q => B0 ≤ q) := by
  refine xmet_of RX6 [(0, .ref (ad 0)), (1, .int z)] rfl (by decide) (Nat.le_of_ble_eq_true rfl) rfl ?_
  intro p e s m args below meth c C hr hnm hno
  refine yq ?_
  intro QQ hQ
  obtain ⟨i0, i1, i2, i3, i4, i5, i6, i7, i8, iJ, iH, iG, iQ⟩ := id hI
  refine yy_iload_n C 1 dX6_setPrice_0 (pc' := 1) rfl rfl rfl ?_
  refine yy_if_lt C dX6_setPrice_1 (pc' := 4) rfl (tgt := 10) (by decide) (fun c_1 => ?_) (fun c_1 => ?_)
  · skip
    subst hQ
    exact xe_throwS C hl0 th_X6_137_141 hno (is := 221) (text := "the price is not between 0 and 99") (by decide +kernel) dX6_setPrice_10 dX6_setPrice_13 dX6_setPrice_14 dX6_setPrice_16 dX6_setPrice_19 () rfl (by simp [cdPrice, inB, c_1]) (by decide) (by decide) (by decide) (by decide) (by decide) (by decide)
  · skip
    refine yy_iload_n C 1 dX6_setPrice_4 (pc' := 5) rfl rfl rfl ?_
    refine yy_bipush C (v := (nI 99)) dX6_setPrice_5 (pc' := 7) rfl (by decide) ?_
    refine yy_icmp_le C dX6_setPrice_7 (pc' := 10) rfl (tgt := 20) (by decide) (fun c_7 => ?_) (fun c_7 => ?_)
    · skip
      obtain ⟨jz, hjz, rfl⟩ := nI_rng0 (by decide) c_1 c_7
      refine yy_aload_n C 0 dX6_setPrice_20 (pc' := 21) rfl rfl rfl ?_
      refine yy_get C (v := .int (nI (S.1 8))) fk_X6_59 0 dX6_setPrice_21 (pc' := 24) rfl rfl rfl ?_
      refine yy_istore_n C (L' := [(2, .int (nI (S.1 8))), (0, .ref (ad 0)), (1, .int (nI jz))]) dX6_setPrice_24 (pc' := 25) rfl rfl (by decide) rfl ?_
      refine yy_aload_n C 1 dX6_setPrice_25 (pc' := 26) rfl rfl rfl ?_
      refine yy_iload_n C 2 dX6_setPrice_26 (pc' := 27) rfl rfl rfl ?_
      refine yy_put C (w' := wA G ad (sN S 8 jz) ++ F) fk_X6_59 fpX6 rfl 0 dX6_setPrice_27 (pc' := 30) rfl rfl rfl rfl (Nat.le_of_ble_eq_true rfl) rfl ?_
      refine yy_iload_n C 0 dX6_setPrice_30 (pc' := 31) rfl rfl rfl ?_
      subst hQ
      exact xe_i C hr (vp_nar_int _) jz dX6_setPrice_31 rfl (by decide) (by decide) ⟨by simp [cdPrice, inB, c_1, c_7, Int32.not_lt.mpr c_7], rfl, hjz, rfl⟩
    · skip
      subst hQ
      exact xe_throwS C hl0 th_X6_137_141 hno (is := 221) (text := "the price is not between 0 and 99") (by decide +kernel) dX6_setPrice_10 dX6_setPrice_13 dX6_setPrice_14 dX6_setPrice_16 dX6_setPrice_19 () rfl (by simp [cdPrice, inB, c_1, c_7, Int32.not_le.mp c_7]) (by decide) (by decide) (by decide) (by decide) (by decide) (by decide)

abbrev rX6_owed : Room := { frames := 7, cells := 1, slots := 6, locals := 112 }
set_option maxHeartbeats 4000000 in
set_option maxRecDepth 100000 in
theorem mX6_owed (l : Launch) (hl0 : l.stackTraces = false) (G : gG) (B0 : Nat) (ad : Nat → Nat) (F : va_W) (S : SA) (a : Int32) (hI : IA S) : vy_Met l yX6_owed (Cond.code yX6_owed cX6_owed 2 (some .int) :: WG) rX6_owed (va_Pc [.ref (ad 0), .int a] (PR G B0 (wA G ad S ++ F))) (va_Qi (fun (r : Int32) (_ : Unit) => cd1 5 a = 0 ∧ r = S.2.1 0 (ix a)) (fun (_ : Unit) (t_ : State) => va_P G.1 vwCl (wA G ad S ++ F) t_.heap ∧ va_D (fun q => B0 ≤ q) (wA G ad S ++ F)) (fun q => B0 ≤ q)) (vx_X (fun _ : Unit => True) (fun (E : String) (_ : Unit) (t_ : State) => (E = "java/lang/IllegalArgumentException" ∧ cd1 5 a = 1) ∧ va_P G.1 vwCl (wA G ad S ++ F) t_.heap ∧ va_D (fun q => B0 ≤ q) (wA G ad S ++ F)) (fun q => B0 ≤ q)) rX6_owed.cells rX6_owed.slots (fun q => B0 ≤ q) := by
  refine xmet_of RX6 [(0, .ref (ad 0)), (1, .int a)] rfl (by decide) (Nat.le_of_ble_eq_true rfl) rfl ?_
  intro p e s m args below meth c C hr hnm hno
  refine yq ?_
  intro QQ hQ
  obtain ⟨i0, i1, i2, i3, i4, i5, i6, i7, i8, iJ, iH, iG, iQ⟩ := id hI
  refine yy_iload_n C 1 dX6_owed_0 (pc' := 1) rfl rfl rfl ?_
  refine xc_v (xr_S C (As := [.int a]) (rest := []) lk_X6_146 cd_X6_requireAsker st_X6_requireAsker (mX6_requireAsker l hl0 G B0 (wA G ad S ++ F) a) ⟨by decide, by decide⟩ ⟨by decide, by decide⟩ rfl rfl (Nat.le_of_ble_eq_true rfl) dX6_owed_1) (pc' := 4) rfl (fun E _ hw1 => ?_) (fun _ hw1 => ?_)
  · skip
    obtain ⟨rfl, hx_⟩ := hw1
    subst hQ; exact xe_out C hno () rfl (by simp [hx_, cd1]) (by decide) (by decide)
  have zn1 := hw1
  obtain ⟨ja, hja, rfl⟩ := inR_of (by omega) zn1
  have eja : ix (nI ja) = ja := ix_lt hja (by omega)
  refine yy_aload_n C 0 dX6_owed_4 (pc' := 5) rfl rfl rfl ?_
  refine yy_get C (v := .ref (ad 8)) fk_X6_55 0 dX6_owed_5 (pc' := 8) rfl rfl rfl ?_
  refine yy_iload_n C 1 dX6_owed_8 (pc' := 9) rfl rfl rfl ?_
  refine yy_iald C 8 dX6_owed_9 (pc' := 10) rfl rfl (by omega) (by decide) ?_
  subst hQ
  exact xe_i C hr (vp_nar_int _) () dX6_owed_10 rfl (by decide) (by decide) ⟨by simp [cd1, zn1, eja], by rw [eja]⟩

abbrev rX6_pay : Room := { frames := 7, cells := 1, slots := 6, locals := 112 }
set_option maxHeartbeats 4000000 in
set_option maxRecDepth 100000 in
theorem mX6_pay (l : Launch) (hl0 : l.stackTraces = false) (G : gG) (B0 : Nat) (ad : Nat → Nat) (F : va_W) (S : SA) (a z : Int32) (hI : IA S) : vy_Met l yX6_pay (Cond.code yX6_pay cX6_pay 3 (some .int) :: WG) rX6_pay (va_Pc [.ref (ad 0), .int a, .int z] (PR G B0 (wA G ad S ++ F))) (va_Qi (fun (r : Int32) (u : Nat) => cdPay (S.2.1 0) a z = 0 ∧ a = nI u ∧ u < 5 ∧ r = S.2.1 0 u - z) (fun (u : Nat) (t_ : State) => va_P G.1 vwCl (wA G ad (sI S 0 (upd (S.2.1 0) u (S.2.1 0 u - z))) ++ F) t_.heap ∧ va_D (fun q => B0 ≤ q) (wA G ad (sI S 0 (upd (S.2.1 0) u (S.2.1 0 u - z))) ++ F)) (fun q => B0 ≤ q)) (vx_X (fun _ : Unit => True) (fun (E : String) (_ : Unit) (t_ : State) => (E = "java/lang/IllegalArgumentException" ∧ cdPay (S.2.1 0) a z = 1) ∧ va_P G.1 vwCl (wA G ad S ++ F) t_.heap ∧ va_D (fun q => B0 ≤ q) (wA G ad S ++ F)) (fun q => B0 ≤ q)) rX6_pay.cells rX6_pay.slots (fun q => B0 ≤ q) := by
  refine xmet_of RX6 [(0, .ref (ad 0)), (1, .int a), (2, .int z)] rfl (by decide) (Nat.le_of_ble_eq_true rfl) rfl ?_
  intro p e s m args below meth c C hr hnm hno
  refine yq ?_
  intro QQ hQ
  obtain ⟨i0, i1, i2, i3, i4, i5, i6, i7, i8, iJ, iH, iG, iQ⟩ := id hI
  refine yy_iload_n C 1 dX6_pay_0 (pc' := 1) rfl rfl rfl ?_
  refine xc_v (xr_S C (As := [.int a]) (rest := []) lk_X6_146 cd_X6_requireAsker st_X6_requireAsker (mX6_requireAsker l hl0 G B0 (wA G ad S ++ F) a) ⟨by decide, by decide⟩ ⟨by decide, by decide⟩ rfl rfl (Nat.le_of_ble_eq_true rfl) dX6_pay_1) (pc' := 4) rfl (fun E _ hw1 => ?_) (fun _ hw1 => ?_)
  · skip
    obtain ⟨rfl, hx_⟩ := hw1
    subst hQ; exact xe_out C hno () rfl (by simp [hx_, cdPay]) (by decide) (by decide)
  have zn1 := hw1
  obtain ⟨ja, hja, rfl⟩ := inR_of (by omega) zn1
  have eja : ix (nI ja) = ja := ix_lt hja (by omega)
  refine yy_iload_n C 2 dX6_pay_4 (pc' := 5) rfl rfl rfl ?_
  refine yy_iconst C (v := (nI 1)) dX6_pay_5 (pc' := 6) rfl (by decide) ?_
  refine yy_icmp_lt C dX6_pay_6 (pc' := 9) rfl (tgt := 19) (by decide) (fun c_6 => ?_) (fun c_6 => ?_)
  · skip
    subst hQ
    exact xe_throwS C hl0 th_X6_137_141 hno (is := 223) (text := "the sum is not between 1 and what the asker owes") (by decide +kernel) dX6_pay_19 dX6_pay_22 dX6_pay_23 dX6_pay_25 dX6_pay_28 () rfl (by simp [cdPay, inB, zn1, eja, c_6]) (by decide) (by decide) (by decide) (by decide) (by decide) (by decide)
  · skip
    refine yy_iload_n C 2 dX6_pay_9 (pc' := 10) rfl rfl rfl ?_
    refine yy_aload_n C 0 dX6_pay_10 (pc' := 11) rfl rfl rfl ?_
    refine yy_get C (v := .ref (ad 8)) fk_X6_55 0 dX6_pay_11 (pc' := 14) rfl rfl rfl ?_
    refine yy_iload_n C 1 dX6_pay_14 (pc' := 15) rfl rfl rfl ?_
    refine yy_iald C 8 dX6_pay_15 (pc' := 16) rfl rfl (by omega) (by decide) ?_
    refine yy_icmp_le C dX6_pay_16 (pc' := 19) rfl (tgt := 29) (by decide) (fun c_16 => ?_) (fun c_16 => ?_)
    · skip
      refine yy_aload_n C 0 dX6_pay_29 (pc' := 30) rfl rfl rfl ?_
      refine yy_get C (v := .ref (ad 8)) fk_X6_55 0 dX6_pay_30 (pc' := 33) rfl rfl rfl ?_
      refine yy_iload_n C 1 dX6_pay_33 (pc' := 34) rfl rfl rfl ?_
      refine yy_dup2 C dX6_pay_34 (pc' := 35) rfl rfl rfl ?_
      refine yy_iald C 8 dX6_pay_35 (pc' := 36) rfl rfl (by omega) (by decide) ?_
      refine yy_iload_n C 2 dX6_pay_36 (pc' := 37) rfl rfl rfl ?_
      refine yy_isub C (v := (((S.2.1 0) ja) - z)) dX6_pay_37 (pc' := 38) rfl rfl ?_
      refine yy_iast C (w' := wA G ad (sI S 0 (upd (S.2.1 0) ja (((S.2.1 0) ja) - z))) ++ F) 8 dX6_pay_38 (pc' := 39) rfl rfl (by omega) (by decide) rfl ?_
      refine yy_aload_n C 0 dX6_pay_39 (pc' := 40) rfl rfl rfl ?_
      refine yy_get C (v := .ref (ad 8)) fk_X6_55 0 dX6_pay_40 (pc' := 43) rfl rfl rfl ?_
      refine yy_iload_n C 1 dX6_pay_43 (pc' := 44) rfl rfl rfl ?_
      refine yy_iald C 8 dX6_pay_44 (pc' := 45) rfl rfl (by omega) (by decide) ?_
      subst hQ
      exact xe_i C hr (vp_nar_int _) ja dX6_pay_45 rfl (by decide) (by decide) ⟨by simp [cdPay, inB, zn1, eja, c_6, c_16, Int32.not_lt.mpr c_16], rfl, hja, pk_us⟩
    · skip
      subst hQ
      exact xe_throwS C hl0 th_X6_137_141 hno (is := 223) (text := "the sum is not between 1 and what the asker owes") (by decide +kernel) dX6_pay_19 dX6_pay_22 dX6_pay_23 dX6_pay_25 dX6_pay_28 () rfl (by simp [cdPay, inB, zn1, eja, c_6, c_16, Int32.not_le.mp c_16]) (by decide) (by decide) (by decide) (by decide) (by decide) (by decide)

abbrev rX6_pass : Room := { frames := 6, cells := 1, slots := 6, locals := 92 }
set_option maxHeartbeats 4000000 in
set_option maxRecDepth 100000 in
theorem mX6_pass (l : Launch) (hl0 : l.stackTraces = false) (G : gG) (B0 : Nat) (ad : Nat → Nat) (F : va_W) (S : SA) (z : Int32) (hI : IA S) : vy_Met l yX6_pass (Cond.code yX6_pass cX6_pass 3 (some .int) :: WG) rX6_pass (va_Pc [.ref (ad 0), .int z] (PR G B0 (wA G ad S ++ F))) (va_Qi (fun (r : Int32) (u : Nat) => cdPass (S.1 7) z = 0 ∧ z = nI u ∧ (1 ≤ u ∧ u ≤ 90 ∧ S.1 7 + u ≤ 9999) ∧ r = nI (lateC (S.1 6) (S.2.1 17) (S.2.1 18) (S.1 7 + u)) - nI (lateC (S.1 6) (S.2.1 17) (S.2.1 18) (S.1 7))) (fun (u : Nat) (t_ : State) => va_P G.1 vwCl (wA G ad (sN S 7 (S.1 7 + u)) ++ F) t_.heap ∧ va_D (fun q => B0 ≤ q) (wA G ad (sN S 7 (S.1 7 + u)) ++ F)) (fun q => B0 ≤ q)) (vx_X (fun _ : Unit => True) (fun (E : String) (_ : Unit) (t_ : State) => (E = "java/lang/IllegalArgumentException" ∧ cdPass (S.1 7) z = 1) ∧ va_P G.1 vwCl (wA G ad S ++ F) t_.heap ∧ va_D (fun q => B0 ≤ q) (wA G ad S ++ F)) (fun q => B0 ≤ q)) rX6_pass.cells rX6_pass.slots (fun q => B0 ≤ q) := by
  refine xmet_of RX6 [(0, .ref (ad 0)), (1, .int z)] rfl (by decide) (Nat.le_of_ble_eq_true rfl) rfl ?_
  intro p e s m args below meth c C hr hnm hno
  refine yq ?_
  intro QQ hQ
  obtain ⟨i0, i1, i2, i3, i4, i5, i6, i7, i8, iJ, iH, iG, iQ⟩ := id hI
  refine yy_iload_n C 1 dX6_pass_0 (pc' := 1) rfl rfl rfl ?_
  refine yy_iconst C (v := (nI 1)) dX6_pass_1 (pc' := 2) rfl (by decide) ?_
  refine yy_icmp_lt C dX6_pass_2 (pc' := 5) rfl (tgt := 11) (by decide) (fun c_2 => ?_) (fun c_2 => ?_)
  · skip
    subst hQ
    exact xe_throwS C hl0 th_X6_137_141 hno (is := 225) (text := "the days are not between 1 and 90") (by decide +kernel) dX6_pass_11 dX6_pass_14 dX6_pass_15 dX6_pass_17 dX6_pass_20 () rfl (by simp [cdPass, inB, c_2]) (by decide) (by decide) (by decide) (by decide) (by decide) (by decide)
  · skip
    refine yy_iload_n C 1 dX6_pass_5 (pc' := 6) rfl rfl rfl ?_
    refine yy_bipush C (v := (nI 90)) dX6_pass_6 (pc' := 8) rfl (by decide) ?_
    refine yy_icmp_le C dX6_pass_8 (pc' := 11) rfl (tgt := 21) (by decide) (fun c_8 => ?_) (fun c_8 => ?_)
    · skip
      obtain ⟨jz, hz1, hz2, rfl⟩ := nI_rng (by decide) c_2 c_8
      refine yy_aload_n C 0 dX6_pass_21 (pc' := 22) rfl rfl rfl ?_
      refine yy_get C (v := .int (nI (S.1 7))) fk_X6_120 0 dX6_pass_22 (pc' := 25) rfl rfl rfl ?_
      refine yy_iload_n C 1 dX6_pass_25 (pc' := 26) rfl rfl rfl ?_
      refine yy_iadd C (v := (nI ((S.1 7) + jz))) dX6_pass_26 (pc' := 27) rfl (nI_add (S.1 7) jz) ?_
      refine yy_sipush C (v := (nI 9999)) dX6_pass_27 (pc' := 30) rfl (by decide) ?_
      refine yn_icmp_le C (by omega) (by decide) dX6_pass_30 (pc' := 33) rfl (tgt := 43) (by decide) (fun c_30 => ?_) (fun c_30 => ?_)
      · skip
        refine yy_aload_n C 0 dX6_pass_43 (pc' := 44) rfl rfl rfl ?_
        refine yy_get C (v := .ref (ad 6)) fk_X6_47 0 dX6_pass_44 (pc' := 47) rfl rfl rfl ?_
        refine yy_aload_n C 0 dX6_pass_47 (pc' := 48) rfl rfl rfl ?_
        refine yy_get C (v := .int (nI (S.1 7))) fk_X6_120 0 dX6_pass_48 (pc' := 51) rfl rfl rfl ?_
        refine yc_i (yr_V C (As := [.int (nI (S.1 7))]) (rest := []) lk_X6_229 cd_X3_countLate im_X3_countLate se_X3_countLate (mX3_countLate l G B0 ad F (S) (S.1 7) (by exact hI)) ⟨by decide, by decide⟩ ⟨by decide, by decide⟩ 6 rfl rfl rfl rfl (Nat.le_of_ble_eq_true rfl) dX6_pass_51) (pc' := 54) rfl (fun r1 _ hw1 => ?_)
        subst hw1
        refine yy_istore_n C (L' := [(2, .int (nI (lateC (S.1 6) (S.2.1 17) (S.2.1 18) (S.1 7)))), (0, .ref (ad 0)), (1, .int (nI jz))]) dX6_pass_54 (pc' := 55) rfl rfl (by decide) rfl ?_
        refine yy_aload_n C 1 dX6_pass_55 (pc' := 56) rfl rfl rfl ?_
        refine yy_dup C dX6_pass_56 (pc' := 57) rfl rfl ?_
        refine yy_get C (v := .int (nI (S.1 7))) fk_X6_120 0 dX6_pass_57 (pc' := 60) rfl rfl rfl ?_
        refine yy_iload_n C 2 dX6_pass_60 (pc' := 61) rfl rfl rfl ?_
        refine yy_iadd C (v := (nI ((S.1 7) + jz))) dX6_pass_61 (pc' := 62) rfl (nI_add (S.1 7) jz) ?_
        refine yy_put C (w' := wA G ad (sN S 7 ((S.1 7) + jz)) ++ F) fk_X6_120 fpX6 rfl 0 dX6_pass_62 (pc' := 65) rfl rfl rfl rfl (Nat.le_of_ble_eq_true rfl) rfl ?_
        refine yy_aload_n C 1 dX6_pass_65 (pc' := 66) rfl rfl rfl ?_
        refine yy_get C (v := .ref (ad 6)) fk_X6_47 0 dX6_pass_66 (pc' := 69) rfl rfl rfl ?_
        refine yy_aload_n C 1 dX6_pass_69 (pc' := 70) rfl rfl rfl ?_
        refine yy_get C (v := .int (nI ((S.1 7) + jz))) fk_X6_120 0 dX6_pass_70 (pc' := 73) rfl rfl rfl ?_
        refine yc_i (yr_V C (As := [.int (nI ((S.1 7) + jz))]) (rest := []) lk_X6_229 cd_X3_countLate im_X3_countLate se_X3_countLate (mX3_countLate l G B0 ad F (sN S 7 ((S.1 7) + jz)) ((S.1 7) + jz) (show IA (sN S 7 (S.1 7 + jz)) from ⟨i0, i1, i2, i3, i4, i5, i6, c_30, i8, iJ, iH, iG, iQ⟩)) ⟨by decide, by decide⟩ ⟨by decide, by decide⟩ 6 rfl rfl rfl rfl (Nat.le_of_ble_eq_true rfl) dX6_pass_73) (pc' := 76) rfl (fun r2 _ hw2 => ?_)
        subst hw2
        refine yy_iload_n C 0 dX6_pass_76 (pc' := 77) rfl rfl rfl ?_
        refine yy_isub C (v := ((nI (lateC (S.1 6) (S.2.1 17) (S.2.1 18) ((S.1 7) + jz))) - (nI (lateC (S.1 6) (S.2.1 17) (S.2.1 18) (S.1 7))))) dX6_pass_77 (pc' := 78) rfl rfl ?_
        subst hQ
        exact xe_i C hr (vp_nar_int _) jz dX6_pass_78 rfl (by decide) (by decide) ⟨pass_0 hz1 hz2 c_30, rfl, ⟨hz1, hz2, c_30⟩, rfl⟩
      · skip
        subst hQ
        exact xe_throwS C hl0 th_X6_137_141 hno (is := 227) (text := "the day would be greater than 9999") (by decide +kernel) dX6_pass_33 dX6_pass_36 dX6_pass_37 dX6_pass_39 dX6_pass_42 () rfl ⟨rfl, pass_1 hz1 hz2 i7 c_30⟩ (by decide) (by decide) (by decide) (by decide) (by decide) (by decide)
    · skip
      subst hQ
      exact xe_throwS C hl0 th_X6_137_141 hno (is := 225) (text := "the days are not between 1 and 90") (by decide +kernel) dX6_pass_11 dX6_pass_14 dX6_pass_15 dX6_pass_17 dX6_pass_20 () rfl (by simp [cdPass, inB, c_2, c_8, Int32.not_le.mp c_8]) (by decide) (by decide) (by decide) (by decide) (by decide) (by decide)

abbrev rX6_day : Room := { frames := 0, cells := 0, slots := 0, locals := 0 }
set_option maxHeartbeats 4000000 in
set_option maxRecDepth 100000 in
theorem mX6_day (l : Launch) (G : gG) (B0 : Nat) (ad : Nat → Nat) (F : va_W) (S : SA) (hI : IA S) : Met l yX6_day (Cond.code yX6_day cX6_day 1 (some .int) :: WG) rX6_day (va_Pc [.ref (ad 0)] (PR G B0 (wA G ad S ++ F))) (va_Qi (fun (r : Int32) (_ : Unit) => r = nI (S.1 7)) (fun (_ : Unit) (t_ : State) => va_P G.1 vwCl (wA G ad S ++ F) t_.heap ∧ va_D (fun q => B0 ≤ q) (wA G ad S ++ F)) (fun q => B0 ≤ q)) rX6_day.cells rX6_day.slots (fun q => B0 ≤ q) := by
  refine met_of RX6 [(0, .ref (ad 0))] rfl (by decide) (Nat.le_of_ble_eq_true rfl) rfl ?_
  intro p e s m args below meth c C hr hnm
  refine yq ?_
  intro QQ hQ
  obtain ⟨i0, i1, i2, i3, i4, i5, i6, i7, i8, iJ, iH, iG, iQ⟩ := id hI
  refine yy_aload_n C 0 dX6_day_0 (pc' := 1) rfl rfl rfl ?_
  refine yy_get C (v := .int (nI (S.1 7))) fk_X6_120 0 dX6_day_1 (pc' := 4) rfl rfl rfl ?_
  subst hQ
  exact ye_i C hr (vp_nar_int _) () dX6_day_4 rfl (by decide) (by decide) rfl

abbrev rX6_late : Room := { frames := 1, cells := 0, slots := 0, locals := 23 }
set_option maxHeartbeats 4000000 in
set_option maxRecDepth 100000 in
theorem mX6_late (l : Launch) (G : gG) (B0 : Nat) (ad : Nat → Nat) (F : va_W) (S : SA) (hI : IA S) : Met l yX6_late (Cond.code yX6_late cX6_late 1 (some .int) :: WG) rX6_late (va_Pc [.ref (ad 0)] (PR G B0 (wA G ad S ++ F))) (va_Qi (fun (r : Int32) (_ : Unit) => r = nI (lateC (S.1 6) (S.2.1 17) (S.2.1 18) (S.1 7))) (fun (_ : Unit) (t_ : State) => va_P G.1 vwCl (wA G ad S ++ F) t_.heap ∧ va_D (fun q => B0 ≤ q) (wA G ad S ++ F)) (fun q => B0 ≤ q)) rX6_late.cells rX6_late.slots (fun q => B0 ≤ q) := by
  refine met_of RX6 [(0, .ref (ad 0))] rfl (by decide) (Nat.le_of_ble_eq_true rfl) rfl ?_
  intro p e s m args below meth c C hr hnm
  refine yq ?_
  intro QQ hQ
  obtain ⟨i0, i1, i2, i3, i4, i5, i6, i7, i8, iJ, iH, iG, iQ⟩ := id hI
  refine yy_aload_n C 0 dX6_late_0 (pc' := 1) rfl rfl rfl ?_
  refine yy_get C (v := .ref (ad 6)) fk_X6_47 0 dX6_late_1 (pc' := 4) rfl rfl rfl ?_
  refine yy_aload_n C 0 dX6_late_4 (pc' := 5) rfl rfl rfl ?_
  refine yy_get C (v := .int (nI (S.1 7))) fk_X6_120 0 dX6_late_5 (pc' := 8) rfl rfl rfl ?_
  refine yc_i (yr_V C (As := [.int (nI (S.1 7))]) (rest := []) lk_X6_229 cd_X3_countLate im_X3_countLate se_X3_countLate (mX3_countLate l G B0 ad F (S) (S.1 7) (by exact hI)) ⟨by decide, by decide⟩ ⟨by decide, by decide⟩ 6 rfl rfl rfl rfl (Nat.le_of_ble_eq_true rfl) dX6_late_8) (pc' := 11) rfl (fun r1 _ hw1 => ?_)
  subst hw1
  subst hQ
  exact ye_i C hr (vp_nar_int _) () dX6_late_11 rfl (by decide) (by decide) rfl

abbrev rX6_fees : Room := { frames := 0, cells := 0, slots := 0, locals := 0 }
set_option maxHeartbeats 4000000 in
set_option maxRecDepth 100000 in
theorem mX6_fees (l : Launch) (G : gG) (B0 : Nat) (ad : Nat → Nat) (F : va_W) (S : SA) (hI : IA S) : Met l yX6_fees (Cond.code yX6_fees cX6_fees 1 (some .long) :: WG) rX6_fees (va_Pc [.ref (ad 0)] (PR G B0 (wA G ad S ++ F))) (va_Ql (fun (r : Int64) (_ : Unit) => r = lN (S.1 9)) (fun (_ : Unit) (t_ : State) => va_P G.1 vwCl (wA G ad S ++ F) t_.heap ∧ va_D (fun q => B0 ≤ q) (wA G ad S ++ F)) (fun q => B0 ≤ q)) rX6_fees.cells rX6_fees.slots (fun q => B0 ≤ q) := by
  refine met_of RX6 [(0, .ref (ad 0))] rfl (by decide) (Nat.le_of_ble_eq_true rfl) rfl ?_
  intro p e s m args below meth c C hr hnm
  refine yq ?_
  intro QQ hQ
  obtain ⟨i0, i1, i2, i3, i4, i5, i6, i7, i8, iJ, iH, iG, iQ⟩ := id hI
  refine yy_aload_n C 0 dX6_fees_0 (pc' := 1) rfl rfl rfl ?_
  refine yy_get C (v := .long (lN (S.1 9))) fk_X6_232 0 dX6_fees_1 (pc' := 4) rfl rfl rfl ?_
  subst hQ
  exact ye_l C hr () dX6_fees_4 rfl (by decide) (by decide) rfl

abbrev rX6_answeredShare : Room := { frames := 6, cells := 1, slots := 6, locals := 92 }
set_option maxHeartbeats 4000000 in
set_option maxRecDepth 100000 in
theorem mX6_answeredShare (l : Launch) (hl0 : l.stackTraces = false) (G : gG) (B0 : Nat) (ad : Nat → Nat) (F : va_W) (S : SA) (hI : IA S) : vy_Met l yX6_answeredShare (Cond.code yX6_answeredShare cX6_answeredShare 2 (some .float) :: WG) rX6_answeredShare (va_Pc [.ref (ad 0)] (PR G B0 (wA G ad S ++ F))) (va_Qf (fun (r : UInt32) (_ : Unit) => cdShare (S.1 6) = 0 ∧ r = shareF (fb_ct (fun k => decide (S.2.1 17 k = nI 97)) (S.1 6)) (S.1 6)) (fun (_ : Unit) (t_ : State) => va_P G.1 vwCl (wA G ad S ++ F) t_.heap ∧ va_D (fun q => B0 ≤ q) (wA G ad S ++ F)) (fun q => B0 ≤ q)) (vx_X (fun _ : Unit => True) (fun (E : String) (_ : Unit) (t_ : State) => (E = "java/util/NoSuchElementException" ∧ cdShare (S.1 6) = 1) ∧ va_P G.1 vwCl (wA G ad S ++ F) t_.heap ∧ va_D (fun q => B0 ≤ q) (wA G ad S ++ F)) (fun q => B0 ≤ q)) rX6_answeredShare.cells rX6_answeredShare.slots (fun q => B0 ≤ q) := by
  refine xmet_of RX6 [(0, .ref (ad 0))] rfl (by decide) (Nat.le_of_ble_eq_true rfl) rfl ?_
  intro p e s m args below meth c C hr hnm hno
  refine yq ?_
  intro QQ hQ
  obtain ⟨i0, i1, i2, i3, i4, i5, i6, i7, i8, iJ, iH, iG, iQ⟩ := id hI
  refine yy_aload_n C 0 dX6_answeredShare_0 (pc' := 1) rfl rfl rfl ?_
  refine yy_get C (v := .ref (ad 6)) fk_X6_47 0 dX6_answeredShare_1 (pc' := 4) rfl rfl rfl ?_
  refine yy_get C (v := .int (nI (S.1 6))) fk_X6_236 6 dX6_answeredShare_4 (pc' := 7) rfl rfl rfl ?_
  refine yy_istore_n C (L' := [(1, .int (nI (S.1 6))), (0, .ref (ad 0))]) dX6_answeredShare_7 (pc' := 8) rfl rfl (by decide) rfl ?_
  refine yy_iload_n C 0 dX6_answeredShare_8 (pc' := 9) rfl rfl rfl ?_
  refine yy_if_gt C dX6_answeredShare_9 (pc' := 12) rfl (tgt := 22) (by decide) (fun c_9 => ?_) (fun c_9 => ?_)
  · skip
    have hq0 : 0 < S.1 6 := by
      rcases Nat.eq_zero_or_pos (S.1 6) with hz | hz
      · rw [hz] at c_9; exact absurd c_9 (by decide)
      · exact hz
    refine yy_aload_n C 1 dX6_answeredShare_22 (pc' := 23) rfl rfl rfl ?_
    refine yy_get C (v := .ref (ad 6)) fk_X6_47 0 dX6_answeredShare_23 (pc' := 26) rfl rfl rfl ?_
    refine yy_bipush C (v := (nI 97)) dX6_answeredShare_26 (pc' := 28) rfl (by decide) ?_
    refine yc_i (yr_V C (As := [.int (nI 97)]) (rest := []) lk_X6_217 cd_X3_countInState im_X3_countInState se_X3_countInState (mX3_countInState l G B0 ad F (S) (nI 97) (by exact hI)) ⟨by decide, by decide⟩ ⟨by decide, by decide⟩ 6 rfl rfl rfl rfl (Nat.le_of_ble_eq_true rfl) dX6_answeredShare_28) (pc' := 31) rfl (fun r1 _ hw1 => ?_)
    subst hw1
    refine yy_i2f C dX6_answeredShare_31 (pc' := 32) rfl ?_
    refine yy_iload_n C 0 dX6_answeredShare_32 (pc' := 33) rfl rfl rfl ?_
    refine yy_i2f C dX6_answeredShare_33 (pc' := 34) rfl ?_
    refine yy_fdiv C dX6_answeredShare_34 (pc' := 35) rfl (share_ok _ (Nat.lt_of_le_of_lt (fb_ct_le _ _) (by omega)) _ (by omega) hq0) ?_
    subst hQ
    exact xe_f C hr () dX6_answeredShare_35 rfl (by decide) (by decide) ⟨by rw [cdShare, if_neg (by omega)], rfl⟩
  · skip
    subst hQ
    exact xe_throwX C hl0 thN (by decide +kernel) (by decide +kernel) (by decide +kernel) (by decide +kernel) hno (is := 239) (text := "there are no requests") (by decide +kernel) dX6_answeredShare_12 dX6_answeredShare_15 dX6_answeredShare_16 dX6_answeredShare_18 dX6_answeredShare_21 () rfl ⟨rfl, share_1 i6 c_9⟩ (by decide) (by decide) (by decide) (by decide) (by decide) (by decide)
