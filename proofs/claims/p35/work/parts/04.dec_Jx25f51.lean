theorem dJx25f51_pow10_3e8ac_0 : decode cJx25f51_pow10_3e8ac 0 = .ok (.getstatic 14, 3) := by decide +kernel
theorem dJx25f51_pow10_3e8ac_3 : decode cJx25f51_pow10_3e8ac 3 = .ok (.iload_n 0, 1) := by decide +kernel
theorem dJx25f51_pow10_3e8ac_4 : decode cJx25f51_pow10_3e8ac 4 = .ok (.laload, 1) := by decide +kernel
theorem dJx25f51_pow10_3e8ac_5 : decode cJx25f51_pow10_3e8ac 5 = .ok (.lreturn, 1) := by decide +kernel
theorem dJx25f51_flog10pow2_0f7a4_0 : decode cJx25f51_flog10pow2_0f7a4 0 = .ok (.iload_n 0, 1) := by decide +kernel
theorem dJx25f51_flog10pow2_0f7a4_1 : decode cJx25f51_flog10pow2_0f7a4 1 = .ok (.i2l, 1) := by decide +kernel
theorem dJx25f51_flog10pow2_0f7a4_2 : decode cJx25f51_flog10pow2_0f7a4 2 = .ok (.ldc2_w 20, 3) := by decide +kernel
theorem dJx25f51_flog10pow2_0f7a4_5 : decode cJx25f51_flog10pow2_0f7a4 5 = .ok (.lmul, 1) := by decide +kernel
theorem dJx25f51_flog10pow2_0f7a4_6 : decode cJx25f51_flog10pow2_0f7a4 6 = .ok (.bipush 41, 2) := by decide +kernel
theorem dJx25f51_flog10pow2_0f7a4_8 : decode cJx25f51_flog10pow2_0f7a4 8 = .ok (.lshr, 1) := by decide +kernel
theorem dJx25f51_flog10pow2_0f7a4_9 : decode cJx25f51_flog10pow2_0f7a4 9 = .ok (.l2i, 1) := by decide +kernel
theorem dJx25f51_flog10pow2_0f7a4_10 : decode cJx25f51_flog10pow2_0f7a4 10 = .ok (.ireturn, 1) := by decide +kernel
theorem dJx25f51_flog10threeQuartersPow2_0f7a4_0 : decode cJx25f51_flog10threeQuartersPow2_0f7a4 0 = .ok (.iload_n 0, 1) := by decide +kernel
theorem dJx25f51_flog10threeQuartersPow2_0f7a4_1 : decode cJx25f51_flog10threeQuartersPow2_0f7a4 1 = .ok (.i2l, 1) := by decide +kernel
theorem dJx25f51_flog10threeQuartersPow2_0f7a4_2 : decode cJx25f51_flog10threeQuartersPow2_0f7a4 2 = .ok (.ldc2_w 20, 3) := by decide +kernel
theorem dJx25f51_flog10threeQuartersPow2_0f7a4_5 : decode cJx25f51_flog10threeQuartersPow2_0f7a4 5 = .ok (.lmul, 1) := by decide +kernel
theorem dJx25f51_flog10threeQuartersPow2_0f7a4_6 : decode cJx25f51_flog10threeQuartersPow2_0f7a4 6 = .ok (.ldc2_w 22, 3) := by decide +kernel
theorem dJx25f51_flog10threeQuartersPow2_0f7a4_9 : decode cJx25f51_flog10threeQuartersPow2_0f7a4 9 = .ok (.ladd, 1) := by decide +kernel
theorem dJx25f51_flog10threeQuartersPow2_0f7a4_10 : decode cJx25f51_flog10threeQuartersPow2_0f7a4 10 = .ok (.bipush 41, 2) := by decide +kernel
theorem dJx25f51_flog10threeQuartersPow2_0f7a4_12 : decode cJx25f51_flog10threeQuartersPow2_0f7a4 12 = .ok (.lshr, 1) := by decide +kernel
theorem dJx25f51_flog10threeQuartersPow2_0f7a4_13 : decode cJx25f51_flog10threeQuartersPow2_0f7a4 13 = .ok (.l2i, 1) := by decide +kernel
theorem dJx25f51_flog10threeQuartersPow2_0f7a4_14 : decode cJx25f51_flog10threeQuartersPow2_0f7a4 14 = .ok (.ireturn, 1) := by decide +kernel
theorem dJx25f51_flog2pow10_0f7a4_0 : decode cJx25f51_flog2pow10_0f7a4 0 = .ok (.iload_n 0, 1) := by decide +kernel
theorem dJx25f51_flog2pow10_0f7a4_1 : decode cJx25f51_flog2pow10_0f7a4 1 = .ok (.i2l, 1) := by decide +kernel
theorem dJx25f51_flog2pow10_0f7a4_2 : decode cJx25f51_flog2pow10_0f7a4 2 = .ok (.ldc2_w 24, 3) := by decide +kernel
theorem dJx25f51_flog2pow10_0f7a4_5 : decode cJx25f51_flog2pow10_0f7a4 5 = .ok (.lmul, 1) := by decide +kernel
theorem dJx25f51_flog2pow10_0f7a4_6 : decode cJx25f51_flog2pow10_0f7a4 6 = .ok (.bipush 38, 2) := by decide +kernel
theorem dJx25f51_flog2pow10_0f7a4_8 : decode cJx25f51_flog2pow10_0f7a4 8 = .ok (.lshr, 1) := by decide +kernel
theorem dJx25f51_flog2pow10_0f7a4_9 : decode cJx25f51_flog2pow10_0f7a4 9 = .ok (.l2i, 1) := by decide +kernel
theorem dJx25f51_flog2pow10_0f7a4_10 : decode cJx25f51_flog2pow10_0f7a4 10 = .ok (.ireturn, 1) := by decide +kernel
theorem dJx25f51_g1_3e8ac_0 : decode cJx25f51_g1_3e8ac 0 = .ok (.getstatic 26, 3) := by decide +kernel
theorem dJx25f51_g1_3e8ac_3 : decode cJx25f51_g1_3e8ac 3 = .ok (.iload_n 0, 1) := by decide +kernel
theorem dJx25f51_g1_3e8ac_4 : decode cJx25f51_g1_3e8ac 4 = .ok (.sipush (-324), 3) := by decide +kernel
theorem dJx25f51_g1_3e8ac_7 : decode cJx25f51_g1_3e8ac 7 = .ok (.isub, 1) := by decide +kernel
theorem dJx25f51_g1_3e8ac_8 : decode cJx25f51_g1_3e8ac 8 = .ok (.iconst 1, 1) := by decide +kernel
theorem dJx25f51_g1_3e8ac_9 : decode cJx25f51_g1_3e8ac 9 = .ok (.ishl, 1) := by decide +kernel
theorem dJx25f51_g1_3e8ac_10 : decode cJx25f51_g1_3e8ac 10 = .ok (.laload, 1) := by decide +kernel
theorem dJx25f51_g1_3e8ac_11 : decode cJx25f51_g1_3e8ac 11 = .ok (.lreturn, 1) := by decide +kernel
