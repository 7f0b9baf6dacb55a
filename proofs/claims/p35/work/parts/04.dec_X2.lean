theorem dX2_init_0 : decode cX2_init 0 = .ok (.aload_n 0, 1) := by decide +kernel
theorem dX2_init_1 : decode cX2_init 1 = .ok (.invokespecial 3, 3) := by decide +kernel
theorem dX2_init_4 : decode cX2_init 4 = .ok (.aload_n 0, 1) := by decide +kernel
theorem dX2_init_5 : decode cX2_init 5 = .ok (.sipush 200, 3) := by decide +kernel
theorem dX2_init_8 : decode cX2_init 8 = .ok (.newarray .int, 2) := by decide +kernel
theorem dX2_init_10 : decode cX2_init 10 = .ok (.putfield 9, 3) := by decide +kernel
theorem dX2_init_13 : decode cX2_init 13 = .ok (.aload_n 0, 1) := by decide +kernel
theorem dX2_init_14 : decode cX2_init 14 = .ok (.sipush 200, 3) := by decide +kernel
theorem dX2_init_17 : decode cX2_init 17 = .ok (.newarray .int, 2) := by decide +kernel
theorem dX2_init_19 : decode cX2_init 19 = .ok (.putfield 15, 3) := by decide +kernel
theorem dX2_init_22 : decode cX2_init 22 = .ok (.return_, 1) := by decide +kernel
theorem dX2_append_0 : decode cX2_append 0 = .ok (.aload_n 0, 1) := by decide +kernel
theorem dX2_append_1 : decode cX2_append 1 = .ok (.getfield 18, 3) := by decide +kernel
theorem dX2_append_4 : decode cX2_append 4 = .ok (.sipush 200, 3) := by decide +kernel
theorem dX2_append_7 : decode cX2_append 7 = .ok (.if_icmp .lt 4, 3) := by decide +kernel
theorem dX2_append_10 : decode cX2_append 10 = .ok (.return_, 1) := by decide +kernel
theorem dX2_append_11 : decode cX2_append 11 = .ok (.aload_n 0, 1) := by decide +kernel
theorem dX2_append_12 : decode cX2_append 12 = .ok (.getfield 9, 3) := by decide +kernel
theorem dX2_append_15 : decode cX2_append 15 = .ok (.aload_n 0, 1) := by decide +kernel
theorem dX2_append_16 : decode cX2_append 16 = .ok (.getfield 18, 3) := by decide +kernel
theorem dX2_append_19 : decode cX2_append 19 = .ok (.iload_n 1, 1) := by decide +kernel
theorem dX2_append_20 : decode cX2_append 20 = .ok (.iastore, 1) := by decide +kernel
theorem dX2_append_21 : decode cX2_append 21 = .ok (.aload_n 0, 1) := by decide +kernel
theorem dX2_append_22 : decode cX2_append 22 = .ok (.getfield 15, 3) := by decide +kernel
theorem dX2_append_25 : decode cX2_append 25 = .ok (.aload_n 0, 1) := by decide +kernel
theorem dX2_append_26 : decode cX2_append 26 = .ok (.getfield 18, 3) := by decide +kernel
theorem dX2_append_29 : decode cX2_append 29 = .ok (.iload_n 2, 1) := by decide +kernel
theorem dX2_append_30 : decode cX2_append 30 = .ok (.iastore, 1) := by decide +kernel
theorem dX2_append_31 : decode cX2_append 31 = .ok (.aload_n 0, 1) := by decide +kernel
theorem dX2_append_32 : decode cX2_append 32 = .ok (.dup, 1) := by decide +kernel
theorem dX2_append_33 : decode cX2_append 33 = .ok (.getfield 18, 3) := by decide +kernel
theorem dX2_append_36 : decode cX2_append 36 = .ok (.iconst 1, 1) := by decide +kernel
theorem dX2_append_37 : decode cX2_append 37 = .ok (.iadd, 1) := by decide +kernel
theorem dX2_append_38 : decode cX2_append 38 = .ok (.putfield 18, 3) := by decide +kernel
theorem dX2_append_41 : decode cX2_append 41 = .ok (.return_, 1) := by decide +kernel
theorem dX2_linesGivenTo_0 : decode cX2_linesGivenTo 0 = .ok (.lconst 0, 1) := by decide +kernel
theorem dX2_linesGivenTo_1 : decode cX2_linesGivenTo 1 = .ok (.lstore_n 2, 1) := by decide +kernel
theorem dX2_linesGivenTo_2 : decode cX2_linesGivenTo 2 = .ok (.iconst 0, 1) := by decide +kernel
theorem dX2_linesGivenTo_3 : decode cX2_linesGivenTo 3 = .ok (.istore 4, 2) := by decide +kernel
theorem dX2_linesGivenTo_5 : decode cX2_linesGivenTo 5 = .ok (.iload 4, 2) := by decide +kernel
theorem dX2_linesGivenTo_7 : decode cX2_linesGivenTo 7 = .ok (.aload_n 0, 1) := by decide +kernel
theorem dX2_linesGivenTo_8 : decode cX2_linesGivenTo 8 = .ok (.getfield 18, 3) := by decide +kernel
theorem dX2_linesGivenTo_11 : decode cX2_linesGivenTo 11 = .ok (.if_icmp .ge 33, 3) := by decide +kernel
theorem dX2_linesGivenTo_14 : decode cX2_linesGivenTo 14 = .ok (.aload_n 0, 1) := by decide +kernel
theorem dX2_linesGivenTo_15 : decode cX2_linesGivenTo 15 = .ok (.getfield 9, 3) := by decide +kernel
theorem dX2_linesGivenTo_18 : decode cX2_linesGivenTo 18 = .ok (.iload 4, 2) := by decide +kernel
theorem dX2_linesGivenTo_20 : decode cX2_linesGivenTo 20 = .ok (.iaload, 1) := by decide +kernel
theorem dX2_linesGivenTo_21 : decode cX2_linesGivenTo 21 = .ok (.iload_n 1, 1) := by decide +kernel
theorem dX2_linesGivenTo_22 : decode cX2_linesGivenTo 22 = .ok (.if_icmp .ne 16, 3) := by decide +kernel
theorem dX2_linesGivenTo_25 : decode cX2_linesGivenTo 25 = .ok (.lload_n 2, 1) := by decide +kernel
theorem dX2_linesGivenTo_26 : decode cX2_linesGivenTo 26 = .ok (.aload_n 0, 1) := by decide +kernel
theorem dX2_linesGivenTo_27 : decode cX2_linesGivenTo 27 = .ok (.getfield 15, 3) := by decide +kernel
theorem dX2_linesGivenTo_30 : decode cX2_linesGivenTo 30 = .ok (.iload 4, 2) := by decide +kernel
theorem dX2_linesGivenTo_32 : decode cX2_linesGivenTo 32 = .ok (.iaload, 1) := by decide +kernel
theorem dX2_linesGivenTo_33 : decode cX2_linesGivenTo 33 = .ok (.invokestatic 22, 3) := by decide +kernel
theorem dX2_linesGivenTo_36 : decode cX2_linesGivenTo 36 = .ok (.lor, 1) := by decide +kernel
theorem dX2_linesGivenTo_37 : decode cX2_linesGivenTo 37 = .ok (.lstore_n 2, 1) := by decide +kernel
theorem dX2_linesGivenTo_38 : decode cX2_linesGivenTo 38 = .ok (.iinc 4 1, 3) := by decide +kernel
theorem dX2_linesGivenTo_41 : decode cX2_linesGivenTo 41 = .ok (.goto (-36), 3) := by decide +kernel
theorem dX2_linesGivenTo_44 : decode cX2_linesGivenTo 44 = .ok (.lload_n 2, 1) := by decide +kernel
theorem dX2_linesGivenTo_45 : decode cX2_linesGivenTo 45 = .ok (.lreturn, 1) := by decide +kernel
