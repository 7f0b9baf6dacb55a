theorem dX3_init_0 : decode cX3_init 0 = .ok (.aload_n 0, 1) := by decide +kernel
theorem dX3_init_1 : decode cX3_init 1 = .ok (.invokespecial 3, 3) := by decide +kernel
theorem dX3_init_4 : decode cX3_init 4 = .ok (.aload_n 0, 1) := by decide +kernel
theorem dX3_init_5 : decode cX3_init 5 = .ok (.bipush 20, 2) := by decide +kernel
theorem dX3_init_7 : decode cX3_init 7 = .ok (.newarray .int, 2) := by decide +kernel
theorem dX3_init_9 : decode cX3_init 9 = .ok (.putfield 9, 3) := by decide +kernel
theorem dX3_init_12 : decode cX3_init 12 = .ok (.aload_n 0, 1) := by decide +kernel
theorem dX3_init_13 : decode cX3_init 13 = .ok (.bipush 20, 2) := by decide +kernel
theorem dX3_init_15 : decode cX3_init 15 = .ok (.newarray .int, 2) := by decide +kernel
theorem dX3_init_17 : decode cX3_init 17 = .ok (.putfield 15, 3) := by decide +kernel
theorem dX3_init_20 : decode cX3_init 20 = .ok (.aload_n 0, 1) := by decide +kernel
theorem dX3_init_21 : decode cX3_init 21 = .ok (.bipush 20, 2) := by decide +kernel
theorem dX3_init_23 : decode cX3_init 23 = .ok (.newarray .char, 2) := by decide +kernel
theorem dX3_init_25 : decode cX3_init 25 = .ok (.putfield 18, 3) := by decide +kernel
theorem dX3_init_28 : decode cX3_init 28 = .ok (.aload_n 0, 1) := by decide +kernel
theorem dX3_init_29 : decode cX3_init 29 = .ok (.bipush 20, 2) := by decide +kernel
theorem dX3_init_31 : decode cX3_init 31 = .ok (.newarray .int, 2) := by decide +kernel
theorem dX3_init_33 : decode cX3_init 33 = .ok (.putfield 22, 3) := by decide +kernel
theorem dX3_init_36 : decode cX3_init 36 = .ok (.return_, 1) := by decide +kernel
theorem dX3_append_0 : decode cX3_append 0 = .ok (.aload_n 0, 1) := by decide +kernel
theorem dX3_append_1 : decode cX3_append 1 = .ok (.getfield 25, 3) := by decide +kernel
theorem dX3_append_4 : decode cX3_append 4 = .ok (.bipush 20, 2) := by decide +kernel
theorem dX3_append_6 : decode cX3_append 6 = .ok (.if_icmp .lt 13, 3) := by decide +kernel
theorem dX3_append_9 : decode cX3_append 9 = .ok (.new 29, 3) := by decide +kernel
theorem dX3_append_12 : decode cX3_append 12 = .ok (.dup, 1) := by decide +kernel
theorem dX3_append_13 : decode cX3_append 13 = .ok (.ldc 31, 2) := by decide +kernel
theorem dX3_append_15 : decode cX3_append 15 = .ok (.invokespecial 33, 3) := by decide +kernel
theorem dX3_append_18 : decode cX3_append 18 = .ok (.athrow, 1) := by decide +kernel
theorem dX3_append_19 : decode cX3_append 19 = .ok (.aload_n 0, 1) := by decide +kernel
theorem dX3_append_20 : decode cX3_append 20 = .ok (.getfield 9, 3) := by decide +kernel
theorem dX3_append_23 : decode cX3_append 23 = .ok (.aload_n 0, 1) := by decide +kernel
theorem dX3_append_24 : decode cX3_append 24 = .ok (.getfield 25, 3) := by decide +kernel
theorem dX3_append_27 : decode cX3_append 27 = .ok (.iload_n 1, 1) := by decide +kernel
theorem dX3_append_28 : decode cX3_append 28 = .ok (.iastore, 1) := by decide +kernel
theorem dX3_append_29 : decode cX3_append 29 = .ok (.aload_n 0, 1) := by decide +kernel
theorem dX3_append_30 : decode cX3_append 30 = .ok (.getfield 15, 3) := by decide +kernel
theorem dX3_append_33 : decode cX3_append 33 = .ok (.aload_n 0, 1) := by decide +kernel
theorem dX3_append_34 : decode cX3_append 34 = .ok (.getfield 25, 3) := by decide +kernel
theorem dX3_append_37 : decode cX3_append 37 = .ok (.iload_n 2, 1) := by decide +kernel
theorem dX3_append_38 : decode cX3_append 38 = .ok (.iastore, 1) := by decide +kernel
theorem dX3_append_39 : decode cX3_append 39 = .ok (.aload_n 0, 1) := by decide +kernel
theorem dX3_append_40 : decode cX3_append 40 = .ok (.getfield 18, 3) := by decide +kernel
theorem dX3_append_43 : decode cX3_append 43 = .ok (.aload_n 0, 1) := by decide +kernel
theorem dX3_append_44 : decode cX3_append 44 = .ok (.getfield 25, 3) := by decide +kernel
theorem dX3_append_47 : decode cX3_append 47 = .ok (.bipush 119, 2) := by decide +kernel
theorem dX3_append_49 : decode cX3_append 49 = .ok (.castore, 1) := by decide +kernel
theorem dX3_append_50 : decode cX3_append 50 = .ok (.aload_n 0, 1) := by decide +kernel
theorem dX3_append_51 : decode cX3_append 51 = .ok (.getfield 22, 3) := by decide +kernel
theorem dX3_append_54 : decode cX3_append 54 = .ok (.aload_n 0, 1) := by decide +kernel
theorem dX3_append_55 : decode cX3_append 55 = .ok (.getfield 25, 3) := by decide +kernel
theorem dX3_append_58 : decode cX3_append 58 = .ok (.iload_n 3, 1) := by decide +kernel
theorem dX3_append_59 : decode cX3_append 59 = .ok (.iastore, 1) := by decide +kernel
theorem dX3_append_60 : decode cX3_append 60 = .ok (.aload_n 0, 1) := by decide +kernel
theorem dX3_append_61 : decode cX3_append 61 = .ok (.dup, 1) := by decide +kernel
theorem dX3_append_62 : decode cX3_append 62 = .ok (.getfield 25, 3) := by decide +kernel
theorem dX3_append_65 : decode cX3_append 65 = .ok (.iconst 1, 1) := by decide +kernel
theorem dX3_append_66 : decode cX3_append 66 = .ok (.iadd, 1) := by decide +kernel
theorem dX3_append_67 : decode cX3_append 67 = .ok (.putfield 25, 3) := by decide +kernel
theorem dX3_append_70 : decode cX3_append 70 = .ok (.aload_n 0, 1) := by decide +kernel
theorem dX3_append_71 : decode cX3_append 71 = .ok (.getfield 25, 3) := by decide +kernel
theorem dX3_append_74 : decode cX3_append 74 = .ok (.iconst 1, 1) := by decide +kernel
theorem dX3_append_75 : decode cX3_append 75 = .ok (.isub, 1) := by decide +kernel
theorem dX3_append_76 : decode cX3_append 76 = .ok (.ireturn, 1) := by decide +kernel
theorem dX3_isWaiting_0 : decode cX3_isWaiting 0 = .ok (.iconst 0, 1) := by decide +kernel
theorem dX3_isWaiting_1 : decode cX3_isWaiting 1 = .ok (.istore_n 3, 1) := by decide +kernel
theorem dX3_isWaiting_2 : decode cX3_isWaiting 2 = .ok (.iload_n 3, 1) := by decide +kernel
theorem dX3_isWaiting_3 : decode cX3_isWaiting 3 = .ok (.aload_n 0, 1) := by decide +kernel
theorem dX3_isWaiting_4 : decode cX3_isWaiting 4 = .ok (.getfield 25, 3) := by decide +kernel
theorem dX3_isWaiting_7 : decode cX3_isWaiting 7 = .ok (.if_icmp .ge 42, 3) := by decide +kernel
theorem dX3_isWaiting_10 : decode cX3_isWaiting 10 = .ok (.aload_n 0, 1) := by decide +kernel
theorem dX3_isWaiting_11 : decode cX3_isWaiting 11 = .ok (.getfield 18, 3) := by decide +kernel
theorem dX3_isWaiting_14 : decode cX3_isWaiting 14 = .ok (.iload_n 3, 1) := by decide +kernel
theorem dX3_isWaiting_15 : decode cX3_isWaiting 15 = .ok (.caload, 1) := by decide +kernel
theorem dX3_isWaiting_16 : decode cX3_isWaiting 16 = .ok (.bipush 119, 2) := by decide +kernel
theorem dX3_isWaiting_18 : decode cX3_isWaiting 18 = .ok (.if_icmp .ne 25, 3) := by decide +kernel
theorem dX3_isWaiting_21 : decode cX3_isWaiting 21 = .ok (.aload_n 0, 1) := by decide +kernel
theorem dX3_isWaiting_22 : decode cX3_isWaiting 22 = .ok (.getfield 9, 3) := by decide +kernel
theorem dX3_isWaiting_25 : decode cX3_isWaiting 25 = .ok (.iload_n 3, 1) := by decide +kernel
theorem dX3_isWaiting_26 : decode cX3_isWaiting 26 = .ok (.iaload, 1) := by decide +kernel
theorem dX3_isWaiting_27 : decode cX3_isWaiting 27 = .ok (.iload_n 1, 1) := by decide +kernel
theorem dX3_isWaiting_28 : decode cX3_isWaiting 28 = .ok (.if_icmp .ne 15, 3) := by decide +kernel
theorem dX3_isWaiting_31 : decode cX3_isWaiting 31 = .ok (.aload_n 0, 1) := by decide +kernel
theorem dX3_isWaiting_32 : decode cX3_isWaiting 32 = .ok (.getfield 15, 3) := by decide +kernel
theorem dX3_isWaiting_35 : decode cX3_isWaiting 35 = .ok (.iload_n 3, 1) := by decide +kernel
theorem dX3_isWaiting_36 : decode cX3_isWaiting 36 = .ok (.iaload, 1) := by decide +kernel
theorem dX3_isWaiting_37 : decode cX3_isWaiting 37 = .ok (.iload_n 2, 1) := by decide +kernel
theorem dX3_isWaiting_38 : decode cX3_isWaiting 38 = .ok (.if_icmp .ne 5, 3) := by decide +kernel
theorem dX3_isWaiting_41 : decode cX3_isWaiting 41 = .ok (.iconst 1, 1) := by decide +kernel
theorem dX3_isWaiting_42 : decode cX3_isWaiting 42 = .ok (.ireturn, 1) := by decide +kernel
theorem dX3_isWaiting_43 : decode cX3_isWaiting 43 = .ok (.iinc 3 1, 3) := by decide +kernel
theorem dX3_isWaiting_46 : decode cX3_isWaiting 46 = .ok (.goto (-44), 3) := by decide +kernel
theorem dX3_isWaiting_49 : decode cX3_isWaiting 49 = .ok (.iconst 0, 1) := by decide +kernel
theorem dX3_isWaiting_50 : decode cX3_isWaiting 50 = .ok (.ireturn, 1) := by decide +kernel
theorem dX3_countInState_0 : decode cX3_countInState 0 = .ok (.iconst 0, 1) := by decide +kernel
theorem dX3_countInState_1 : decode cX3_countInState 1 = .ok (.istore_n 2, 1) := by decide +kernel
theorem dX3_countInState_2 : decode cX3_countInState 2 = .ok (.iconst 0, 1) := by decide +kernel
theorem dX3_countInState_3 : decode cX3_countInState 3 = .ok (.istore_n 3, 1) := by decide +kernel
theorem dX3_countInState_4 : decode cX3_countInState 4 = .ok (.iload_n 3, 1) := by decide +kernel
theorem dX3_countInState_5 : decode cX3_countInState 5 = .ok (.aload_n 0, 1) := by decide +kernel
theorem dX3_countInState_6 : decode cX3_countInState 6 = .ok (.getfield 25, 3) := by decide +kernel
theorem dX3_countInState_9 : decode cX3_countInState 9 = .ok (.if_icmp .ge 22, 3) := by decide +kernel
theorem dX3_countInState_12 : decode cX3_countInState 12 = .ok (.aload_n 0, 1) := by decide +kernel
theorem dX3_countInState_13 : decode cX3_countInState 13 = .ok (.getfield 18, 3) := by decide +kernel
theorem dX3_countInState_16 : decode cX3_countInState 16 = .ok (.iload_n 3, 1) := by decide +kernel
theorem dX3_countInState_17 : decode cX3_countInState 17 = .ok (.caload, 1) := by decide +kernel
theorem dX3_countInState_18 : decode cX3_countInState 18 = .ok (.iload_n 1, 1) := by decide +kernel
theorem dX3_countInState_19 : decode cX3_countInState 19 = .ok (.if_icmp .ne 6, 3) := by decide +kernel
theorem dX3_countInState_22 : decode cX3_countInState 22 = .ok (.iinc 2 1, 3) := by decide +kernel
theorem dX3_countInState_25 : decode cX3_countInState 25 = .ok (.iinc 3 1, 3) := by decide +kernel
theorem dX3_countInState_28 : decode cX3_countInState 28 = .ok (.goto (-24), 3) := by decide +kernel
theorem dX3_countInState_31 : decode cX3_countInState 31 = .ok (.iload_n 2, 1) := by decide +kernel
theorem dX3_countInState_32 : decode cX3_countInState 32 = .ok (.ireturn, 1) := by decide +kernel
theorem dX3_countLate_0 : decode cX3_countLate 0 = .ok (.iconst 0, 1) := by decide +kernel
theorem dX3_countLate_1 : decode cX3_countLate 1 = .ok (.istore_n 2, 1) := by decide +kernel
theorem dX3_countLate_2 : decode cX3_countLate 2 = .ok (.iconst 0, 1) := by decide +kernel
theorem dX3_countLate_3 : decode cX3_countLate 3 = .ok (.istore_n 3, 1) := by decide +kernel
theorem dX3_countLate_4 : decode cX3_countLate 4 = .ok (.iload_n 3, 1) := by decide +kernel
theorem dX3_countLate_5 : decode cX3_countLate 5 = .ok (.aload_n 0, 1) := by decide +kernel
theorem dX3_countLate_6 : decode cX3_countLate 6 = .ok (.getfield 25, 3) := by decide +kernel
theorem dX3_countLate_9 : decode cX3_countLate 9 = .ok (.if_icmp .ge 36, 3) := by decide +kernel
theorem dX3_countLate_12 : decode cX3_countLate 12 = .ok (.aload_n 0, 1) := by decide +kernel
theorem dX3_countLate_13 : decode cX3_countLate 13 = .ok (.getfield 18, 3) := by decide +kernel
theorem dX3_countLate_16 : decode cX3_countLate 16 = .ok (.iload_n 3, 1) := by decide +kernel
theorem dX3_countLate_17 : decode cX3_countLate 17 = .ok (.caload, 1) := by decide +kernel
theorem dX3_countLate_18 : decode cX3_countLate 18 = .ok (.bipush 119, 2) := by decide +kernel
theorem dX3_countLate_20 : decode cX3_countLate 20 = .ok (.if_icmp .ne 19, 3) := by decide +kernel
theorem dX3_countLate_23 : decode cX3_countLate 23 = .ok (.iload_n 1, 1) := by decide +kernel
theorem dX3_countLate_24 : decode cX3_countLate 24 = .ok (.aload_n 0, 1) := by decide +kernel
theorem dX3_countLate_25 : decode cX3_countLate 25 = .ok (.getfield 22, 3) := by decide +kernel
theorem dX3_countLate_28 : decode cX3_countLate 28 = .ok (.iload_n 3, 1) := by decide +kernel
theorem dX3_countLate_29 : decode cX3_countLate 29 = .ok (.iaload, 1) := by decide +kernel
theorem dX3_countLate_30 : decode cX3_countLate 30 = .ok (.isub, 1) := by decide +kernel
theorem dX3_countLate_31 : decode cX3_countLate 31 = .ok (.bipush 20, 2) := by decide +kernel
theorem dX3_countLate_33 : decode cX3_countLate 33 = .ok (.if_icmp .le 6, 3) := by decide +kernel
theorem dX3_countLate_36 : decode cX3_countLate 36 = .ok (.iinc 2 1, 3) := by decide +kernel
theorem dX3_countLate_39 : decode cX3_countLate 39 = .ok (.iinc 3 1, 3) := by decide +kernel
theorem dX3_countLate_42 : decode cX3_countLate 42 = .ok (.goto (-38), 3) := by decide +kernel
theorem dX3_countLate_45 : decode cX3_countLate 45 = .ok (.iload_n 2, 1) := by decide +kernel
theorem dX3_countLate_46 : decode cX3_countLate 46 = .ok (.ireturn, 1) := by decide +kernel
