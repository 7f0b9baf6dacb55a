theorem dX5_init_0 : decode cX5_init 0 = .ok (.aload_n 0, 1) := by decide +kernel
theorem dX5_init_1 : decode cX5_init 1 = .ok (.invokespecial 3, 3) := by decide +kernel
theorem dX5_init_4 : decode cX5_init 4 = .ok (.aload_n 0, 1) := by decide +kernel
theorem dX5_init_5 : decode cX5_init 5 = .ok (.bipush 12, 2) := by decide +kernel
theorem dX5_init_7 : decode cX5_init 7 = .ok (.newarray .int, 2) := by decide +kernel
theorem dX5_init_9 : decode cX5_init 9 = .ok (.putfield 9, 3) := by decide +kernel
theorem dX5_init_12 : decode cX5_init 12 = .ok (.aload_n 0, 1) := by decide +kernel
theorem dX5_init_13 : decode cX5_init 13 = .ok (.bipush 12, 2) := by decide +kernel
theorem dX5_init_15 : decode cX5_init 15 = .ok (.newarray .int, 2) := by decide +kernel
theorem dX5_init_17 : decode cX5_init 17 = .ok (.putfield 15, 3) := by decide +kernel
theorem dX5_init_20 : decode cX5_init 20 = .ok (.aload_n 0, 1) := by decide +kernel
theorem dX5_init_21 : decode cX5_init 21 = .ok (.bipush 12, 2) := by decide +kernel
theorem dX5_init_23 : decode cX5_init 23 = .ok (.newarray .int, 2) := by decide +kernel
theorem dX5_init_25 : decode cX5_init 25 = .ok (.putfield 18, 3) := by decide +kernel
theorem dX5_init_28 : decode cX5_init 28 = .ok (.aload_n 0, 1) := by decide +kernel
theorem dX5_init_29 : decode cX5_init 29 = .ok (.bipush 12, 2) := by decide +kernel
theorem dX5_init_31 : decode cX5_init 31 = .ok (.newarray .int, 2) := by decide +kernel
theorem dX5_init_33 : decode cX5_init 33 = .ok (.putfield 21, 3) := by decide +kernel
theorem dX5_init_36 : decode cX5_init 36 = .ok (.return_, 1) := by decide +kernel
theorem dX5_append_0 : decode cX5_append 0 = .ok (.aload_n 0, 1) := by decide +kernel
theorem dX5_append_1 : decode cX5_append 1 = .ok (.getfield 24, 3) := by decide +kernel
theorem dX5_append_4 : decode cX5_append 4 = .ok (.bipush 12, 2) := by decide +kernel
theorem dX5_append_6 : decode cX5_append 6 = .ok (.if_icmp .lt 13, 3) := by decide +kernel
theorem dX5_append_9 : decode cX5_append 9 = .ok (.new 28, 3) := by decide +kernel
theorem dX5_append_12 : decode cX5_append 12 = .ok (.dup, 1) := by decide +kernel
theorem dX5_append_13 : decode cX5_append 13 = .ok (.ldc 30, 2) := by decide +kernel
theorem dX5_append_15 : decode cX5_append 15 = .ok (.invokespecial 32, 3) := by decide +kernel
theorem dX5_append_18 : decode cX5_append 18 = .ok (.athrow, 1) := by decide +kernel
theorem dX5_append_19 : decode cX5_append 19 = .ok (.aload_n 0, 1) := by decide +kernel
theorem dX5_append_20 : decode cX5_append 20 = .ok (.getfield 9, 3) := by decide +kernel
theorem dX5_append_23 : decode cX5_append 23 = .ok (.aload_n 0, 1) := by decide +kernel
theorem dX5_append_24 : decode cX5_append 24 = .ok (.getfield 24, 3) := by decide +kernel
theorem dX5_append_27 : decode cX5_append 27 = .ok (.iload_n 1, 1) := by decide +kernel
theorem dX5_append_28 : decode cX5_append 28 = .ok (.iastore, 1) := by decide +kernel
theorem dX5_append_29 : decode cX5_append 29 = .ok (.aload_n 0, 1) := by decide +kernel
theorem dX5_append_30 : decode cX5_append 30 = .ok (.getfield 15, 3) := by decide +kernel
theorem dX5_append_33 : decode cX5_append 33 = .ok (.aload_n 0, 1) := by decide +kernel
theorem dX5_append_34 : decode cX5_append 34 = .ok (.getfield 24, 3) := by decide +kernel
theorem dX5_append_37 : decode cX5_append 37 = .ok (.iload_n 2, 1) := by decide +kernel
theorem dX5_append_38 : decode cX5_append 38 = .ok (.iastore, 1) := by decide +kernel
theorem dX5_append_39 : decode cX5_append 39 = .ok (.aload_n 0, 1) := by decide +kernel
theorem dX5_append_40 : decode cX5_append 40 = .ok (.getfield 18, 3) := by decide +kernel
theorem dX5_append_43 : decode cX5_append 43 = .ok (.aload_n 0, 1) := by decide +kernel
theorem dX5_append_44 : decode cX5_append 44 = .ok (.getfield 24, 3) := by decide +kernel
theorem dX5_append_47 : decode cX5_append 47 = .ok (.iload_n 3, 1) := by decide +kernel
theorem dX5_append_48 : decode cX5_append 48 = .ok (.iastore, 1) := by decide +kernel
theorem dX5_append_49 : decode cX5_append 49 = .ok (.aload_n 0, 1) := by decide +kernel
theorem dX5_append_50 : decode cX5_append 50 = .ok (.getfield 21, 3) := by decide +kernel
theorem dX5_append_53 : decode cX5_append 53 = .ok (.aload_n 0, 1) := by decide +kernel
theorem dX5_append_54 : decode cX5_append 54 = .ok (.getfield 24, 3) := by decide +kernel
theorem dX5_append_57 : decode cX5_append 57 = .ok (.iload 4, 2) := by decide +kernel
theorem dX5_append_59 : decode cX5_append 59 = .ok (.iastore, 1) := by decide +kernel
theorem dX5_append_60 : decode cX5_append 60 = .ok (.aload_n 0, 1) := by decide +kernel
theorem dX5_append_61 : decode cX5_append 61 = .ok (.dup, 1) := by decide +kernel
theorem dX5_append_62 : decode cX5_append 62 = .ok (.getfield 24, 3) := by decide +kernel
theorem dX5_append_65 : decode cX5_append 65 = .ok (.iconst 1, 1) := by decide +kernel
theorem dX5_append_66 : decode cX5_append 66 = .ok (.iadd, 1) := by decide +kernel
theorem dX5_append_67 : decode cX5_append 67 = .ok (.putfield 24, 3) := by decide +kernel
theorem dX5_append_70 : decode cX5_append 70 = .ok (.aload_n 0, 1) := by decide +kernel
theorem dX5_append_71 : decode cX5_append 71 = .ok (.getfield 24, 3) := by decide +kernel
theorem dX5_append_74 : decode cX5_append 74 = .ok (.iconst 1, 1) := by decide +kernel
theorem dX5_append_75 : decode cX5_append 75 = .ok (.isub, 1) := by decide +kernel
theorem dX5_append_76 : decode cX5_append 76 = .ok (.ireturn, 1) := by decide +kernel
theorem dX5_has_0 : decode cX5_has 0 = .ok (.iload_n 1, 1) := by decide +kernel
theorem dX5_has_1 : decode cX5_has 1 = .ok (.ifCond .lt 15, 3) := by decide +kernel
theorem dX5_has_4 : decode cX5_has 4 = .ok (.iload_n 1, 1) := by decide +kernel
theorem dX5_has_5 : decode cX5_has 5 = .ok (.aload_n 0, 1) := by decide +kernel
theorem dX5_has_6 : decode cX5_has 6 = .ok (.getfield 24, 3) := by decide +kernel
theorem dX5_has_9 : decode cX5_has 9 = .ok (.if_icmp .ge 7, 3) := by decide +kernel
theorem dX5_has_12 : decode cX5_has 12 = .ok (.iconst 1, 1) := by decide +kernel
theorem dX5_has_13 : decode cX5_has 13 = .ok (.goto 4, 3) := by decide +kernel
theorem dX5_has_16 : decode cX5_has 16 = .ok (.iconst 0, 1) := by decide +kernel
theorem dX5_has_17 : decode cX5_has 17 = .ok (.ireturn, 1) := by decide +kernel
theorem dX5_hide_0 : decode cX5_hide 0 = .ok (.iconst 0, 1) := by decide +kernel
theorem dX5_hide_1 : decode cX5_hide 1 = .ok (.istore 4, 2) := by decide +kernel
theorem dX5_hide_3 : decode cX5_hide 3 = .ok (.iload 4, 2) := by decide +kernel
theorem dX5_hide_5 : decode cX5_hide 5 = .ok (.aload_n 0, 1) := by decide +kernel
theorem dX5_hide_6 : decode cX5_hide 6 = .ok (.getfield 24, 3) := by decide +kernel
theorem dX5_hide_9 : decode cX5_hide 9 = .ok (.if_icmp .ge 55, 3) := by decide +kernel
theorem dX5_hide_12 : decode cX5_hide 12 = .ok (.iload_n 3, 1) := by decide +kernel
theorem dX5_hide_13 : decode cX5_hide 13 = .ok (.aload_n 0, 1) := by decide +kernel
theorem dX5_hide_14 : decode cX5_hide 14 = .ok (.getfield 21, 3) := by decide +kernel
theorem dX5_hide_17 : decode cX5_hide 17 = .ok (.iload 4, 2) := by decide +kernel
theorem dX5_hide_19 : decode cX5_hide 19 = .ok (.iaload, 1) := by decide +kernel
theorem dX5_hide_20 : decode cX5_hide 20 = .ok (.if_icmp .gt 38, 3) := by decide +kernel
theorem dX5_hide_23 : decode cX5_hide 23 = .ok (.aload_n 0, 1) := by decide +kernel
theorem dX5_hide_24 : decode cX5_hide 24 = .ok (.getfield 9, 3) := by decide +kernel
theorem dX5_hide_27 : decode cX5_hide 27 = .ok (.iload 4, 2) := by decide +kernel
theorem dX5_hide_29 : decode cX5_hide 29 = .ok (.iaload, 1) := by decide +kernel
theorem dX5_hide_30 : decode cX5_hide 30 = .ok (.iload_n 1, 1) := by decide +kernel
theorem dX5_hide_31 : decode cX5_hide 31 = .ok (.if_icmp .ne 27, 3) := by decide +kernel
theorem dX5_hide_34 : decode cX5_hide 34 = .ok (.aload_n 0, 1) := by decide +kernel
theorem dX5_hide_35 : decode cX5_hide 35 = .ok (.getfield 15, 3) := by decide +kernel
theorem dX5_hide_38 : decode cX5_hide 38 = .ok (.iload 4, 2) := by decide +kernel
theorem dX5_hide_40 : decode cX5_hide 40 = .ok (.iaload, 1) := by decide +kernel
theorem dX5_hide_41 : decode cX5_hide 41 = .ok (.iload_n 2, 1) := by decide +kernel
theorem dX5_hide_42 : decode cX5_hide 42 = .ok (.if_icmp .gt 16, 3) := by decide +kernel
theorem dX5_hide_45 : decode cX5_hide 45 = .ok (.iload_n 2, 1) := by decide +kernel
theorem dX5_hide_46 : decode cX5_hide 46 = .ok (.aload_n 0, 1) := by decide +kernel
theorem dX5_hide_47 : decode cX5_hide 47 = .ok (.getfield 18, 3) := by decide +kernel
theorem dX5_hide_50 : decode cX5_hide 50 = .ok (.iload 4, 2) := by decide +kernel
theorem dX5_hide_52 : decode cX5_hide 52 = .ok (.iaload, 1) := by decide +kernel
theorem dX5_hide_53 : decode cX5_hide 53 = .ok (.if_icmp .gt 5, 3) := by decide +kernel
theorem dX5_hide_56 : decode cX5_hide 56 = .ok (.iconst 1, 1) := by decide +kernel
theorem dX5_hide_57 : decode cX5_hide 57 = .ok (.ireturn, 1) := by decide +kernel
theorem dX5_hide_58 : decode cX5_hide 58 = .ok (.iinc 4 1, 3) := by decide +kernel
theorem dX5_hide_61 : decode cX5_hide 61 = .ok (.goto (-58), 3) := by decide +kernel
theorem dX5_hide_64 : decode cX5_hide 64 = .ok (.iconst 0, 1) := by decide +kernel
theorem dX5_hide_65 : decode cX5_hide 65 = .ok (.ireturn, 1) := by decide +kernel
