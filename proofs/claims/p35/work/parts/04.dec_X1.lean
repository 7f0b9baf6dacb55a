theorem dX1_init_0 : decode cX1_init 0 = .ok (.aload_n 0, 1) := by decide +kernel
theorem dX1_init_1 : decode cX1_init 1 = .ok (.invokespecial 3, 3) := by decide +kernel
theorem dX1_init_4 : decode cX1_init 4 = .ok (.aload_n 0, 1) := by decide +kernel
theorem dX1_init_5 : decode cX1_init 5 = .ok (.bipush 8, 2) := by decide +kernel
theorem dX1_init_7 : decode cX1_init 7 = .ok (.newarray .int, 2) := by decide +kernel
theorem dX1_init_9 : decode cX1_init 9 = .ok (.putfield 9, 3) := by decide +kernel
theorem dX1_init_12 : decode cX1_init 12 = .ok (.aload_n 0, 1) := by decide +kernel
theorem dX1_init_13 : decode cX1_init 13 = .ok (.bipush 40, 2) := by decide +kernel
theorem dX1_init_15 : decode cX1_init 15 = .ok (.newarray .int, 2) := by decide +kernel
theorem dX1_init_17 : decode cX1_init 17 = .ok (.putfield 15, 3) := by decide +kernel
theorem dX1_init_20 : decode cX1_init 20 = .ok (.aload_n 0, 1) := by decide +kernel
theorem dX1_init_21 : decode cX1_init 21 = .ok (.bipush 40, 2) := by decide +kernel
theorem dX1_init_23 : decode cX1_init 23 = .ok (.newarray .int, 2) := by decide +kernel
theorem dX1_init_25 : decode cX1_init 25 = .ok (.putfield 18, 3) := by decide +kernel
theorem dX1_init_28 : decode cX1_init 28 = .ok (.aload_n 0, 1) := by decide +kernel
theorem dX1_init_29 : decode cX1_init 29 = .ok (.bipush 40, 2) := by decide +kernel
theorem dX1_init_31 : decode cX1_init 31 = .ok (.newarray .int, 2) := by decide +kernel
theorem dX1_init_33 : decode cX1_init 33 = .ok (.putfield 21, 3) := by decide +kernel
theorem dX1_init_36 : decode cX1_init 36 = .ok (.return_, 1) := by decide +kernel
theorem dX1_appendDocument_0 : decode cX1_appendDocument 0 = .ok (.aload_n 0, 1) := by decide +kernel
theorem dX1_appendDocument_1 : decode cX1_appendDocument 1 = .ok (.getfield 24, 3) := by decide +kernel
theorem dX1_appendDocument_4 : decode cX1_appendDocument 4 = .ok (.bipush 8, 2) := by decide +kernel
theorem dX1_appendDocument_6 : decode cX1_appendDocument 6 = .ok (.if_icmp .lt 13, 3) := by decide +kernel
theorem dX1_appendDocument_9 : decode cX1_appendDocument 9 = .ok (.new 28, 3) := by decide +kernel
theorem dX1_appendDocument_12 : decode cX1_appendDocument 12 = .ok (.dup, 1) := by decide +kernel
theorem dX1_appendDocument_13 : decode cX1_appendDocument 13 = .ok (.ldc 30, 2) := by decide +kernel
theorem dX1_appendDocument_15 : decode cX1_appendDocument 15 = .ok (.invokespecial 32, 3) := by decide +kernel
theorem dX1_appendDocument_18 : decode cX1_appendDocument 18 = .ok (.athrow, 1) := by decide +kernel
theorem dX1_appendDocument_19 : decode cX1_appendDocument 19 = .ok (.aload_n 0, 1) := by decide +kernel
theorem dX1_appendDocument_20 : decode cX1_appendDocument 20 = .ok (.dup, 1) := by decide +kernel
theorem dX1_appendDocument_21 : decode cX1_appendDocument 21 = .ok (.getfield 24, 3) := by decide +kernel
theorem dX1_appendDocument_24 : decode cX1_appendDocument 24 = .ok (.iconst 1, 1) := by decide +kernel
theorem dX1_appendDocument_25 : decode cX1_appendDocument 25 = .ok (.iadd, 1) := by decide +kernel
theorem dX1_appendDocument_26 : decode cX1_appendDocument 26 = .ok (.putfield 24, 3) := by decide +kernel
theorem dX1_appendDocument_29 : decode cX1_appendDocument 29 = .ok (.aload_n 0, 1) := by decide +kernel
theorem dX1_appendDocument_30 : decode cX1_appendDocument 30 = .ok (.getfield 24, 3) := by decide +kernel
theorem dX1_appendDocument_33 : decode cX1_appendDocument 33 = .ok (.iconst 1, 1) := by decide +kernel
theorem dX1_appendDocument_34 : decode cX1_appendDocument 34 = .ok (.isub, 1) := by decide +kernel
theorem dX1_appendDocument_35 : decode cX1_appendDocument 35 = .ok (.ireturn, 1) := by decide +kernel
theorem dX1_append_0 : decode cX1_append 0 = .ok (.aload_n 0, 1) := by decide +kernel
theorem dX1_append_1 : decode cX1_append 1 = .ok (.getfield 35, 3) := by decide +kernel
theorem dX1_append_4 : decode cX1_append 4 = .ok (.bipush 40, 2) := by decide +kernel
theorem dX1_append_6 : decode cX1_append 6 = .ok (.if_icmp .lt 13, 3) := by decide +kernel
theorem dX1_append_9 : decode cX1_append 9 = .ok (.new 28, 3) := by decide +kernel
theorem dX1_append_12 : decode cX1_append 12 = .ok (.dup, 1) := by decide +kernel
theorem dX1_append_13 : decode cX1_append 13 = .ok (.ldc 38, 2) := by decide +kernel
theorem dX1_append_15 : decode cX1_append 15 = .ok (.invokespecial 32, 3) := by decide +kernel
theorem dX1_append_18 : decode cX1_append 18 = .ok (.athrow, 1) := by decide +kernel
theorem dX1_append_19 : decode cX1_append 19 = .ok (.aload_n 0, 1) := by decide +kernel
theorem dX1_append_20 : decode cX1_append 20 = .ok (.getfield 15, 3) := by decide +kernel
theorem dX1_append_23 : decode cX1_append 23 = .ok (.aload_n 0, 1) := by decide +kernel
theorem dX1_append_24 : decode cX1_append 24 = .ok (.getfield 35, 3) := by decide +kernel
theorem dX1_append_27 : decode cX1_append 27 = .ok (.iload_n 1, 1) := by decide +kernel
theorem dX1_append_28 : decode cX1_append 28 = .ok (.iastore, 1) := by decide +kernel
theorem dX1_append_29 : decode cX1_append 29 = .ok (.aload_n 0, 1) := by decide +kernel
theorem dX1_append_30 : decode cX1_append 30 = .ok (.getfield 18, 3) := by decide +kernel
theorem dX1_append_33 : decode cX1_append 33 = .ok (.aload_n 0, 1) := by decide +kernel
theorem dX1_append_34 : decode cX1_append 34 = .ok (.getfield 35, 3) := by decide +kernel
theorem dX1_append_37 : decode cX1_append 37 = .ok (.aload_n 0, 1) := by decide +kernel
theorem dX1_append_38 : decode cX1_append 38 = .ok (.getfield 9, 3) := by decide +kernel
theorem dX1_append_41 : decode cX1_append 41 = .ok (.iload_n 1, 1) := by decide +kernel
theorem dX1_append_42 : decode cX1_append 42 = .ok (.iaload, 1) := by decide +kernel
theorem dX1_append_43 : decode cX1_append 43 = .ok (.iastore, 1) := by decide +kernel
theorem dX1_append_44 : decode cX1_append 44 = .ok (.aload_n 0, 1) := by decide +kernel
theorem dX1_append_45 : decode cX1_append 45 = .ok (.getfield 21, 3) := by decide +kernel
theorem dX1_append_48 : decode cX1_append 48 = .ok (.aload_n 0, 1) := by decide +kernel
theorem dX1_append_49 : decode cX1_append 49 = .ok (.getfield 35, 3) := by decide +kernel
theorem dX1_append_52 : decode cX1_append 52 = .ok (.iload_n 2, 1) := by decide +kernel
theorem dX1_append_53 : decode cX1_append 53 = .ok (.iastore, 1) := by decide +kernel
theorem dX1_append_54 : decode cX1_append 54 = .ok (.aload_n 0, 1) := by decide +kernel
theorem dX1_append_55 : decode cX1_append 55 = .ok (.getfield 9, 3) := by decide +kernel
theorem dX1_append_58 : decode cX1_append 58 = .ok (.iload_n 1, 1) := by decide +kernel
theorem dX1_append_59 : decode cX1_append 59 = .ok (.dup2, 1) := by decide +kernel
theorem dX1_append_60 : decode cX1_append 60 = .ok (.iaload, 1) := by decide +kernel
theorem dX1_append_61 : decode cX1_append 61 = .ok (.iconst 1, 1) := by decide +kernel
theorem dX1_append_62 : decode cX1_append 62 = .ok (.iadd, 1) := by decide +kernel
theorem dX1_append_63 : decode cX1_append 63 = .ok (.iastore, 1) := by decide +kernel
theorem dX1_append_64 : decode cX1_append 64 = .ok (.aload_n 0, 1) := by decide +kernel
theorem dX1_append_65 : decode cX1_append 65 = .ok (.dup, 1) := by decide +kernel
theorem dX1_append_66 : decode cX1_append 66 = .ok (.getfield 35, 3) := by decide +kernel
theorem dX1_append_69 : decode cX1_append 69 = .ok (.iconst 1, 1) := by decide +kernel
theorem dX1_append_70 : decode cX1_append 70 = .ok (.iadd, 1) := by decide +kernel
theorem dX1_append_71 : decode cX1_append 71 = .ok (.putfield 35, 3) := by decide +kernel
theorem dX1_append_74 : decode cX1_append 74 = .ok (.aload_n 0, 1) := by decide +kernel
theorem dX1_append_75 : decode cX1_append 75 = .ok (.getfield 35, 3) := by decide +kernel
theorem dX1_append_78 : decode cX1_append 78 = .ok (.iconst 1, 1) := by decide +kernel
theorem dX1_append_79 : decode cX1_append 79 = .ok (.isub, 1) := by decide +kernel
theorem dX1_append_80 : decode cX1_append 80 = .ok (.ireturn, 1) := by decide +kernel
