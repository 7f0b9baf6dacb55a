theorem dX4_init_0 : decode cX4_init 0 = .ok (.aload_n 0, 1) := by decide +kernel
theorem dX4_init_1 : decode cX4_init 1 = .ok (.invokespecial 3, 3) := by decide +kernel
theorem dX4_init_4 : decode cX4_init 4 = .ok (.aload_n 0, 1) := by decide +kernel
theorem dX4_init_5 : decode cX4_init 5 = .ok (.bipush 8, 2) := by decide +kernel
theorem dX4_init_7 : decode cX4_init 7 = .ok (.newarray .int, 2) := by decide +kernel
theorem dX4_init_9 : decode cX4_init 9 = .ok (.putfield 9, 3) := by decide +kernel
theorem dX4_init_12 : decode cX4_init 12 = .ok (.aload_n 0, 1) := by decide +kernel
theorem dX4_init_13 : decode cX4_init 13 = .ok (.bipush 8, 2) := by decide +kernel
theorem dX4_init_15 : decode cX4_init 15 = .ok (.newarray .int, 2) := by decide +kernel
theorem dX4_init_17 : decode cX4_init 17 = .ok (.putfield 15, 3) := by decide +kernel
theorem dX4_init_20 : decode cX4_init 20 = .ok (.aload_n 0, 1) := by decide +kernel
theorem dX4_init_21 : decode cX4_init 21 = .ok (.bipush 8, 2) := by decide +kernel
theorem dX4_init_23 : decode cX4_init 23 = .ok (.newarray .int, 2) := by decide +kernel
theorem dX4_init_25 : decode cX4_init 25 = .ok (.putfield 18, 3) := by decide +kernel
theorem dX4_init_28 : decode cX4_init 28 = .ok (.return_, 1) := by decide +kernel
theorem dX4_append_0 : decode cX4_append 0 = .ok (.aload_n 0, 1) := by decide +kernel
theorem dX4_append_1 : decode cX4_append 1 = .ok (.getfield 21, 3) := by decide +kernel
theorem dX4_append_4 : decode cX4_append 4 = .ok (.bipush 8, 2) := by decide +kernel
theorem dX4_append_6 : decode cX4_append 6 = .ok (.if_icmp .lt 13, 3) := by decide +kernel
theorem dX4_append_9 : decode cX4_append 9 = .ok (.new 25, 3) := by decide +kernel
theorem dX4_append_12 : decode cX4_append 12 = .ok (.dup, 1) := by decide +kernel
theorem dX4_append_13 : decode cX4_append 13 = .ok (.ldc 27, 2) := by decide +kernel
theorem dX4_append_15 : decode cX4_append 15 = .ok (.invokespecial 29, 3) := by decide +kernel
theorem dX4_append_18 : decode cX4_append 18 = .ok (.athrow, 1) := by decide +kernel
theorem dX4_append_19 : decode cX4_append 19 = .ok (.aload_n 0, 1) := by decide +kernel
theorem dX4_append_20 : decode cX4_append 20 = .ok (.getfield 9, 3) := by decide +kernel
theorem dX4_append_23 : decode cX4_append 23 = .ok (.aload_n 0, 1) := by decide +kernel
theorem dX4_append_24 : decode cX4_append 24 = .ok (.getfield 21, 3) := by decide +kernel
theorem dX4_append_27 : decode cX4_append 27 = .ok (.iload_n 1, 1) := by decide +kernel
theorem dX4_append_28 : decode cX4_append 28 = .ok (.iastore, 1) := by decide +kernel
theorem dX4_append_29 : decode cX4_append 29 = .ok (.aload_n 0, 1) := by decide +kernel
theorem dX4_append_30 : decode cX4_append 30 = .ok (.getfield 15, 3) := by decide +kernel
theorem dX4_append_33 : decode cX4_append 33 = .ok (.aload_n 0, 1) := by decide +kernel
theorem dX4_append_34 : decode cX4_append 34 = .ok (.getfield 21, 3) := by decide +kernel
theorem dX4_append_37 : decode cX4_append 37 = .ok (.iload_n 2, 1) := by decide +kernel
theorem dX4_append_38 : decode cX4_append 38 = .ok (.iastore, 1) := by decide +kernel
theorem dX4_append_39 : decode cX4_append 39 = .ok (.aload_n 0, 1) := by decide +kernel
theorem dX4_append_40 : decode cX4_append 40 = .ok (.getfield 18, 3) := by decide +kernel
theorem dX4_append_43 : decode cX4_append 43 = .ok (.aload_n 0, 1) := by decide +kernel
theorem dX4_append_44 : decode cX4_append 44 = .ok (.getfield 21, 3) := by decide +kernel
theorem dX4_append_47 : decode cX4_append 47 = .ok (.iload_n 3, 1) := by decide +kernel
theorem dX4_append_48 : decode cX4_append 48 = .ok (.iastore, 1) := by decide +kernel
theorem dX4_append_49 : decode cX4_append 49 = .ok (.aload_n 0, 1) := by decide +kernel
theorem dX4_append_50 : decode cX4_append 50 = .ok (.dup, 1) := by decide +kernel
theorem dX4_append_51 : decode cX4_append 51 = .ok (.getfield 21, 3) := by decide +kernel
theorem dX4_append_54 : decode cX4_append 54 = .ok (.iconst 1, 1) := by decide +kernel
theorem dX4_append_55 : decode cX4_append 55 = .ok (.iadd, 1) := by decide +kernel
theorem dX4_append_56 : decode cX4_append 56 = .ok (.putfield 21, 3) := by decide +kernel
theorem dX4_append_59 : decode cX4_append 59 = .ok (.aload_n 0, 1) := by decide +kernel
theorem dX4_append_60 : decode cX4_append 60 = .ok (.getfield 21, 3) := by decide +kernel
theorem dX4_append_63 : decode cX4_append 63 = .ok (.iconst 1, 1) := by decide +kernel
theorem dX4_append_64 : decode cX4_append 64 = .ok (.isub, 1) := by decide +kernel
theorem dX4_append_65 : decode cX4_append 65 = .ok (.ireturn, 1) := by decide +kernel
theorem dX4_hide_0 : decode cX4_hide 0 = .ok (.iconst 0, 1) := by decide +kernel
theorem dX4_hide_1 : decode cX4_hide 1 = .ok (.istore_n 3, 1) := by decide +kernel
theorem dX4_hide_2 : decode cX4_hide 2 = .ok (.iload_n 3, 1) := by decide +kernel
theorem dX4_hide_3 : decode cX4_hide 3 = .ok (.aload_n 0, 1) := by decide +kernel
theorem dX4_hide_4 : decode cX4_hide 4 = .ok (.getfield 21, 3) := by decide +kernel
theorem dX4_hide_7 : decode cX4_hide 7 = .ok (.if_icmp .ge 41, 3) := by decide +kernel
theorem dX4_hide_10 : decode cX4_hide 10 = .ok (.iload_n 2, 1) := by decide +kernel
theorem dX4_hide_11 : decode cX4_hide 11 = .ok (.aload_n 0, 1) := by decide +kernel
theorem dX4_hide_12 : decode cX4_hide 12 = .ok (.getfield 18, 3) := by decide +kernel
theorem dX4_hide_15 : decode cX4_hide 15 = .ok (.iload_n 3, 1) := by decide +kernel
theorem dX4_hide_16 : decode cX4_hide 16 = .ok (.iaload, 1) := by decide +kernel
theorem dX4_hide_17 : decode cX4_hide 17 = .ok (.if_icmp .gt 25, 3) := by decide +kernel
theorem dX4_hide_20 : decode cX4_hide 20 = .ok (.aload_n 0, 1) := by decide +kernel
theorem dX4_hide_21 : decode cX4_hide 21 = .ok (.getfield 9, 3) := by decide +kernel
theorem dX4_hide_24 : decode cX4_hide 24 = .ok (.iload_n 3, 1) := by decide +kernel
theorem dX4_hide_25 : decode cX4_hide 25 = .ok (.iaload, 1) := by decide +kernel
theorem dX4_hide_26 : decode cX4_hide 26 = .ok (.iload_n 1, 1) := by decide +kernel
theorem dX4_hide_27 : decode cX4_hide 27 = .ok (.if_icmp .gt 15, 3) := by decide +kernel
theorem dX4_hide_30 : decode cX4_hide 30 = .ok (.iload_n 1, 1) := by decide +kernel
theorem dX4_hide_31 : decode cX4_hide 31 = .ok (.aload_n 0, 1) := by decide +kernel
theorem dX4_hide_32 : decode cX4_hide 32 = .ok (.getfield 15, 3) := by decide +kernel
theorem dX4_hide_35 : decode cX4_hide 35 = .ok (.iload_n 3, 1) := by decide +kernel
theorem dX4_hide_36 : decode cX4_hide 36 = .ok (.iaload, 1) := by decide +kernel
theorem dX4_hide_37 : decode cX4_hide 37 = .ok (.if_icmp .gt 5, 3) := by decide +kernel
theorem dX4_hide_40 : decode cX4_hide 40 = .ok (.iconst 1, 1) := by decide +kernel
theorem dX4_hide_41 : decode cX4_hide 41 = .ok (.ireturn, 1) := by decide +kernel
theorem dX4_hide_42 : decode cX4_hide 42 = .ok (.iinc 3 1, 3) := by decide +kernel
theorem dX4_hide_45 : decode cX4_hide 45 = .ok (.goto (-43), 3) := by decide +kernel
theorem dX4_hide_48 : decode cX4_hide 48 = .ok (.iconst 0, 1) := by decide +kernel
theorem dX4_hide_49 : decode cX4_hide 49 = .ok (.ireturn, 1) := by decide +kernel
