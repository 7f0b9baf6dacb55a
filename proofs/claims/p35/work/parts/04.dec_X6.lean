theorem dX6_init_0 : decode cX6_init 0 = .ok (.aload_n 0, 1) := by decide +kernel
theorem dX6_init_1 : decode cX6_init 1 = .ok (.invokespecial 3, 3) := by decide +kernel
theorem dX6_init_4 : decode cX6_init 4 = .ok (.aload_n 0, 1) := by decide +kernel
theorem dX6_init_5 : decode cX6_init 5 = .ok (.new 9, 3) := by decide +kernel
theorem dX6_init_8 : decode cX6_init 8 = .ok (.dup, 1) := by decide +kernel
theorem dX6_init_9 : decode cX6_init 9 = .ok (.invokespecial 11, 3) := by decide +kernel
theorem dX6_init_12 : decode cX6_init 12 = .ok (.putfield 12, 3) := by decide +kernel
theorem dX6_init_15 : decode cX6_init 15 = .ok (.aload_n 0, 1) := by decide +kernel
theorem dX6_init_16 : decode cX6_init 16 = .ok (.new 16, 3) := by decide +kernel
theorem dX6_init_19 : decode cX6_init 19 = .ok (.dup, 1) := by decide +kernel
theorem dX6_init_20 : decode cX6_init 20 = .ok (.invokespecial 18, 3) := by decide +kernel
theorem dX6_init_23 : decode cX6_init 23 = .ok (.putfield 19, 3) := by decide +kernel
theorem dX6_init_26 : decode cX6_init 26 = .ok (.aload_n 0, 1) := by decide +kernel
theorem dX6_init_27 : decode cX6_init 27 = .ok (.new 23, 3) := by decide +kernel
theorem dX6_init_30 : decode cX6_init 30 = .ok (.dup, 1) := by decide +kernel
theorem dX6_init_31 : decode cX6_init 31 = .ok (.invokespecial 25, 3) := by decide +kernel
theorem dX6_init_34 : decode cX6_init 34 = .ok (.putfield 26, 3) := by decide +kernel
theorem dX6_init_37 : decode cX6_init 37 = .ok (.aload_n 0, 1) := by decide +kernel
theorem dX6_init_38 : decode cX6_init 38 = .ok (.new 30, 3) := by decide +kernel
theorem dX6_init_41 : decode cX6_init 41 = .ok (.dup, 1) := by decide +kernel
theorem dX6_init_42 : decode cX6_init 42 = .ok (.invokespecial 32, 3) := by decide +kernel
theorem dX6_init_45 : decode cX6_init 45 = .ok (.putfield 33, 3) := by decide +kernel
theorem dX6_init_48 : decode cX6_init 48 = .ok (.aload_n 0, 1) := by decide +kernel
theorem dX6_init_49 : decode cX6_init 49 = .ok (.new 37, 3) := by decide +kernel
theorem dX6_init_52 : decode cX6_init 52 = .ok (.dup, 1) := by decide +kernel
theorem dX6_init_53 : decode cX6_init 53 = .ok (.invokespecial 39, 3) := by decide +kernel
theorem dX6_init_56 : decode cX6_init 56 = .ok (.putfield 40, 3) := by decide +kernel
theorem dX6_init_59 : decode cX6_init 59 = .ok (.aload_n 0, 1) := by decide +kernel
theorem dX6_init_60 : decode cX6_init 60 = .ok (.new 44, 3) := by decide +kernel
theorem dX6_init_63 : decode cX6_init 63 = .ok (.dup, 1) := by decide +kernel
theorem dX6_init_64 : decode cX6_init 64 = .ok (.invokespecial 46, 3) := by decide +kernel
theorem dX6_init_67 : decode cX6_init 67 = .ok (.putfield 47, 3) := by decide +kernel
theorem dX6_init_70 : decode cX6_init 70 = .ok (.aload_n 0, 1) := by decide +kernel
theorem dX6_init_71 : decode cX6_init 71 = .ok (.iconst 5, 1) := by decide +kernel
theorem dX6_init_72 : decode cX6_init 72 = .ok (.newarray .long, 2) := by decide +kernel
theorem dX6_init_74 : decode cX6_init 74 = .ok (.putfield 51, 3) := by decide +kernel
theorem dX6_init_77 : decode cX6_init 77 = .ok (.aload_n 0, 1) := by decide +kernel
theorem dX6_init_78 : decode cX6_init 78 = .ok (.iconst 5, 1) := by decide +kernel
theorem dX6_init_79 : decode cX6_init 79 = .ok (.newarray .int, 2) := by decide +kernel
theorem dX6_init_81 : decode cX6_init 81 = .ok (.putfield 55, 3) := by decide +kernel
theorem dX6_init_84 : decode cX6_init 84 = .ok (.aload_n 0, 1) := by decide +kernel
theorem dX6_init_85 : decode cX6_init 85 = .ok (.iconst 5, 1) := by decide +kernel
theorem dX6_init_86 : decode cX6_init 86 = .ok (.putfield 59, 3) := by decide +kernel
theorem dX6_init_89 : decode cX6_init 89 = .ok (.return_, 1) := by decide +kernel
theorem dX6_addDocument_0 : decode cX6_addDocument 0 = .ok (.aload_n 0, 1) := by decide +kernel
theorem dX6_addDocument_1 : decode cX6_addDocument 1 = .ok (.getfield 12, 3) := by decide +kernel
theorem dX6_addDocument_4 : decode cX6_addDocument 4 = .ok (.invokevirtual 63, 3) := by decide +kernel
theorem dX6_addDocument_7 : decode cX6_addDocument 7 = .ok (.ireturn, 1) := by decide +kernel
theorem dX6_addLine_0 : decode cX6_addLine 0 = .ok (.aload_n 0, 1) := by decide +kernel
theorem dX6_addLine_1 : decode cX6_addLine 1 = .ok (.iload_n 1, 1) := by decide +kernel
theorem dX6_addLine_2 : decode cX6_addLine 2 = .ok (.invokevirtual 67, 3) := by decide +kernel
theorem dX6_addLine_5 : decode cX6_addLine 5 = .ok (.iload_n 2, 1) := by decide +kernel
theorem dX6_addLine_6 : decode cX6_addLine 6 = .ok (.invokestatic 71, 3) := by decide +kernel
theorem dX6_addLine_9 : decode cX6_addLine 9 = .ok (.aload_n 0, 1) := by decide +kernel
theorem dX6_addLine_10 : decode cX6_addLine 10 = .ok (.getfield 12, 3) := by decide +kernel
theorem dX6_addLine_13 : decode cX6_addLine 13 = .ok (.iload_n 1, 1) := by decide +kernel
theorem dX6_addLine_14 : decode cX6_addLine 14 = .ok (.iload_n 2, 1) := by decide +kernel
theorem dX6_addLine_15 : decode cX6_addLine 15 = .ok (.invokevirtual 74, 3) := by decide +kernel
theorem dX6_addLine_18 : decode cX6_addLine 18 = .ok (.ireturn, 1) := by decide +kernel
theorem dX6_rescan_0 : decode cX6_rescan 0 = .ok (.aload_n 0, 1) := by decide +kernel
theorem dX6_rescan_1 : decode cX6_rescan 1 = .ok (.iload_n 1, 1) := by decide +kernel
theorem dX6_rescan_2 : decode cX6_rescan 2 = .ok (.invokevirtual 78, 3) := by decide +kernel
theorem dX6_rescan_5 : decode cX6_rescan 5 = .ok (.iload_n 2, 1) := by decide +kernel
theorem dX6_rescan_6 : decode cX6_rescan 6 = .ok (.invokestatic 71, 3) := by decide +kernel
theorem dX6_rescan_9 : decode cX6_rescan 9 = .ok (.aload_n 0, 1) := by decide +kernel
theorem dX6_rescan_10 : decode cX6_rescan 10 = .ok (.getfield 12, 3) := by decide +kernel
theorem dX6_rescan_13 : decode cX6_rescan 13 = .ok (.getfield 81, 3) := by decide +kernel
theorem dX6_rescan_16 : decode cX6_rescan 16 = .ok (.iload_n 1, 1) := by decide +kernel
theorem dX6_rescan_17 : decode cX6_rescan 17 = .ok (.iaload, 1) := by decide +kernel
theorem dX6_rescan_18 : decode cX6_rescan 18 = .ok (.istore_n 3, 1) := by decide +kernel
theorem dX6_rescan_19 : decode cX6_rescan 19 = .ok (.aload_n 0, 1) := by decide +kernel
theorem dX6_rescan_20 : decode cX6_rescan 20 = .ok (.getfield 12, 3) := by decide +kernel
theorem dX6_rescan_23 : decode cX6_rescan 23 = .ok (.getfield 81, 3) := by decide +kernel
theorem dX6_rescan_26 : decode cX6_rescan 26 = .ok (.iload_n 1, 1) := by decide +kernel
theorem dX6_rescan_27 : decode cX6_rescan 27 = .ok (.iload_n 2, 1) := by decide +kernel
theorem dX6_rescan_28 : decode cX6_rescan 28 = .ok (.iastore, 1) := by decide +kernel
theorem dX6_rescan_29 : decode cX6_rescan 29 = .ok (.iload_n 3, 1) := by decide +kernel
theorem dX6_rescan_30 : decode cX6_rescan 30 = .ok (.ireturn, 1) := by decide +kernel
theorem dX6_documentOf_0 : decode cX6_documentOf 0 = .ok (.aload_n 0, 1) := by decide +kernel
theorem dX6_documentOf_1 : decode cX6_documentOf 1 = .ok (.iload_n 1, 1) := by decide +kernel
theorem dX6_documentOf_2 : decode cX6_documentOf 2 = .ok (.invokevirtual 78, 3) := by decide +kernel
theorem dX6_documentOf_5 : decode cX6_documentOf 5 = .ok (.aload_n 0, 1) := by decide +kernel
theorem dX6_documentOf_6 : decode cX6_documentOf 6 = .ok (.getfield 12, 3) := by decide +kernel
theorem dX6_documentOf_9 : decode cX6_documentOf 9 = .ok (.getfield 84, 3) := by decide +kernel
theorem dX6_documentOf_12 : decode cX6_documentOf 12 = .ok (.iload_n 1, 1) := by decide +kernel
theorem dX6_documentOf_13 : decode cX6_documentOf 13 = .ok (.iaload, 1) := by decide +kernel
theorem dX6_documentOf_14 : decode cX6_documentOf 14 = .ok (.ireturn, 1) := by decide +kernel
theorem dX6_indexOf_0 : decode cX6_indexOf 0 = .ok (.aload_n 0, 1) := by decide +kernel
theorem dX6_indexOf_1 : decode cX6_indexOf 1 = .ok (.iload_n 1, 1) := by decide +kernel
theorem dX6_indexOf_2 : decode cX6_indexOf 2 = .ok (.invokevirtual 78, 3) := by decide +kernel
theorem dX6_indexOf_5 : decode cX6_indexOf 5 = .ok (.aload_n 0, 1) := by decide +kernel
theorem dX6_indexOf_6 : decode cX6_indexOf 6 = .ok (.getfield 12, 3) := by decide +kernel
theorem dX6_indexOf_9 : decode cX6_indexOf 9 = .ok (.getfield 87, 3) := by decide +kernel
theorem dX6_indexOf_12 : decode cX6_indexOf 12 = .ok (.iload_n 1, 1) := by decide +kernel
theorem dX6_indexOf_13 : decode cX6_indexOf 13 = .ok (.iaload, 1) := by decide +kernel
theorem dX6_indexOf_14 : decode cX6_indexOf 14 = .ok (.ireturn, 1) := by decide +kernel
theorem dX6_lines_0 : decode cX6_lines 0 = .ok (.aload_n 0, 1) := by decide +kernel
theorem dX6_lines_1 : decode cX6_lines 1 = .ok (.iload_n 1, 1) := by decide +kernel
theorem dX6_lines_2 : decode cX6_lines 2 = .ok (.invokevirtual 67, 3) := by decide +kernel
theorem dX6_lines_5 : decode cX6_lines 5 = .ok (.aload_n 0, 1) := by decide +kernel
theorem dX6_lines_6 : decode cX6_lines 6 = .ok (.getfield 12, 3) := by decide +kernel
theorem dX6_lines_9 : decode cX6_lines 9 = .ok (.getfield 90, 3) := by decide +kernel
theorem dX6_lines_12 : decode cX6_lines 12 = .ok (.iload_n 1, 1) := by decide +kernel
theorem dX6_lines_13 : decode cX6_lines 13 = .ok (.iaload, 1) := by decide +kernel
theorem dX6_lines_14 : decode cX6_lines 14 = .ok (.ireturn, 1) := by decide +kernel
theorem dX6_addRule_0 : decode cX6_addRule 0 = .ok (.iload_n 1, 1) := by decide +kernel
theorem dX6_addRule_1 : decode cX6_addRule 1 = .ok (.invokestatic 71, 3) := by decide +kernel
theorem dX6_addRule_4 : decode cX6_addRule 4 = .ok (.iload_n 2, 1) := by decide +kernel
theorem dX6_addRule_5 : decode cX6_addRule 5 = .ok (.invokestatic 71, 3) := by decide +kernel
theorem dX6_addRule_8 : decode cX6_addRule 8 = .ok (.iload_n 1, 1) := by decide +kernel
theorem dX6_addRule_9 : decode cX6_addRule 9 = .ok (.iload_n 2, 1) := by decide +kernel
theorem dX6_addRule_10 : decode cX6_addRule 10 = .ok (.invokestatic 93, 3) := by decide +kernel
theorem dX6_addRule_13 : decode cX6_addRule 13 = .ok (.aload_n 0, 1) := by decide +kernel
theorem dX6_addRule_14 : decode cX6_addRule 14 = .ok (.iload_n 3, 1) := by decide +kernel
theorem dX6_addRule_15 : decode cX6_addRule 15 = .ok (.invokevirtual 97, 3) := by decide +kernel
theorem dX6_addRule_18 : decode cX6_addRule 18 = .ok (.aload_n 0, 1) := by decide +kernel
theorem dX6_addRule_19 : decode cX6_addRule 19 = .ok (.getfield 19, 3) := by decide +kernel
theorem dX6_addRule_22 : decode cX6_addRule 22 = .ok (.iload_n 1, 1) := by decide +kernel
theorem dX6_addRule_23 : decode cX6_addRule 23 = .ok (.iload_n 2, 1) := by decide +kernel
theorem dX6_addRule_24 : decode cX6_addRule 24 = .ok (.iload_n 3, 1) := by decide +kernel
theorem dX6_addRule_25 : decode cX6_addRule 25 = .ok (.invokevirtual 100, 3) := by decide +kernel
theorem dX6_addRule_28 : decode cX6_addRule 28 = .ok (.ireturn, 1) := by decide +kernel
theorem dX6_addSpan_0 : decode cX6_addSpan 0 = .ok (.aload_n 0, 1) := by decide +kernel
theorem dX6_addSpan_1 : decode cX6_addSpan 1 = .ok (.iload_n 1, 1) := by decide +kernel
theorem dX6_addSpan_2 : decode cX6_addSpan 2 = .ok (.invokevirtual 67, 3) := by decide +kernel
theorem dX6_addSpan_5 : decode cX6_addSpan 5 = .ok (.iload_n 2, 1) := by decide +kernel
theorem dX6_addSpan_6 : decode cX6_addSpan 6 = .ok (.invokestatic 103, 3) := by decide +kernel
theorem dX6_addSpan_9 : decode cX6_addSpan 9 = .ok (.iload_n 3, 1) := by decide +kernel
theorem dX6_addSpan_10 : decode cX6_addSpan 10 = .ok (.invokestatic 103, 3) := by decide +kernel
theorem dX6_addSpan_13 : decode cX6_addSpan 13 = .ok (.iload_n 2, 1) := by decide +kernel
theorem dX6_addSpan_14 : decode cX6_addSpan 14 = .ok (.iload_n 3, 1) := by decide +kernel
theorem dX6_addSpan_15 : decode cX6_addSpan 15 = .ok (.invokestatic 93, 3) := by decide +kernel
theorem dX6_addSpan_18 : decode cX6_addSpan 18 = .ok (.aload_n 0, 1) := by decide +kernel
theorem dX6_addSpan_19 : decode cX6_addSpan 19 = .ok (.iload 4, 2) := by decide +kernel
theorem dX6_addSpan_21 : decode cX6_addSpan 21 = .ok (.invokevirtual 97, 3) := by decide +kernel
theorem dX6_addSpan_24 : decode cX6_addSpan 24 = .ok (.aload_n 0, 1) := by decide +kernel
theorem dX6_addSpan_25 : decode cX6_addSpan 25 = .ok (.getfield 26, 3) := by decide +kernel
theorem dX6_addSpan_28 : decode cX6_addSpan 28 = .ok (.iload_n 1, 1) := by decide +kernel
theorem dX6_addSpan_29 : decode cX6_addSpan 29 = .ok (.iload_n 2, 1) := by decide +kernel
theorem dX6_addSpan_30 : decode cX6_addSpan 30 = .ok (.iload_n 3, 1) := by decide +kernel
theorem dX6_addSpan_31 : decode cX6_addSpan 31 = .ok (.iload 4, 2) := by decide +kernel
theorem dX6_addSpan_33 : decode cX6_addSpan 33 = .ok (.invokevirtual 106, 3) := by decide +kernel
theorem dX6_addSpan_36 : decode cX6_addSpan 36 = .ok (.ireturn, 1) := by decide +kernel
theorem dX6_lift_0 : decode cX6_lift 0 = .ok (.aload_n 0, 1) := by decide +kernel
theorem dX6_lift_1 : decode cX6_lift 1 = .ok (.getfield 26, 3) := by decide +kernel
theorem dX6_lift_4 : decode cX6_lift 4 = .ok (.iload_n 1, 1) := by decide +kernel
theorem dX6_lift_5 : decode cX6_lift 5 = .ok (.invokevirtual 109, 3) := by decide +kernel
theorem dX6_lift_8 : decode cX6_lift 8 = .ok (.ifCond .ne 13, 3) := by decide +kernel
theorem dX6_lift_11 : decode cX6_lift 11 = .ok (.new 113, 3) := by decide +kernel
theorem dX6_lift_14 : decode cX6_lift 14 = .ok (.dup, 1) := by decide +kernel
theorem dX6_lift_15 : decode cX6_lift 15 = .ok (.ldc 115, 2) := by decide +kernel
theorem dX6_lift_17 : decode cX6_lift 17 = .ok (.invokespecial 117, 3) := by decide +kernel
theorem dX6_lift_20 : decode cX6_lift 20 = .ok (.athrow, 1) := by decide +kernel
theorem dX6_lift_21 : decode cX6_lift 21 = .ok (.aload_n 0, 1) := by decide +kernel
theorem dX6_lift_22 : decode cX6_lift 22 = .ok (.getfield 120, 3) := by decide +kernel
theorem dX6_lift_25 : decode cX6_lift 25 = .ok (.aload_n 0, 1) := by decide +kernel
theorem dX6_lift_26 : decode cX6_lift 26 = .ok (.getfield 26, 3) := by decide +kernel
theorem dX6_lift_29 : decode cX6_lift 29 = .ok (.getfield 123, 3) := by decide +kernel
theorem dX6_lift_32 : decode cX6_lift 32 = .ok (.iload_n 1, 1) := by decide +kernel
theorem dX6_lift_33 : decode cX6_lift 33 = .ok (.iaload, 1) := by decide +kernel
theorem dX6_lift_34 : decode cX6_lift 34 = .ok (.if_icmp .le 13, 3) := by decide +kernel
theorem dX6_lift_37 : decode cX6_lift 37 = .ok (.new 126, 3) := by decide +kernel
theorem dX6_lift_40 : decode cX6_lift 40 = .ok (.dup, 1) := by decide +kernel
theorem dX6_lift_41 : decode cX6_lift 41 = .ok (.ldc 128, 2) := by decide +kernel
theorem dX6_lift_43 : decode cX6_lift 43 = .ok (.invokespecial 130, 3) := by decide +kernel
theorem dX6_lift_46 : decode cX6_lift 46 = .ok (.athrow, 1) := by decide +kernel
theorem dX6_lift_47 : decode cX6_lift 47 = .ok (.aload_n 0, 1) := by decide +kernel
theorem dX6_lift_48 : decode cX6_lift 48 = .ok (.invokevirtual 131, 3) := by decide +kernel
theorem dX6_lift_51 : decode cX6_lift 51 = .ok (.istore_n 2, 1) := by decide +kernel
theorem dX6_lift_52 : decode cX6_lift 52 = .ok (.aload_n 0, 1) := by decide +kernel
theorem dX6_lift_53 : decode cX6_lift 53 = .ok (.getfield 26, 3) := by decide +kernel
theorem dX6_lift_56 : decode cX6_lift 56 = .ok (.getfield 123, 3) := by decide +kernel
theorem dX6_lift_59 : decode cX6_lift 59 = .ok (.iload_n 1, 1) := by decide +kernel
theorem dX6_lift_60 : decode cX6_lift 60 = .ok (.iconst (-1), 1) := by decide +kernel
theorem dX6_lift_61 : decode cX6_lift 61 = .ok (.iastore, 1) := by decide +kernel
theorem dX6_lift_62 : decode cX6_lift 62 = .ok (.iload_n 2, 1) := by decide +kernel
theorem dX6_lift_63 : decode cX6_lift 63 = .ok (.aload_n 0, 1) := by decide +kernel
theorem dX6_lift_64 : decode cX6_lift 64 = .ok (.invokevirtual 131, 3) := by decide +kernel
theorem dX6_lift_67 : decode cX6_lift 67 = .ok (.isub, 1) := by decide +kernel
theorem dX6_lift_68 : decode cX6_lift 68 = .ok (.ireturn, 1) := by decide +kernel
theorem dX6_isHidden_0 : decode cX6_isHidden 0 = .ok (.aload_n 0, 1) := by decide +kernel
theorem dX6_isHidden_1 : decode cX6_isHidden 1 = .ok (.iload_n 1, 1) := by decide +kernel
theorem dX6_isHidden_2 : decode cX6_isHidden 2 = .ok (.invokevirtual 78, 3) := by decide +kernel
theorem dX6_isHidden_5 : decode cX6_isHidden 5 = .ok (.aload_n 0, 1) := by decide +kernel
theorem dX6_isHidden_6 : decode cX6_isHidden 6 = .ok (.iload_n 1, 1) := by decide +kernel
theorem dX6_isHidden_7 : decode cX6_isHidden 7 = .ok (.invokevirtual 134, 3) := by decide +kernel
theorem dX6_isHidden_10 : decode cX6_isHidden 10 = .ok (.ireturn, 1) := by decide +kernel
theorem dX6_hidden_0 : decode cX6_hidden 0 = .ok (.aload_n 0, 1) := by decide +kernel
theorem dX6_hidden_1 : decode cX6_hidden 1 = .ok (.invokevirtual 131, 3) := by decide +kernel
theorem dX6_hidden_4 : decode cX6_hidden 4 = .ok (.ireturn, 1) := by decide +kernel
theorem dX6_addJoin_0 : decode cX6_addJoin 0 = .ok (.aload_n 0, 1) := by decide +kernel
theorem dX6_addJoin_1 : decode cX6_addJoin 1 = .ok (.iload_n 1, 1) := by decide +kernel
theorem dX6_addJoin_2 : decode cX6_addJoin 2 = .ok (.invokevirtual 78, 3) := by decide +kernel
theorem dX6_addJoin_5 : decode cX6_addJoin 5 = .ok (.aload_n 0, 1) := by decide +kernel
theorem dX6_addJoin_6 : decode cX6_addJoin 6 = .ok (.iload_n 2, 1) := by decide +kernel
theorem dX6_addJoin_7 : decode cX6_addJoin 7 = .ok (.invokevirtual 78, 3) := by decide +kernel
theorem dX6_addJoin_10 : decode cX6_addJoin 10 = .ok (.aload_n 0, 1) := by decide +kernel
theorem dX6_addJoin_11 : decode cX6_addJoin 11 = .ok (.iload_n 3, 1) := by decide +kernel
theorem dX6_addJoin_12 : decode cX6_addJoin 12 = .ok (.invokevirtual 78, 3) := by decide +kernel
theorem dX6_addJoin_15 : decode cX6_addJoin 15 = .ok (.iload_n 1, 1) := by decide +kernel
theorem dX6_addJoin_16 : decode cX6_addJoin 16 = .ok (.iload_n 2, 1) := by decide +kernel
theorem dX6_addJoin_17 : decode cX6_addJoin 17 = .ok (.if_icmp .eq 13, 3) := by decide +kernel
theorem dX6_addJoin_20 : decode cX6_addJoin 20 = .ok (.iload_n 1, 1) := by decide +kernel
theorem dX6_addJoin_21 : decode cX6_addJoin 21 = .ok (.iload_n 3, 1) := by decide +kernel
theorem dX6_addJoin_22 : decode cX6_addJoin 22 = .ok (.if_icmp .eq 8, 3) := by decide +kernel
theorem dX6_addJoin_25 : decode cX6_addJoin 25 = .ok (.iload_n 2, 1) := by decide +kernel
theorem dX6_addJoin_26 : decode cX6_addJoin 26 = .ok (.iload_n 3, 1) := by decide +kernel
theorem dX6_addJoin_27 : decode cX6_addJoin 27 = .ok (.if_icmp .ne 13, 3) := by decide +kernel
theorem dX6_addJoin_30 : decode cX6_addJoin 30 = .ok (.new 137, 3) := by decide +kernel
theorem dX6_addJoin_33 : decode cX6_addJoin 33 = .ok (.dup, 1) := by decide +kernel
theorem dX6_addJoin_34 : decode cX6_addJoin 34 = .ok (.ldc 139, 2) := by decide +kernel
theorem dX6_addJoin_36 : decode cX6_addJoin 36 = .ok (.invokespecial 141, 3) := by decide +kernel
theorem dX6_addJoin_39 : decode cX6_addJoin 39 = .ok (.athrow, 1) := by decide +kernel
theorem dX6_addJoin_40 : decode cX6_addJoin 40 = .ok (.aload_n 0, 1) := by decide +kernel
theorem dX6_addJoin_41 : decode cX6_addJoin 41 = .ok (.getfield 33, 3) := by decide +kernel
theorem dX6_addJoin_44 : decode cX6_addJoin 44 = .ok (.iload_n 1, 1) := by decide +kernel
theorem dX6_addJoin_45 : decode cX6_addJoin 45 = .ok (.iload_n 2, 1) := by decide +kernel
theorem dX6_addJoin_46 : decode cX6_addJoin 46 = .ok (.iload_n 3, 1) := by decide +kernel
theorem dX6_addJoin_47 : decode cX6_addJoin 47 = .ok (.invokevirtual 142, 3) := by decide +kernel
theorem dX6_addJoin_50 : decode cX6_addJoin 50 = .ok (.istore 4, 2) := by decide +kernel
theorem dX6_addJoin_52 : decode cX6_addJoin 52 = .ok (.aload_n 0, 1) := by decide +kernel
theorem dX6_addJoin_53 : decode cX6_addJoin 53 = .ok (.invokevirtual 143, 3) := by decide +kernel
theorem dX6_addJoin_56 : decode cX6_addJoin 56 = .ok (.iload 4, 2) := by decide +kernel
theorem dX6_addJoin_58 : decode cX6_addJoin 58 = .ok (.ireturn, 1) := by decide +kernel
theorem dX6_holds_0 : decode cX6_holds 0 = .ok (.iload_n 1, 1) := by decide +kernel
theorem dX6_holds_1 : decode cX6_holds 1 = .ok (.invokestatic 146, 3) := by decide +kernel
theorem dX6_holds_4 : decode cX6_holds 4 = .ok (.aload_n 0, 1) := by decide +kernel
theorem dX6_holds_5 : decode cX6_holds 5 = .ok (.iload_n 2, 1) := by decide +kernel
theorem dX6_holds_6 : decode cX6_holds 6 = .ok (.invokevirtual 78, 3) := by decide +kernel
theorem dX6_holds_9 : decode cX6_holds 9 = .ok (.aload_n 0, 1) := by decide +kernel
theorem dX6_holds_10 : decode cX6_holds 10 = .ok (.getfield 51, 3) := by decide +kernel
theorem dX6_holds_13 : decode cX6_holds 13 = .ok (.iload_n 1, 1) := by decide +kernel
theorem dX6_holds_14 : decode cX6_holds 14 = .ok (.laload, 1) := by decide +kernel
theorem dX6_holds_15 : decode cX6_holds 15 = .ok (.iload_n 2, 1) := by decide +kernel
theorem dX6_holds_16 : decode cX6_holds 16 = .ok (.invokestatic 149, 3) := by decide +kernel
theorem dX6_holds_19 : decode cX6_holds 19 = .ok (.ireturn, 1) := by decide +kernel
theorem dX6_holdsByLog_0 : decode cX6_holdsByLog 0 = .ok (.iload_n 1, 1) := by decide +kernel
theorem dX6_holdsByLog_1 : decode cX6_holdsByLog 1 = .ok (.invokestatic 146, 3) := by decide +kernel
theorem dX6_holdsByLog_4 : decode cX6_holdsByLog 4 = .ok (.aload_n 0, 1) := by decide +kernel
theorem dX6_holdsByLog_5 : decode cX6_holdsByLog 5 = .ok (.iload_n 2, 1) := by decide +kernel
theorem dX6_holdsByLog_6 : decode cX6_holdsByLog 6 = .ok (.invokevirtual 78, 3) := by decide +kernel
theorem dX6_holdsByLog_9 : decode cX6_holdsByLog 9 = .ok (.aload_n 0, 1) := by decide +kernel
theorem dX6_holdsByLog_10 : decode cX6_holdsByLog 10 = .ok (.getfield 33, 3) := by decide +kernel
theorem dX6_holdsByLog_13 : decode cX6_holdsByLog 13 = .ok (.aload_n 0, 1) := by decide +kernel
theorem dX6_holdsByLog_14 : decode cX6_holdsByLog 14 = .ok (.getfield 40, 3) := by decide +kernel
theorem dX6_holdsByLog_17 : decode cX6_holdsByLog 17 = .ok (.iload_n 1, 1) := by decide +kernel
theorem dX6_holdsByLog_18 : decode cX6_holdsByLog 18 = .ok (.invokevirtual 153, 3) := by decide +kernel
theorem dX6_holdsByLog_21 : decode cX6_holdsByLog 21 = .ok (.invokevirtual 157, 3) := by decide +kernel
theorem dX6_holdsByLog_24 : decode cX6_holdsByLog 24 = .ok (.iload_n 2, 1) := by decide +kernel
theorem dX6_holdsByLog_25 : decode cX6_holdsByLog 25 = .ok (.invokestatic 149, 3) := by decide +kernel
theorem dX6_holdsByLog_28 : decode cX6_holdsByLog 28 = .ok (.ireturn, 1) := by decide +kernel
theorem dX6_held_0 : decode cX6_held 0 = .ok (.iload_n 1, 1) := by decide +kernel
theorem dX6_held_1 : decode cX6_held 1 = .ok (.invokestatic 146, 3) := by decide +kernel
theorem dX6_held_4 : decode cX6_held 4 = .ok (.aload_n 0, 1) := by decide +kernel
theorem dX6_held_5 : decode cX6_held 5 = .ok (.getfield 51, 3) := by decide +kernel
theorem dX6_held_8 : decode cX6_held 8 = .ok (.iload_n 1, 1) := by decide +kernel
theorem dX6_held_9 : decode cX6_held 9 = .ok (.laload, 1) := by decide +kernel
theorem dX6_held_10 : decode cX6_held 10 = .ok (.invokestatic 161, 3) := by decide +kernel
theorem dX6_held_13 : decode cX6_held 13 = .ok (.ireturn, 1) := by decide +kernel
theorem dX6_given_0 : decode cX6_given 0 = .ok (.iload_n 1, 1) := by decide +kernel
theorem dX6_given_1 : decode cX6_given 1 = .ok (.invokestatic 146, 3) := by decide +kernel
theorem dX6_given_4 : decode cX6_given 4 = .ok (.aload_n 0, 1) := by decide +kernel
theorem dX6_given_5 : decode cX6_given 5 = .ok (.getfield 40, 3) := by decide +kernel
theorem dX6_given_8 : decode cX6_given 8 = .ok (.iload_n 1, 1) := by decide +kernel
theorem dX6_given_9 : decode cX6_given 9 = .ok (.invokevirtual 153, 3) := by decide +kernel
theorem dX6_given_12 : decode cX6_given 12 = .ok (.invokestatic 161, 3) := by decide +kernel
theorem dX6_given_15 : decode cX6_given 15 = .ok (.ireturn, 1) := by decide +kernel
theorem dX6_holders_0 : decode cX6_holders 0 = .ok (.aload_n 0, 1) := by decide +kernel
theorem dX6_holders_1 : decode cX6_holders 1 = .ok (.iload_n 1, 1) := by decide +kernel
theorem dX6_holders_2 : decode cX6_holders 2 = .ok (.invokevirtual 78, 3) := by decide +kernel
theorem dX6_holders_5 : decode cX6_holders 5 = .ok (.iconst 0, 1) := by decide +kernel
theorem dX6_holders_6 : decode cX6_holders 6 = .ok (.istore_n 2, 1) := by decide +kernel
theorem dX6_holders_7 : decode cX6_holders 7 = .ok (.iconst 0, 1) := by decide +kernel
theorem dX6_holders_8 : decode cX6_holders 8 = .ok (.istore_n 3, 1) := by decide +kernel
theorem dX6_holders_9 : decode cX6_holders 9 = .ok (.iload_n 3, 1) := by decide +kernel
theorem dX6_holders_10 : decode cX6_holders 10 = .ok (.iconst 5, 1) := by decide +kernel
theorem dX6_holders_11 : decode cX6_holders 11 = .ok (.if_icmp .ge 25, 3) := by decide +kernel
theorem dX6_holders_14 : decode cX6_holders 14 = .ok (.aload_n 0, 1) := by decide +kernel
theorem dX6_holders_15 : decode cX6_holders 15 = .ok (.getfield 51, 3) := by decide +kernel
theorem dX6_holders_18 : decode cX6_holders 18 = .ok (.iload_n 3, 1) := by decide +kernel
theorem dX6_holders_19 : decode cX6_holders 19 = .ok (.laload, 1) := by decide +kernel
theorem dX6_holders_20 : decode cX6_holders 20 = .ok (.iload_n 1, 1) := by decide +kernel
theorem dX6_holders_21 : decode cX6_holders 21 = .ok (.invokestatic 149, 3) := by decide +kernel
theorem dX6_holders_24 : decode cX6_holders 24 = .ok (.ifCond .eq 6, 3) := by decide +kernel
theorem dX6_holders_27 : decode cX6_holders 27 = .ok (.iinc 2 1, 3) := by decide +kernel
theorem dX6_holders_30 : decode cX6_holders 30 = .ok (.iinc 3 1, 3) := by decide +kernel
theorem dX6_holders_33 : decode cX6_holders 33 = .ok (.goto (-24), 3) := by decide +kernel
theorem dX6_holders_36 : decode cX6_holders 36 = .ok (.iload_n 2, 1) := by decide +kernel
theorem dX6_holders_37 : decode cX6_holders 37 = .ok (.ireturn, 1) := by decide +kernel
theorem dX6_why_0 : decode cX6_why 0 = .ok (.aload_n 0, 1) := by decide +kernel
theorem dX6_why_1 : decode cX6_why 1 = .ok (.iload_n 1, 1) := by decide +kernel
theorem dX6_why_2 : decode cX6_why 2 = .ok (.iload_n 2, 1) := by decide +kernel
theorem dX6_why_3 : decode cX6_why 3 = .ok (.invokevirtual 167, 3) := by decide +kernel
theorem dX6_why_6 : decode cX6_why 6 = .ok (.aload_n 0, 1) := by decide +kernel
theorem dX6_why_7 : decode cX6_why 7 = .ok (.iload_n 1, 1) := by decide +kernel
theorem dX6_why_8 : decode cX6_why 8 = .ok (.iload_n 2, 1) := by decide +kernel
theorem dX6_why_9 : decode cX6_why 9 = .ok (.invokevirtual 170, 3) := by decide +kernel
theorem dX6_why_12 : decode cX6_why 12 = .ok (.istore_n 3, 1) := by decide +kernel
theorem dX6_why_13 : decode cX6_why 13 = .ok (.iload_n 3, 1) := by decide +kernel
theorem dX6_why_14 : decode cX6_why 14 = .ok (.iconst (-1), 1) := by decide +kernel
theorem dX6_why_15 : decode cX6_why 15 = .ok (.if_icmp .ne 6, 3) := by decide +kernel
theorem dX6_why_18 : decode cX6_why 18 = .ok (.bipush 45, 2) := by decide +kernel
theorem dX6_why_20 : decode cX6_why 20 = .ok (.ireturn, 1) := by decide +kernel
theorem dX6_why_21 : decode cX6_why 21 = .ok (.iload_n 3, 1) := by decide +kernel
theorem dX6_why_22 : decode cX6_why 22 = .ok (.iload_n 2, 1) := by decide +kernel
theorem dX6_why_23 : decode cX6_why 23 = .ok (.if_icmp .eq 6, 3) := by decide +kernel
theorem dX6_why_26 : decode cX6_why 26 = .ok (.bipush 106, 2) := by decide +kernel
theorem dX6_why_28 : decode cX6_why 28 = .ok (.ireturn, 1) := by decide +kernel
theorem dX6_why_29 : decode cX6_why 29 = .ok (.aload_n 0, 1) := by decide +kernel
theorem dX6_why_30 : decode cX6_why 30 = .ok (.iload_n 2, 1) := by decide +kernel
theorem dX6_why_31 : decode cX6_why 31 = .ok (.invokevirtual 173, 3) := by decide +kernel
theorem dX6_why_34 : decode cX6_why 34 = .ok (.ifCond .eq 8, 3) := by decide +kernel
theorem dX6_why_37 : decode cX6_why 37 = .ok (.bipush 114, 2) := by decide +kernel
theorem dX6_why_39 : decode cX6_why 39 = .ok (.goto 5, 3) := by decide +kernel
theorem dX6_why_42 : decode cX6_why 42 = .ok (.bipush 115, 2) := by decide +kernel
theorem dX6_why_44 : decode cX6_why 44 = .ok (.ireturn, 1) := by decide +kernel
theorem dX6_root_0 : decode cX6_root 0 = .ok (.aload_n 0, 1) := by decide +kernel
theorem dX6_root_1 : decode cX6_root 1 = .ok (.iload_n 1, 1) := by decide +kernel
theorem dX6_root_2 : decode cX6_root 2 = .ok (.iload_n 2, 1) := by decide +kernel
theorem dX6_root_3 : decode cX6_root 3 = .ok (.invokevirtual 167, 3) := by decide +kernel
theorem dX6_root_6 : decode cX6_root 6 = .ok (.aload_n 0, 1) := by decide +kernel
theorem dX6_root_7 : decode cX6_root 7 = .ok (.iload_n 1, 1) := by decide +kernel
theorem dX6_root_8 : decode cX6_root 8 = .ok (.iload_n 2, 1) := by decide +kernel
theorem dX6_root_9 : decode cX6_root 9 = .ok (.invokevirtual 170, 3) := by decide +kernel
theorem dX6_root_12 : decode cX6_root 12 = .ok (.istore_n 3, 1) := by decide +kernel
theorem dX6_root_13 : decode cX6_root 13 = .ok (.iload_n 3, 1) := by decide +kernel
theorem dX6_root_14 : decode cX6_root 14 = .ok (.iconst (-1), 1) := by decide +kernel
theorem dX6_root_15 : decode cX6_root 15 = .ok (.if_icmp .ne 13, 3) := by decide +kernel
theorem dX6_root_18 : decode cX6_root 18 = .ok (.new 176, 3) := by decide +kernel
theorem dX6_root_21 : decode cX6_root 21 = .ok (.dup, 1) := by decide +kernel
theorem dX6_root_22 : decode cX6_root 22 = .ok (.ldc 178, 2) := by decide +kernel
theorem dX6_root_24 : decode cX6_root 24 = .ok (.invokespecial 180, 3) := by decide +kernel
theorem dX6_root_27 : decode cX6_root 27 = .ok (.athrow, 1) := by decide +kernel
theorem dX6_root_28 : decode cX6_root 28 = .ok (.aload_n 0, 1) := by decide +kernel
theorem dX6_root_29 : decode cX6_root 29 = .ok (.iload_n 3, 1) := by decide +kernel
theorem dX6_root_30 : decode cX6_root 30 = .ok (.invokevirtual 181, 3) := by decide +kernel
theorem dX6_root_33 : decode cX6_root 33 = .ok (.ifCond .eq 8, 3) := by decide +kernel
theorem dX6_root_36 : decode cX6_root 36 = .ok (.bipush 115, 2) := by decide +kernel
theorem dX6_root_38 : decode cX6_root 38 = .ok (.goto 5, 3) := by decide +kernel
theorem dX6_root_41 : decode cX6_root 41 = .ok (.bipush 114, 2) := by decide +kernel
theorem dX6_root_43 : decode cX6_root 43 = .ok (.ireturn, 1) := by decide +kernel
theorem dX6_causes_0 : decode cX6_causes 0 = .ok (.aload_n 0, 1) := by decide +kernel
theorem dX6_causes_1 : decode cX6_causes 1 = .ok (.iload_n 1, 1) := by decide +kernel
theorem dX6_causes_2 : decode cX6_causes 2 = .ok (.iload_n 2, 1) := by decide +kernel
theorem dX6_causes_3 : decode cX6_causes 3 = .ok (.invokevirtual 167, 3) := by decide +kernel
theorem dX6_causes_6 : decode cX6_causes 6 = .ok (.aload_n 0, 1) := by decide +kernel
theorem dX6_causes_7 : decode cX6_causes 7 = .ok (.iload_n 1, 1) := by decide +kernel
theorem dX6_causes_8 : decode cX6_causes 8 = .ok (.iload_n 2, 1) := by decide +kernel
theorem dX6_causes_9 : decode cX6_causes 9 = .ok (.invokevirtual 170, 3) := by decide +kernel
theorem dX6_causes_12 : decode cX6_causes 12 = .ok (.istore_n 3, 1) := by decide +kernel
theorem dX6_causes_13 : decode cX6_causes 13 = .ok (.iload_n 3, 1) := by decide +kernel
theorem dX6_causes_14 : decode cX6_causes 14 = .ok (.iconst (-1), 1) := by decide +kernel
theorem dX6_causes_15 : decode cX6_causes 15 = .ok (.if_icmp .ne 5, 3) := by decide +kernel
theorem dX6_causes_18 : decode cX6_causes 18 = .ok (.iconst 0, 1) := by decide +kernel
theorem dX6_causes_19 : decode cX6_causes 19 = .ok (.ireturn, 1) := by decide +kernel
theorem dX6_causes_20 : decode cX6_causes 20 = .ok (.iload_n 3, 1) := by decide +kernel
theorem dX6_causes_21 : decode cX6_causes 21 = .ok (.iload_n 2, 1) := by decide +kernel
theorem dX6_causes_22 : decode cX6_causes 22 = .ok (.if_icmp .ne 7, 3) := by decide +kernel
theorem dX6_causes_25 : decode cX6_causes 25 = .ok (.iconst 0, 1) := by decide +kernel
theorem dX6_causes_26 : decode cX6_causes 26 = .ok (.goto 4, 3) := by decide +kernel
theorem dX6_causes_29 : decode cX6_causes 29 = .ok (.iconst 1, 1) := by decide +kernel
theorem dX6_causes_30 : decode cX6_causes 30 = .ok (.istore 4, 2) := by decide +kernel
theorem dX6_causes_32 : decode cX6_causes 32 = .ok (.iload 4, 2) := by decide +kernel
theorem dX6_causes_34 : decode cX6_causes 34 = .ok (.aload_n 0, 1) := by decide +kernel
theorem dX6_causes_35 : decode cX6_causes 35 = .ok (.iload_n 3, 1) := by decide +kernel
theorem dX6_causes_36 : decode cX6_causes 36 = .ok (.invokevirtual 184, 3) := by decide +kernel
theorem dX6_causes_39 : decode cX6_causes 39 = .ok (.iadd, 1) := by decide +kernel
theorem dX6_causes_40 : decode cX6_causes 40 = .ok (.ireturn, 1) := by decide +kernel
theorem dX6_request_0 : decode cX6_request 0 = .ok (.iload_n 1, 1) := by decide +kernel
theorem dX6_request_1 : decode cX6_request 1 = .ok (.invokestatic 146, 3) := by decide +kernel
theorem dX6_request_4 : decode cX6_request 4 = .ok (.aload_n 0, 1) := by decide +kernel
theorem dX6_request_5 : decode cX6_request 5 = .ok (.iload_n 2, 1) := by decide +kernel
theorem dX6_request_6 : decode cX6_request 6 = .ok (.invokevirtual 67, 3) := by decide +kernel
theorem dX6_request_9 : decode cX6_request 9 = .ok (.aload_n 0, 1) := by decide +kernel
theorem dX6_request_10 : decode cX6_request 10 = .ok (.getfield 55, 3) := by decide +kernel
theorem dX6_request_13 : decode cX6_request 13 = .ok (.iload_n 1, 1) := by decide +kernel
theorem dX6_request_14 : decode cX6_request 14 = .ok (.iaload, 1) := by decide +kernel
theorem dX6_request_15 : decode cX6_request 15 = .ok (.bipush 100, 2) := by decide +kernel
theorem dX6_request_17 : decode cX6_request 17 = .ok (.if_icmp .le 13, 3) := by decide +kernel
theorem dX6_request_20 : decode cX6_request 20 = .ok (.new 188, 3) := by decide +kernel
theorem dX6_request_23 : decode cX6_request 23 = .ok (.dup, 1) := by decide +kernel
theorem dX6_request_24 : decode cX6_request 24 = .ok (.ldc 190, 2) := by decide +kernel
theorem dX6_request_26 : decode cX6_request 26 = .ok (.invokespecial 192, 3) := by decide +kernel
theorem dX6_request_29 : decode cX6_request 29 = .ok (.athrow, 1) := by decide +kernel
theorem dX6_request_30 : decode cX6_request 30 = .ok (.aload_n 0, 1) := by decide +kernel
theorem dX6_request_31 : decode cX6_request 31 = .ok (.getfield 47, 3) := by decide +kernel
theorem dX6_request_34 : decode cX6_request 34 = .ok (.iload_n 1, 1) := by decide +kernel
theorem dX6_request_35 : decode cX6_request 35 = .ok (.iload_n 2, 1) := by decide +kernel
theorem dX6_request_36 : decode cX6_request 36 = .ok (.invokevirtual 193, 3) := by decide +kernel
theorem dX6_request_39 : decode cX6_request 39 = .ok (.ifCond .eq 13, 3) := by decide +kernel
theorem dX6_request_42 : decode cX6_request 42 = .ok (.new 126, 3) := by decide +kernel
theorem dX6_request_45 : decode cX6_request 45 = .ok (.dup, 1) := by decide +kernel
theorem dX6_request_46 : decode cX6_request 46 = .ok (.ldc 197, 2) := by decide +kernel
theorem dX6_request_48 : decode cX6_request 48 = .ok (.invokespecial 130, 3) := by decide +kernel
theorem dX6_request_51 : decode cX6_request 51 = .ok (.athrow, 1) := by decide +kernel
theorem dX6_request_52 : decode cX6_request 52 = .ok (.aload_n 0, 1) := by decide +kernel
theorem dX6_request_53 : decode cX6_request 53 = .ok (.getfield 47, 3) := by decide +kernel
theorem dX6_request_56 : decode cX6_request 56 = .ok (.iload_n 1, 1) := by decide +kernel
theorem dX6_request_57 : decode cX6_request 57 = .ok (.iload_n 2, 1) := by decide +kernel
theorem dX6_request_58 : decode cX6_request 58 = .ok (.aload_n 0, 1) := by decide +kernel
theorem dX6_request_59 : decode cX6_request 59 = .ok (.getfield 120, 3) := by decide +kernel
theorem dX6_request_62 : decode cX6_request 62 = .ok (.invokevirtual 199, 3) := by decide +kernel
theorem dX6_request_65 : decode cX6_request 65 = .ok (.ireturn, 1) := by decide +kernel
theorem dX6_state_0 : decode cX6_state 0 = .ok (.aload_n 0, 1) := by decide +kernel
theorem dX6_state_1 : decode cX6_state 1 = .ok (.iload_n 1, 1) := by decide +kernel
theorem dX6_state_2 : decode cX6_state 2 = .ok (.invokevirtual 200, 3) := by decide +kernel
theorem dX6_state_5 : decode cX6_state 5 = .ok (.aload_n 0, 1) := by decide +kernel
theorem dX6_state_6 : decode cX6_state 6 = .ok (.getfield 47, 3) := by decide +kernel
theorem dX6_state_9 : decode cX6_state 9 = .ok (.getfield 203, 3) := by decide +kernel
theorem dX6_state_12 : decode cX6_state 12 = .ok (.iload_n 1, 1) := by decide +kernel
theorem dX6_state_13 : decode cX6_state 13 = .ok (.caload, 1) := by decide +kernel
theorem dX6_state_14 : decode cX6_state 14 = .ok (.ireturn, 1) := by decide +kernel
theorem dX6_answer_0 : decode cX6_answer 0 = .ok (.aload_n 0, 1) := by decide +kernel
theorem dX6_answer_1 : decode cX6_answer 1 = .ok (.iload_n 1, 1) := by decide +kernel
theorem dX6_answer_2 : decode cX6_answer 2 = .ok (.invokevirtual 200, 3) := by decide +kernel
theorem dX6_answer_5 : decode cX6_answer 5 = .ok (.aload_n 0, 1) := by decide +kernel
theorem dX6_answer_6 : decode cX6_answer 6 = .ok (.iload_n 1, 1) := by decide +kernel
theorem dX6_answer_7 : decode cX6_answer 7 = .ok (.invokevirtual 207, 3) := by decide +kernel
theorem dX6_answer_10 : decode cX6_answer 10 = .ok (.aload_n 0, 1) := by decide +kernel
theorem dX6_answer_11 : decode cX6_answer 11 = .ok (.getfield 47, 3) := by decide +kernel
theorem dX6_answer_14 : decode cX6_answer 14 = .ok (.getfield 203, 3) := by decide +kernel
theorem dX6_answer_17 : decode cX6_answer 17 = .ok (.iload_n 1, 1) := by decide +kernel
theorem dX6_answer_18 : decode cX6_answer 18 = .ok (.bipush 97, 2) := by decide +kernel
theorem dX6_answer_20 : decode cX6_answer 20 = .ok (.castore, 1) := by decide +kernel
theorem dX6_answer_21 : decode cX6_answer 21 = .ok (.aload_n 0, 1) := by decide +kernel
theorem dX6_answer_22 : decode cX6_answer 22 = .ok (.aload_n 0, 1) := by decide +kernel
theorem dX6_answer_23 : decode cX6_answer 23 = .ok (.getfield 47, 3) := by decide +kernel
theorem dX6_answer_26 : decode cX6_answer 26 = .ok (.getfield 210, 3) := by decide +kernel
theorem dX6_answer_29 : decode cX6_answer 29 = .ok (.iload_n 1, 1) := by decide +kernel
theorem dX6_answer_30 : decode cX6_answer 30 = .ok (.iaload, 1) := by decide +kernel
theorem dX6_answer_31 : decode cX6_answer 31 = .ok (.aload_n 0, 1) := by decide +kernel
theorem dX6_answer_32 : decode cX6_answer 32 = .ok (.getfield 47, 3) := by decide +kernel
theorem dX6_answer_35 : decode cX6_answer 35 = .ok (.getfield 213, 3) := by decide +kernel
theorem dX6_answer_38 : decode cX6_answer 38 = .ok (.iload_n 1, 1) := by decide +kernel
theorem dX6_answer_39 : decode cX6_answer 39 = .ok (.iaload, 1) := by decide +kernel
theorem dX6_answer_40 : decode cX6_answer 40 = .ok (.invokevirtual 214, 3) := by decide +kernel
theorem dX6_answer_43 : decode cX6_answer 43 = .ok (.ireturn, 1) := by decide +kernel
theorem dX6_withdraw_0 : decode cX6_withdraw 0 = .ok (.aload_n 0, 1) := by decide +kernel
theorem dX6_withdraw_1 : decode cX6_withdraw 1 = .ok (.iload_n 1, 1) := by decide +kernel
theorem dX6_withdraw_2 : decode cX6_withdraw 2 = .ok (.invokevirtual 200, 3) := by decide +kernel
theorem dX6_withdraw_5 : decode cX6_withdraw 5 = .ok (.aload_n 0, 1) := by decide +kernel
theorem dX6_withdraw_6 : decode cX6_withdraw 6 = .ok (.iload_n 1, 1) := by decide +kernel
theorem dX6_withdraw_7 : decode cX6_withdraw 7 = .ok (.invokevirtual 207, 3) := by decide +kernel
theorem dX6_withdraw_10 : decode cX6_withdraw 10 = .ok (.aload_n 0, 1) := by decide +kernel
theorem dX6_withdraw_11 : decode cX6_withdraw 11 = .ok (.getfield 47, 3) := by decide +kernel
theorem dX6_withdraw_14 : decode cX6_withdraw 14 = .ok (.getfield 203, 3) := by decide +kernel
theorem dX6_withdraw_17 : decode cX6_withdraw 17 = .ok (.iload_n 1, 1) := by decide +kernel
theorem dX6_withdraw_18 : decode cX6_withdraw 18 = .ok (.bipush 120, 2) := by decide +kernel
theorem dX6_withdraw_20 : decode cX6_withdraw 20 = .ok (.castore, 1) := by decide +kernel
theorem dX6_withdraw_21 : decode cX6_withdraw 21 = .ok (.aload_n 0, 1) := by decide +kernel
theorem dX6_withdraw_22 : decode cX6_withdraw 22 = .ok (.getfield 47, 3) := by decide +kernel
theorem dX6_withdraw_25 : decode cX6_withdraw 25 = .ok (.bipush 119, 2) := by decide +kernel
theorem dX6_withdraw_27 : decode cX6_withdraw 27 = .ok (.invokevirtual 217, 3) := by decide +kernel
theorem dX6_withdraw_30 : decode cX6_withdraw 30 = .ok (.ireturn, 1) := by decide +kernel
theorem dX6_setPrice_0 : decode cX6_setPrice 0 = .ok (.iload_n 1, 1) := by decide +kernel
theorem dX6_setPrice_1 : decode cX6_setPrice 1 = .ok (.ifCond .lt 9, 3) := by decide +kernel
theorem dX6_setPrice_4 : decode cX6_setPrice 4 = .ok (.iload_n 1, 1) := by decide +kernel
theorem dX6_setPrice_5 : decode cX6_setPrice 5 = .ok (.bipush 99, 2) := by decide +kernel
theorem dX6_setPrice_7 : decode cX6_setPrice 7 = .ok (.if_icmp .le 13, 3) := by decide +kernel
theorem dX6_setPrice_10 : decode cX6_setPrice 10 = .ok (.new 137, 3) := by decide +kernel
theorem dX6_setPrice_13 : decode cX6_setPrice 13 = .ok (.dup, 1) := by decide +kernel
theorem dX6_setPrice_14 : decode cX6_setPrice 14 = .ok (.ldc 221, 2) := by decide +kernel
theorem dX6_setPrice_16 : decode cX6_setPrice 16 = .ok (.invokespecial 141, 3) := by decide +kernel
theorem dX6_setPrice_19 : decode cX6_setPrice 19 = .ok (.athrow, 1) := by decide +kernel
theorem dX6_setPrice_20 : decode cX6_setPrice 20 = .ok (.aload_n 0, 1) := by decide +kernel
theorem dX6_setPrice_21 : decode cX6_setPrice 21 = .ok (.getfield 59, 3) := by decide +kernel
theorem dX6_setPrice_24 : decode cX6_setPrice 24 = .ok (.istore_n 2, 1) := by decide +kernel
theorem dX6_setPrice_25 : decode cX6_setPrice 25 = .ok (.aload_n 0, 1) := by decide +kernel
theorem dX6_setPrice_26 : decode cX6_setPrice 26 = .ok (.iload_n 1, 1) := by decide +kernel
theorem dX6_setPrice_27 : decode cX6_setPrice 27 = .ok (.putfield 59, 3) := by decide +kernel
theorem dX6_setPrice_30 : decode cX6_setPrice 30 = .ok (.iload_n 2, 1) := by decide +kernel
theorem dX6_setPrice_31 : decode cX6_setPrice 31 = .ok (.ireturn, 1) := by decide +kernel
theorem dX6_owed_0 : decode cX6_owed 0 = .ok (.iload_n 1, 1) := by decide +kernel
theorem dX6_owed_1 : decode cX6_owed 1 = .ok (.invokestatic 146, 3) := by decide +kernel
theorem dX6_owed_4 : decode cX6_owed 4 = .ok (.aload_n 0, 1) := by decide +kernel
theorem dX6_owed_5 : decode cX6_owed 5 = .ok (.getfield 55, 3) := by decide +kernel
theorem dX6_owed_8 : decode cX6_owed 8 = .ok (.iload_n 1, 1) := by decide +kernel
theorem dX6_owed_9 : decode cX6_owed 9 = .ok (.iaload, 1) := by decide +kernel
theorem dX6_owed_10 : decode cX6_owed 10 = .ok (.ireturn, 1) := by decide +kernel
theorem dX6_pay_0 : decode cX6_pay 0 = .ok (.iload_n 1, 1) := by decide +kernel
theorem dX6_pay_1 : decode cX6_pay 1 = .ok (.invokestatic 146, 3) := by decide +kernel
theorem dX6_pay_4 : decode cX6_pay 4 = .ok (.iload_n 2, 1) := by decide +kernel
theorem dX6_pay_5 : decode cX6_pay 5 = .ok (.iconst 1, 1) := by decide +kernel
theorem dX6_pay_6 : decode cX6_pay 6 = .ok (.if_icmp .lt 13, 3) := by decide +kernel
theorem dX6_pay_9 : decode cX6_pay 9 = .ok (.iload_n 2, 1) := by decide +kernel
theorem dX6_pay_10 : decode cX6_pay 10 = .ok (.aload_n 0, 1) := by decide +kernel
theorem dX6_pay_11 : decode cX6_pay 11 = .ok (.getfield 55, 3) := by decide +kernel
theorem dX6_pay_14 : decode cX6_pay 14 = .ok (.iload_n 1, 1) := by decide +kernel
theorem dX6_pay_15 : decode cX6_pay 15 = .ok (.iaload, 1) := by decide +kernel
theorem dX6_pay_16 : decode cX6_pay 16 = .ok (.if_icmp .le 13, 3) := by decide +kernel
theorem dX6_pay_19 : decode cX6_pay 19 = .ok (.new 137, 3) := by decide +kernel
theorem dX6_pay_22 : decode cX6_pay 22 = .ok (.dup, 1) := by decide +kernel
theorem dX6_pay_23 : decode cX6_pay 23 = .ok (.ldc 223, 2) := by decide +kernel
theorem dX6_pay_25 : decode cX6_pay 25 = .ok (.invokespecial 141, 3) := by decide +kernel
theorem dX6_pay_28 : decode cX6_pay 28 = .ok (.athrow, 1) := by decide +kernel
theorem dX6_pay_29 : decode cX6_pay 29 = .ok (.aload_n 0, 1) := by decide +kernel
theorem dX6_pay_30 : decode cX6_pay 30 = .ok (.getfield 55, 3) := by decide +kernel
theorem dX6_pay_33 : decode cX6_pay 33 = .ok (.iload_n 1, 1) := by decide +kernel
theorem dX6_pay_34 : decode cX6_pay 34 = .ok (.dup2, 1) := by decide +kernel
theorem dX6_pay_35 : decode cX6_pay 35 = .ok (.iaload, 1) := by decide +kernel
theorem dX6_pay_36 : decode cX6_pay 36 = .ok (.iload_n 2, 1) := by decide +kernel
theorem dX6_pay_37 : decode cX6_pay 37 = .ok (.isub, 1) := by decide +kernel
theorem dX6_pay_38 : decode cX6_pay 38 = .ok (.iastore, 1) := by decide +kernel
theorem dX6_pay_39 : decode cX6_pay 39 = .ok (.aload_n 0, 1) := by decide +kernel
theorem dX6_pay_40 : decode cX6_pay 40 = .ok (.getfield 55, 3) := by decide +kernel
theorem dX6_pay_43 : decode cX6_pay 43 = .ok (.iload_n 1, 1) := by decide +kernel
theorem dX6_pay_44 : decode cX6_pay 44 = .ok (.iaload, 1) := by decide +kernel
theorem dX6_pay_45 : decode cX6_pay 45 = .ok (.ireturn, 1) := by decide +kernel
theorem dX6_pass_0 : decode cX6_pass 0 = .ok (.iload_n 1, 1) := by decide +kernel
theorem dX6_pass_1 : decode cX6_pass 1 = .ok (.iconst 1, 1) := by decide +kernel
theorem dX6_pass_2 : decode cX6_pass 2 = .ok (.if_icmp .lt 9, 3) := by decide +kernel
theorem dX6_pass_5 : decode cX6_pass 5 = .ok (.iload_n 1, 1) := by decide +kernel
theorem dX6_pass_6 : decode cX6_pass 6 = .ok (.bipush 90, 2) := by decide +kernel
theorem dX6_pass_8 : decode cX6_pass 8 = .ok (.if_icmp .le 13, 3) := by decide +kernel
theorem dX6_pass_11 : decode cX6_pass 11 = .ok (.new 137, 3) := by decide +kernel
theorem dX6_pass_14 : decode cX6_pass 14 = .ok (.dup, 1) := by decide +kernel
theorem dX6_pass_15 : decode cX6_pass 15 = .ok (.ldc 225, 2) := by decide +kernel
theorem dX6_pass_17 : decode cX6_pass 17 = .ok (.invokespecial 141, 3) := by decide +kernel
theorem dX6_pass_20 : decode cX6_pass 20 = .ok (.athrow, 1) := by decide +kernel
theorem dX6_pass_21 : decode cX6_pass 21 = .ok (.aload_n 0, 1) := by decide +kernel
theorem dX6_pass_22 : decode cX6_pass 22 = .ok (.getfield 120, 3) := by decide +kernel
theorem dX6_pass_25 : decode cX6_pass 25 = .ok (.iload_n 1, 1) := by decide +kernel
theorem dX6_pass_26 : decode cX6_pass 26 = .ok (.iadd, 1) := by decide +kernel
theorem dX6_pass_27 : decode cX6_pass 27 = .ok (.sipush 9999, 3) := by decide +kernel
theorem dX6_pass_30 : decode cX6_pass 30 = .ok (.if_icmp .le 13, 3) := by decide +kernel
theorem dX6_pass_33 : decode cX6_pass 33 = .ok (.new 137, 3) := by decide +kernel
theorem dX6_pass_36 : decode cX6_pass 36 = .ok (.dup, 1) := by decide +kernel
theorem dX6_pass_37 : decode cX6_pass 37 = .ok (.ldc 227, 2) := by decide +kernel
theorem dX6_pass_39 : decode cX6_pass 39 = .ok (.invokespecial 141, 3) := by decide +kernel
theorem dX6_pass_42 : decode cX6_pass 42 = .ok (.athrow, 1) := by decide +kernel
theorem dX6_pass_43 : decode cX6_pass 43 = .ok (.aload_n 0, 1) := by decide +kernel
theorem dX6_pass_44 : decode cX6_pass 44 = .ok (.getfield 47, 3) := by decide +kernel
theorem dX6_pass_47 : decode cX6_pass 47 = .ok (.aload_n 0, 1) := by decide +kernel
theorem dX6_pass_48 : decode cX6_pass 48 = .ok (.getfield 120, 3) := by decide +kernel
theorem dX6_pass_51 : decode cX6_pass 51 = .ok (.invokevirtual 229, 3) := by decide +kernel
theorem dX6_pass_54 : decode cX6_pass 54 = .ok (.istore_n 2, 1) := by decide +kernel
theorem dX6_pass_55 : decode cX6_pass 55 = .ok (.aload_n 0, 1) := by decide +kernel
theorem dX6_pass_56 : decode cX6_pass 56 = .ok (.dup, 1) := by decide +kernel
theorem dX6_pass_57 : decode cX6_pass 57 = .ok (.getfield 120, 3) := by decide +kernel
theorem dX6_pass_60 : decode cX6_pass 60 = .ok (.iload_n 1, 1) := by decide +kernel
theorem dX6_pass_61 : decode cX6_pass 61 = .ok (.iadd, 1) := by decide +kernel
theorem dX6_pass_62 : decode cX6_pass 62 = .ok (.putfield 120, 3) := by decide +kernel
theorem dX6_pass_65 : decode cX6_pass 65 = .ok (.aload_n 0, 1) := by decide +kernel
theorem dX6_pass_66 : decode cX6_pass 66 = .ok (.getfield 47, 3) := by decide +kernel
theorem dX6_pass_69 : decode cX6_pass 69 = .ok (.aload_n 0, 1) := by decide +kernel
theorem dX6_pass_70 : decode cX6_pass 70 = .ok (.getfield 120, 3) := by decide +kernel
theorem dX6_pass_73 : decode cX6_pass 73 = .ok (.invokevirtual 229, 3) := by decide +kernel
theorem dX6_pass_76 : decode cX6_pass 76 = .ok (.iload_n 2, 1) := by decide +kernel
theorem dX6_pass_77 : decode cX6_pass 77 = .ok (.isub, 1) := by decide +kernel
theorem dX6_pass_78 : decode cX6_pass 78 = .ok (.ireturn, 1) := by decide +kernel
theorem dX6_day_0 : decode cX6_day 0 = .ok (.aload_n 0, 1) := by decide +kernel
theorem dX6_day_1 : decode cX6_day 1 = .ok (.getfield 120, 3) := by decide +kernel
theorem dX6_day_4 : decode cX6_day 4 = .ok (.ireturn, 1) := by decide +kernel
theorem dX6_late_0 : decode cX6_late 0 = .ok (.aload_n 0, 1) := by decide +kernel
theorem dX6_late_1 : decode cX6_late 1 = .ok (.getfield 47, 3) := by decide +kernel
theorem dX6_late_4 : decode cX6_late 4 = .ok (.aload_n 0, 1) := by decide +kernel
theorem dX6_late_5 : decode cX6_late 5 = .ok (.getfield 120, 3) := by decide +kernel
theorem dX6_late_8 : decode cX6_late 8 = .ok (.invokevirtual 229, 3) := by decide +kernel
theorem dX6_late_11 : decode cX6_late 11 = .ok (.ireturn, 1) := by decide +kernel
theorem dX6_fees_0 : decode cX6_fees 0 = .ok (.aload_n 0, 1) := by decide +kernel
theorem dX6_fees_1 : decode cX6_fees 1 = .ok (.getfield 232, 3) := by decide +kernel
theorem dX6_fees_4 : decode cX6_fees 4 = .ok (.lreturn, 1) := by decide +kernel
theorem dX6_answeredShare_0 : decode cX6_answeredShare 0 = .ok (.aload_n 0, 1) := by decide +kernel
theorem dX6_answeredShare_1 : decode cX6_answeredShare 1 = .ok (.getfield 47, 3) := by decide +kernel
theorem dX6_answeredShare_4 : decode cX6_answeredShare 4 = .ok (.getfield 236, 3) := by decide +kernel
theorem dX6_answeredShare_7 : decode cX6_answeredShare 7 = .ok (.istore_n 1, 1) := by decide +kernel
theorem dX6_answeredShare_8 : decode cX6_answeredShare 8 = .ok (.iload_n 1, 1) := by decide +kernel
theorem dX6_answeredShare_9 : decode cX6_answeredShare 9 = .ok (.ifCond .gt 13, 3) := by decide +kernel
theorem dX6_answeredShare_12 : decode cX6_answeredShare 12 = .ok (.new 176, 3) := by decide +kernel
theorem dX6_answeredShare_15 : decode cX6_answeredShare 15 = .ok (.dup, 1) := by decide +kernel
theorem dX6_answeredShare_16 : decode cX6_answeredShare 16 = .ok (.ldc 239, 2) := by decide +kernel
theorem dX6_answeredShare_18 : decode cX6_answeredShare 18 = .ok (.invokespecial 180, 3) := by decide +kernel
theorem dX6_answeredShare_21 : decode cX6_answeredShare 21 = .ok (.athrow, 1) := by decide +kernel
theorem dX6_answeredShare_22 : decode cX6_answeredShare 22 = .ok (.aload_n 0, 1) := by decide +kernel
theorem dX6_answeredShare_23 : decode cX6_answeredShare 23 = .ok (.getfield 47, 3) := by decide +kernel
theorem dX6_answeredShare_26 : decode cX6_answeredShare 26 = .ok (.bipush 97, 2) := by decide +kernel
theorem dX6_answeredShare_28 : decode cX6_answeredShare 28 = .ok (.invokevirtual 217, 3) := by decide +kernel
theorem dX6_answeredShare_31 : decode cX6_answeredShare 31 = .ok (.i2f, 1) := by decide +kernel
theorem dX6_answeredShare_32 : decode cX6_answeredShare 32 = .ok (.iload_n 1, 1) := by decide +kernel
theorem dX6_answeredShare_33 : decode cX6_answeredShare 33 = .ok (.i2f, 1) := by decide +kernel
theorem dX6_answeredShare_34 : decode cX6_answeredShare 34 = .ok (.fdiv, 1) := by decide +kernel
theorem dX6_answeredShare_35 : decode cX6_answeredShare 35 = .ok (.freturn, 1) := by decide +kernel
theorem dX6_requireDocument_0 : decode cX6_requireDocument 0 = .ok (.iload_n 1, 1) := by decide +kernel
theorem dX6_requireDocument_1 : decode cX6_requireDocument 1 = .ok (.ifCond .lt 14, 3) := by decide +kernel
theorem dX6_requireDocument_4 : decode cX6_requireDocument 4 = .ok (.iload_n 1, 1) := by decide +kernel
theorem dX6_requireDocument_5 : decode cX6_requireDocument 5 = .ok (.aload_n 0, 1) := by decide +kernel
theorem dX6_requireDocument_6 : decode cX6_requireDocument 6 = .ok (.getfield 12, 3) := by decide +kernel
theorem dX6_requireDocument_9 : decode cX6_requireDocument 9 = .ok (.getfield 241, 3) := by decide +kernel
theorem dX6_requireDocument_12 : decode cX6_requireDocument 12 = .ok (.if_icmp .lt 13, 3) := by decide +kernel
theorem dX6_requireDocument_15 : decode cX6_requireDocument 15 = .ok (.new 113, 3) := by decide +kernel
theorem dX6_requireDocument_18 : decode cX6_requireDocument 18 = .ok (.dup, 1) := by decide +kernel
theorem dX6_requireDocument_19 : decode cX6_requireDocument 19 = .ok (.ldc 244, 2) := by decide +kernel
theorem dX6_requireDocument_21 : decode cX6_requireDocument 21 = .ok (.invokespecial 117, 3) := by decide +kernel
theorem dX6_requireDocument_24 : decode cX6_requireDocument 24 = .ok (.athrow, 1) := by decide +kernel
theorem dX6_requireDocument_25 : decode cX6_requireDocument 25 = .ok (.return_, 1) := by decide +kernel
theorem dX6_requireLine_0 : decode cX6_requireLine 0 = .ok (.iload_n 1, 1) := by decide +kernel
theorem dX6_requireLine_1 : decode cX6_requireLine 1 = .ok (.ifCond .lt 14, 3) := by decide +kernel
theorem dX6_requireLine_4 : decode cX6_requireLine 4 = .ok (.iload_n 1, 1) := by decide +kernel
theorem dX6_requireLine_5 : decode cX6_requireLine 5 = .ok (.aload_n 0, 1) := by decide +kernel
theorem dX6_requireLine_6 : decode cX6_requireLine 6 = .ok (.getfield 12, 3) := by decide +kernel
theorem dX6_requireLine_9 : decode cX6_requireLine 9 = .ok (.getfield 246, 3) := by decide +kernel
theorem dX6_requireLine_12 : decode cX6_requireLine 12 = .ok (.if_icmp .lt 13, 3) := by decide +kernel
theorem dX6_requireLine_15 : decode cX6_requireLine 15 = .ok (.new 113, 3) := by decide +kernel
theorem dX6_requireLine_18 : decode cX6_requireLine 18 = .ok (.dup, 1) := by decide +kernel
theorem dX6_requireLine_19 : decode cX6_requireLine 19 = .ok (.ldc 247, 2) := by decide +kernel
theorem dX6_requireLine_21 : decode cX6_requireLine 21 = .ok (.invokespecial 117, 3) := by decide +kernel
theorem dX6_requireLine_24 : decode cX6_requireLine 24 = .ok (.athrow, 1) := by decide +kernel
theorem dX6_requireLine_25 : decode cX6_requireLine 25 = .ok (.return_, 1) := by decide +kernel
theorem dX6_requireRequest_0 : decode cX6_requireRequest 0 = .ok (.iload_n 1, 1) := by decide +kernel
theorem dX6_requireRequest_1 : decode cX6_requireRequest 1 = .ok (.ifCond .lt 14, 3) := by decide +kernel
theorem dX6_requireRequest_4 : decode cX6_requireRequest 4 = .ok (.iload_n 1, 1) := by decide +kernel
theorem dX6_requireRequest_5 : decode cX6_requireRequest 5 = .ok (.aload_n 0, 1) := by decide +kernel
theorem dX6_requireRequest_6 : decode cX6_requireRequest 6 = .ok (.getfield 47, 3) := by decide +kernel
theorem dX6_requireRequest_9 : decode cX6_requireRequest 9 = .ok (.getfield 236, 3) := by decide +kernel
theorem dX6_requireRequest_12 : decode cX6_requireRequest 12 = .ok (.if_icmp .lt 13, 3) := by decide +kernel
theorem dX6_requireRequest_15 : decode cX6_requireRequest 15 = .ok (.new 113, 3) := by decide +kernel
theorem dX6_requireRequest_18 : decode cX6_requireRequest 18 = .ok (.dup, 1) := by decide +kernel
theorem dX6_requireRequest_19 : decode cX6_requireRequest 19 = .ok (.ldc 249, 2) := by decide +kernel
theorem dX6_requireRequest_21 : decode cX6_requireRequest 21 = .ok (.invokespecial 117, 3) := by decide +kernel
theorem dX6_requireRequest_24 : decode cX6_requireRequest 24 = .ok (.athrow, 1) := by decide +kernel
theorem dX6_requireRequest_25 : decode cX6_requireRequest 25 = .ok (.return_, 1) := by decide +kernel
theorem dX6_requireWaiting_0 : decode cX6_requireWaiting 0 = .ok (.aload_n 0, 1) := by decide +kernel
theorem dX6_requireWaiting_1 : decode cX6_requireWaiting 1 = .ok (.getfield 47, 3) := by decide +kernel
theorem dX6_requireWaiting_4 : decode cX6_requireWaiting 4 = .ok (.getfield 203, 3) := by decide +kernel
theorem dX6_requireWaiting_7 : decode cX6_requireWaiting 7 = .ok (.iload_n 1, 1) := by decide +kernel
theorem dX6_requireWaiting_8 : decode cX6_requireWaiting 8 = .ok (.caload, 1) := by decide +kernel
theorem dX6_requireWaiting_9 : decode cX6_requireWaiting 9 = .ok (.bipush 119, 2) := by decide +kernel
theorem dX6_requireWaiting_11 : decode cX6_requireWaiting 11 = .ok (.if_icmp .eq 13, 3) := by decide +kernel
theorem dX6_requireWaiting_14 : decode cX6_requireWaiting 14 = .ok (.new 126, 3) := by decide +kernel
theorem dX6_requireWaiting_17 : decode cX6_requireWaiting 17 = .ok (.dup, 1) := by decide +kernel
theorem dX6_requireWaiting_18 : decode cX6_requireWaiting 18 = .ok (.ldc 251, 2) := by decide +kernel
theorem dX6_requireWaiting_20 : decode cX6_requireWaiting 20 = .ok (.invokespecial 130, 3) := by decide +kernel
theorem dX6_requireWaiting_23 : decode cX6_requireWaiting 23 = .ok (.athrow, 1) := by decide +kernel
theorem dX6_requireWaiting_24 : decode cX6_requireWaiting 24 = .ok (.return_, 1) := by decide +kernel
theorem dX6_requireAsker_0 : decode cX6_requireAsker 0 = .ok (.iload_n 0, 1) := by decide +kernel
theorem dX6_requireAsker_1 : decode cX6_requireAsker 1 = .ok (.ifCond .lt 8, 3) := by decide +kernel
theorem dX6_requireAsker_4 : decode cX6_requireAsker 4 = .ok (.iload_n 0, 1) := by decide +kernel
theorem dX6_requireAsker_5 : decode cX6_requireAsker 5 = .ok (.iconst 5, 1) := by decide +kernel
theorem dX6_requireAsker_6 : decode cX6_requireAsker 6 = .ok (.if_icmp .lt 13, 3) := by decide +kernel
theorem dX6_requireAsker_9 : decode cX6_requireAsker 9 = .ok (.new 137, 3) := by decide +kernel
theorem dX6_requireAsker_12 : decode cX6_requireAsker 12 = .ok (.dup, 1) := by decide +kernel
theorem dX6_requireAsker_13 : decode cX6_requireAsker 13 = .ok (.ldc 253, 2) := by decide +kernel
theorem dX6_requireAsker_15 : decode cX6_requireAsker 15 = .ok (.invokespecial 141, 3) := by decide +kernel
theorem dX6_requireAsker_18 : decode cX6_requireAsker 18 = .ok (.athrow, 1) := by decide +kernel
theorem dX6_requireAsker_19 : decode cX6_requireAsker 19 = .ok (.return_, 1) := by decide +kernel
theorem dX6_requireNotHeld_0 : decode cX6_requireNotHeld 0 = .ok (.iload_n 1, 1) := by decide +kernel
theorem dX6_requireNotHeld_1 : decode cX6_requireNotHeld 1 = .ok (.invokestatic 146, 3) := by decide +kernel
theorem dX6_requireNotHeld_4 : decode cX6_requireNotHeld 4 = .ok (.aload_n 0, 1) := by decide +kernel
theorem dX6_requireNotHeld_5 : decode cX6_requireNotHeld 5 = .ok (.iload_n 2, 1) := by decide +kernel
theorem dX6_requireNotHeld_6 : decode cX6_requireNotHeld 6 = .ok (.invokevirtual 78, 3) := by decide +kernel
theorem dX6_requireNotHeld_9 : decode cX6_requireNotHeld 9 = .ok (.aload_n 0, 1) := by decide +kernel
theorem dX6_requireNotHeld_10 : decode cX6_requireNotHeld 10 = .ok (.getfield 51, 3) := by decide +kernel
theorem dX6_requireNotHeld_13 : decode cX6_requireNotHeld 13 = .ok (.iload_n 1, 1) := by decide +kernel
theorem dX6_requireNotHeld_14 : decode cX6_requireNotHeld 14 = .ok (.laload, 1) := by decide +kernel
theorem dX6_requireNotHeld_15 : decode cX6_requireNotHeld 15 = .ok (.iload_n 2, 1) := by decide +kernel
theorem dX6_requireNotHeld_16 : decode cX6_requireNotHeld 16 = .ok (.invokestatic 149, 3) := by decide +kernel
theorem dX6_requireNotHeld_19 : decode cX6_requireNotHeld 19 = .ok (.ifCond .eq 13, 3) := by decide +kernel
theorem dX6_requireNotHeld_22 : decode cX6_requireNotHeld 22 = .ok (.new 126, 3) := by decide +kernel
theorem dX6_requireNotHeld_25 : decode cX6_requireNotHeld 25 = .ok (.dup, 1) := by decide +kernel
theorem dX6_requireNotHeld_26 : decode cX6_requireNotHeld 26 = .ok (.ldc 255, 2) := by decide +kernel
theorem dX6_requireNotHeld_28 : decode cX6_requireNotHeld 28 = .ok (.invokespecial 130, 3) := by decide +kernel
theorem dX6_requireNotHeld_31 : decode cX6_requireNotHeld 31 = .ok (.athrow, 1) := by decide +kernel
theorem dX6_requireNotHeld_32 : decode cX6_requireNotHeld 32 = .ok (.return_, 1) := by decide +kernel
theorem dX6_requireValue_0 : decode cX6_requireValue 0 = .ok (.iload_n 0, 1) := by decide +kernel
theorem dX6_requireValue_1 : decode cX6_requireValue 1 = .ok (.ifCond .lt 10, 3) := by decide +kernel
theorem dX6_requireValue_4 : decode cX6_requireValue 4 = .ok (.iload_n 0, 1) := by decide +kernel
theorem dX6_requireValue_5 : decode cX6_requireValue 5 = .ok (.sipush 9999, 3) := by decide +kernel
theorem dX6_requireValue_8 : decode cX6_requireValue 8 = .ok (.if_icmp .le 14, 3) := by decide +kernel
theorem dX6_requireValue_11 : decode cX6_requireValue 11 = .ok (.new 137, 3) := by decide +kernel
theorem dX6_requireValue_14 : decode cX6_requireValue 14 = .ok (.dup, 1) := by decide +kernel
theorem dX6_requireValue_15 : decode cX6_requireValue 15 = .ok (.ldc_w 257, 3) := by decide +kernel
theorem dX6_requireValue_18 : decode cX6_requireValue 18 = .ok (.invokespecial 141, 3) := by decide +kernel
theorem dX6_requireValue_21 : decode cX6_requireValue 21 = .ok (.athrow, 1) := by decide +kernel
theorem dX6_requireValue_22 : decode cX6_requireValue 22 = .ok (.return_, 1) := by decide +kernel
theorem dX6_requireIndex_0 : decode cX6_requireIndex 0 = .ok (.iload_n 0, 1) := by decide +kernel
theorem dX6_requireIndex_1 : decode cX6_requireIndex 1 = .ok (.ifCond .lt 9, 3) := by decide +kernel
theorem dX6_requireIndex_4 : decode cX6_requireIndex 4 = .ok (.iload_n 0, 1) := by decide +kernel
theorem dX6_requireIndex_5 : decode cX6_requireIndex 5 = .ok (.bipush 39, 2) := by decide +kernel
theorem dX6_requireIndex_7 : decode cX6_requireIndex 7 = .ok (.if_icmp .le 14, 3) := by decide +kernel
theorem dX6_requireIndex_10 : decode cX6_requireIndex 10 = .ok (.new 137, 3) := by decide +kernel
theorem dX6_requireIndex_13 : decode cX6_requireIndex 13 = .ok (.dup, 1) := by decide +kernel
theorem dX6_requireIndex_14 : decode cX6_requireIndex 14 = .ok (.ldc_w 259, 3) := by decide +kernel
theorem dX6_requireIndex_17 : decode cX6_requireIndex 17 = .ok (.invokespecial 141, 3) := by decide +kernel
theorem dX6_requireIndex_20 : decode cX6_requireIndex 20 = .ok (.athrow, 1) := by decide +kernel
theorem dX6_requireIndex_21 : decode cX6_requireIndex 21 = .ok (.return_, 1) := by decide +kernel
theorem dX6_requireRising_0 : decode cX6_requireRising 0 = .ok (.iload_n 1, 1) := by decide +kernel
theorem dX6_requireRising_1 : decode cX6_requireRising 1 = .ok (.iload_n 0, 1) := by decide +kernel
theorem dX6_requireRising_2 : decode cX6_requireRising 2 = .ok (.if_icmp .ge 14, 3) := by decide +kernel
theorem dX6_requireRising_5 : decode cX6_requireRising 5 = .ok (.new 137, 3) := by decide +kernel
theorem dX6_requireRising_8 : decode cX6_requireRising 8 = .ok (.dup, 1) := by decide +kernel
theorem dX6_requireRising_9 : decode cX6_requireRising 9 = .ok (.ldc_w 261, 3) := by decide +kernel
theorem dX6_requireRising_12 : decode cX6_requireRising 12 = .ok (.invokespecial 141, 3) := by decide +kernel
theorem dX6_requireRising_15 : decode cX6_requireRising 15 = .ok (.athrow, 1) := by decide +kernel
theorem dX6_requireRising_16 : decode cX6_requireRising 16 = .ok (.return_, 1) := by decide +kernel
theorem dX6_requireLastDay_0 : decode cX6_requireLastDay 0 = .ok (.iload_n 1, 1) := by decide +kernel
theorem dX6_requireLastDay_1 : decode cX6_requireLastDay 1 = .ok (.aload_n 0, 1) := by decide +kernel
theorem dX6_requireLastDay_2 : decode cX6_requireLastDay 2 = .ok (.getfield 120, 3) := by decide +kernel
theorem dX6_requireLastDay_5 : decode cX6_requireLastDay 5 = .ok (.if_icmp .lt 10, 3) := by decide +kernel
theorem dX6_requireLastDay_8 : decode cX6_requireLastDay 8 = .ok (.iload_n 1, 1) := by decide +kernel
theorem dX6_requireLastDay_9 : decode cX6_requireLastDay 9 = .ok (.sipush 9999, 3) := by decide +kernel
theorem dX6_requireLastDay_12 : decode cX6_requireLastDay 12 = .ok (.if_icmp .le 14, 3) := by decide +kernel
theorem dX6_requireLastDay_15 : decode cX6_requireLastDay 15 = .ok (.new 137, 3) := by decide +kernel
theorem dX6_requireLastDay_18 : decode cX6_requireLastDay 18 = .ok (.dup, 1) := by decide +kernel
theorem dX6_requireLastDay_19 : decode cX6_requireLastDay 19 = .ok (.ldc_w 263, 3) := by decide +kernel
theorem dX6_requireLastDay_22 : decode cX6_requireLastDay 22 = .ok (.invokespecial 141, 3) := by decide +kernel
theorem dX6_requireLastDay_25 : decode cX6_requireLastDay 25 = .ok (.athrow, 1) := by decide +kernel
theorem dX6_requireLastDay_26 : decode cX6_requireLastDay 26 = .ok (.return_, 1) := by decide +kernel
theorem dX6_isHiddenByRule_0 : decode cX6_isHiddenByRule 0 = .ok (.aload_n 0, 1) := by decide +kernel
theorem dX6_isHiddenByRule_1 : decode cX6_isHiddenByRule 1 = .ok (.getfield 19, 3) := by decide +kernel
theorem dX6_isHiddenByRule_4 : decode cX6_isHiddenByRule 4 = .ok (.aload_n 0, 1) := by decide +kernel
theorem dX6_isHiddenByRule_5 : decode cX6_isHiddenByRule 5 = .ok (.getfield 12, 3) := by decide +kernel
theorem dX6_isHiddenByRule_8 : decode cX6_isHiddenByRule 8 = .ok (.getfield 81, 3) := by decide +kernel
theorem dX6_isHiddenByRule_11 : decode cX6_isHiddenByRule 11 = .ok (.iload_n 1, 1) := by decide +kernel
theorem dX6_isHiddenByRule_12 : decode cX6_isHiddenByRule 12 = .ok (.iaload, 1) := by decide +kernel
theorem dX6_isHiddenByRule_13 : decode cX6_isHiddenByRule 13 = .ok (.aload_n 0, 1) := by decide +kernel
theorem dX6_isHiddenByRule_14 : decode cX6_isHiddenByRule 14 = .ok (.getfield 120, 3) := by decide +kernel
theorem dX6_isHiddenByRule_17 : decode cX6_isHiddenByRule 17 = .ok (.invokevirtual 265, 3) := by decide +kernel
theorem dX6_isHiddenByRule_20 : decode cX6_isHiddenByRule 20 = .ok (.ireturn, 1) := by decide +kernel
theorem dX6_isHiddenBySpan_0 : decode cX6_isHiddenBySpan 0 = .ok (.aload_n 0, 1) := by decide +kernel
theorem dX6_isHiddenBySpan_1 : decode cX6_isHiddenBySpan 1 = .ok (.getfield 26, 3) := by decide +kernel
theorem dX6_isHiddenBySpan_4 : decode cX6_isHiddenBySpan 4 = .ok (.aload_n 0, 1) := by decide +kernel
theorem dX6_isHiddenBySpan_5 : decode cX6_isHiddenBySpan 5 = .ok (.getfield 12, 3) := by decide +kernel
theorem dX6_isHiddenBySpan_8 : decode cX6_isHiddenBySpan 8 = .ok (.getfield 84, 3) := by decide +kernel
theorem dX6_isHiddenBySpan_11 : decode cX6_isHiddenBySpan 11 = .ok (.iload_n 1, 1) := by decide +kernel
theorem dX6_isHiddenBySpan_12 : decode cX6_isHiddenBySpan 12 = .ok (.iaload, 1) := by decide +kernel
theorem dX6_isHiddenBySpan_13 : decode cX6_isHiddenBySpan 13 = .ok (.aload_n 0, 1) := by decide +kernel
theorem dX6_isHiddenBySpan_14 : decode cX6_isHiddenBySpan 14 = .ok (.getfield 12, 3) := by decide +kernel
theorem dX6_isHiddenBySpan_17 : decode cX6_isHiddenBySpan 17 = .ok (.getfield 87, 3) := by decide +kernel
theorem dX6_isHiddenBySpan_20 : decode cX6_isHiddenBySpan 20 = .ok (.iload_n 1, 1) := by decide +kernel
theorem dX6_isHiddenBySpan_21 : decode cX6_isHiddenBySpan 21 = .ok (.iaload, 1) := by decide +kernel
theorem dX6_isHiddenBySpan_22 : decode cX6_isHiddenBySpan 22 = .ok (.aload_n 0, 1) := by decide +kernel
theorem dX6_isHiddenBySpan_23 : decode cX6_isHiddenBySpan 23 = .ok (.getfield 120, 3) := by decide +kernel
theorem dX6_isHiddenBySpan_26 : decode cX6_isHiddenBySpan 26 = .ok (.invokevirtual 268, 3) := by decide +kernel
theorem dX6_isHiddenBySpan_29 : decode cX6_isHiddenBySpan 29 = .ok (.ireturn, 1) := by decide +kernel
theorem dX6_isHiddenToday_0 : decode cX6_isHiddenToday 0 = .ok (.aload_n 0, 1) := by decide +kernel
theorem dX6_isHiddenToday_1 : decode cX6_isHiddenToday 1 = .ok (.iload_n 1, 1) := by decide +kernel
theorem dX6_isHiddenToday_2 : decode cX6_isHiddenToday 2 = .ok (.invokevirtual 173, 3) := by decide +kernel
theorem dX6_isHiddenToday_5 : decode cX6_isHiddenToday 5 = .ok (.ifCond .ne 11, 3) := by decide +kernel
theorem dX6_isHiddenToday_8 : decode cX6_isHiddenToday 8 = .ok (.aload_n 0, 1) := by decide +kernel
theorem dX6_isHiddenToday_9 : decode cX6_isHiddenToday 9 = .ok (.iload_n 1, 1) := by decide +kernel
theorem dX6_isHiddenToday_10 : decode cX6_isHiddenToday 10 = .ok (.invokevirtual 181, 3) := by decide +kernel
theorem dX6_isHiddenToday_13 : decode cX6_isHiddenToday 13 = .ok (.ifCond .eq 7, 3) := by decide +kernel
theorem dX6_isHiddenToday_16 : decode cX6_isHiddenToday 16 = .ok (.iconst 1, 1) := by decide +kernel
theorem dX6_isHiddenToday_17 : decode cX6_isHiddenToday 17 = .ok (.goto 4, 3) := by decide +kernel
theorem dX6_isHiddenToday_20 : decode cX6_isHiddenToday 20 = .ok (.iconst 0, 1) := by decide +kernel
theorem dX6_isHiddenToday_21 : decode cX6_isHiddenToday 21 = .ok (.ireturn, 1) := by decide +kernel
theorem dX6_countHidden_0 : decode cX6_countHidden 0 = .ok (.iconst 0, 1) := by decide +kernel
theorem dX6_countHidden_1 : decode cX6_countHidden 1 = .ok (.istore_n 1, 1) := by decide +kernel
theorem dX6_countHidden_2 : decode cX6_countHidden 2 = .ok (.iconst 0, 1) := by decide +kernel
theorem dX6_countHidden_3 : decode cX6_countHidden 3 = .ok (.istore_n 2, 1) := by decide +kernel
theorem dX6_countHidden_4 : decode cX6_countHidden 4 = .ok (.iload_n 2, 1) := by decide +kernel
theorem dX6_countHidden_5 : decode cX6_countHidden 5 = .ok (.aload_n 0, 1) := by decide +kernel
theorem dX6_countHidden_6 : decode cX6_countHidden 6 = .ok (.getfield 12, 3) := by decide +kernel
theorem dX6_countHidden_9 : decode cX6_countHidden 9 = .ok (.getfield 246, 3) := by decide +kernel
theorem dX6_countHidden_12 : decode cX6_countHidden 12 = .ok (.if_icmp .ge 20, 3) := by decide +kernel
theorem dX6_countHidden_15 : decode cX6_countHidden 15 = .ok (.aload_n 0, 1) := by decide +kernel
theorem dX6_countHidden_16 : decode cX6_countHidden 16 = .ok (.iload_n 2, 1) := by decide +kernel
theorem dX6_countHidden_17 : decode cX6_countHidden 17 = .ok (.invokevirtual 134, 3) := by decide +kernel
theorem dX6_countHidden_20 : decode cX6_countHidden 20 = .ok (.ifCond .eq 6, 3) := by decide +kernel
theorem dX6_countHidden_23 : decode cX6_countHidden 23 = .ok (.iinc 1 1, 3) := by decide +kernel
theorem dX6_countHidden_26 : decode cX6_countHidden 26 = .ok (.iinc 2 1, 3) := by decide +kernel
theorem dX6_countHidden_29 : decode cX6_countHidden 29 = .ok (.goto (-25), 3) := by decide +kernel
theorem dX6_countHidden_32 : decode cX6_countHidden 32 = .ok (.iload_n 1, 1) := by decide +kernel
theorem dX6_countHidden_33 : decode cX6_countHidden 33 = .ok (.ireturn, 1) := by decide +kernel
theorem dX6_countHidingReasons_0 : decode cX6_countHidingReasons 0 = .ok (.aload_n 0, 1) := by decide +kernel
theorem dX6_countHidingReasons_1 : decode cX6_countHidingReasons 1 = .ok (.iload_n 1, 1) := by decide +kernel
theorem dX6_countHidingReasons_2 : decode cX6_countHidingReasons 2 = .ok (.invokevirtual 173, 3) := by decide +kernel
theorem dX6_countHidingReasons_5 : decode cX6_countHidingReasons 5 = .ok (.ifCond .eq 7, 3) := by decide +kernel
theorem dX6_countHidingReasons_8 : decode cX6_countHidingReasons 8 = .ok (.iconst 1, 1) := by decide +kernel
theorem dX6_countHidingReasons_9 : decode cX6_countHidingReasons 9 = .ok (.goto 4, 3) := by decide +kernel
theorem dX6_countHidingReasons_12 : decode cX6_countHidingReasons 12 = .ok (.iconst 0, 1) := by decide +kernel
theorem dX6_countHidingReasons_13 : decode cX6_countHidingReasons 13 = .ok (.istore_n 2, 1) := by decide +kernel
theorem dX6_countHidingReasons_14 : decode cX6_countHidingReasons 14 = .ok (.aload_n 0, 1) := by decide +kernel
theorem dX6_countHidingReasons_15 : decode cX6_countHidingReasons 15 = .ok (.iload_n 1, 1) := by decide +kernel
theorem dX6_countHidingReasons_16 : decode cX6_countHidingReasons 16 = .ok (.invokevirtual 181, 3) := by decide +kernel
theorem dX6_countHidingReasons_19 : decode cX6_countHidingReasons 19 = .ok (.ifCond .eq 7, 3) := by decide +kernel
theorem dX6_countHidingReasons_22 : decode cX6_countHidingReasons 22 = .ok (.iconst 1, 1) := by decide +kernel
theorem dX6_countHidingReasons_23 : decode cX6_countHidingReasons 23 = .ok (.goto 4, 3) := by decide +kernel
theorem dX6_countHidingReasons_26 : decode cX6_countHidingReasons 26 = .ok (.iconst 0, 1) := by decide +kernel
theorem dX6_countHidingReasons_27 : decode cX6_countHidingReasons 27 = .ok (.istore_n 3, 1) := by decide +kernel
theorem dX6_countHidingReasons_28 : decode cX6_countHidingReasons 28 = .ok (.iload_n 2, 1) := by decide +kernel
theorem dX6_countHidingReasons_29 : decode cX6_countHidingReasons 29 = .ok (.iload_n 3, 1) := by decide +kernel
theorem dX6_countHidingReasons_30 : decode cX6_countHidingReasons 30 = .ok (.iadd, 1) := by decide +kernel
theorem dX6_countHidingReasons_31 : decode cX6_countHidingReasons 31 = .ok (.ireturn, 1) := by decide +kernel
theorem dX6_findProtectedLine_0 : decode cX6_findProtectedLine 0 = .ok (.aload_n 0, 1) := by decide +kernel
theorem dX6_findProtectedLine_1 : decode cX6_findProtectedLine 1 = .ok (.iload_n 2, 1) := by decide +kernel
theorem dX6_findProtectedLine_2 : decode cX6_findProtectedLine 2 = .ok (.invokevirtual 134, 3) := by decide +kernel
theorem dX6_findProtectedLine_5 : decode cX6_findProtectedLine 5 = .ok (.ifCond .eq 5, 3) := by decide +kernel
theorem dX6_findProtectedLine_8 : decode cX6_findProtectedLine 8 = .ok (.iload_n 2, 1) := by decide +kernel
theorem dX6_findProtectedLine_9 : decode cX6_findProtectedLine 9 = .ok (.ireturn, 1) := by decide +kernel
theorem dX6_findProtectedLine_10 : decode cX6_findProtectedLine 10 = .ok (.aload_n 0, 1) := by decide +kernel
theorem dX6_findProtectedLine_11 : decode cX6_findProtectedLine 11 = .ok (.getfield 51, 3) := by decide +kernel
theorem dX6_findProtectedLine_14 : decode cX6_findProtectedLine 14 = .ok (.iload_n 1, 1) := by decide +kernel
theorem dX6_findProtectedLine_15 : decode cX6_findProtectedLine 15 = .ok (.laload, 1) := by decide +kernel
theorem dX6_findProtectedLine_16 : decode cX6_findProtectedLine 16 = .ok (.lstore_n 3, 1) := by decide +kernel
theorem dX6_findProtectedLine_17 : decode cX6_findProtectedLine 17 = .ok (.aload_n 0, 1) := by decide +kernel
theorem dX6_findProtectedLine_18 : decode cX6_findProtectedLine 18 = .ok (.getfield 33, 3) := by decide +kernel
theorem dX6_findProtectedLine_21 : decode cX6_findProtectedLine 21 = .ok (.lload_n 3, 1) := by decide +kernel
theorem dX6_findProtectedLine_22 : decode cX6_findProtectedLine 22 = .ok (.iload_n 2, 1) := by decide +kernel
theorem dX6_findProtectedLine_23 : decode cX6_findProtectedLine 23 = .ok (.invokestatic 271, 3) := by decide +kernel
theorem dX6_findProtectedLine_26 : decode cX6_findProtectedLine 26 = .ok (.lor, 1) := by decide +kernel
theorem dX6_findProtectedLine_27 : decode cX6_findProtectedLine 27 = .ok (.invokevirtual 157, 3) := by decide +kernel
theorem dX6_findProtectedLine_30 : decode cX6_findProtectedLine 30 = .ok (.lstore 5, 2) := by decide +kernel
theorem dX6_findProtectedLine_32 : decode cX6_findProtectedLine 32 = .ok (.aload_n 0, 1) := by decide +kernel
theorem dX6_findProtectedLine_33 : decode cX6_findProtectedLine 33 = .ok (.lload 5, 2) := by decide +kernel
theorem dX6_findProtectedLine_35 : decode cX6_findProtectedLine 35 = .ok (.lload_n 3, 1) := by decide +kernel
theorem dX6_findProtectedLine_36 : decode cX6_findProtectedLine 36 = .ok (.ldc2_w 274, 3) := by decide +kernel
theorem dX6_findProtectedLine_39 : decode cX6_findProtectedLine 39 = .ok (.lxor, 1) := by decide +kernel
theorem dX6_findProtectedLine_40 : decode cX6_findProtectedLine 40 = .ok (.land, 1) := by decide +kernel
theorem dX6_findProtectedLine_41 : decode cX6_findProtectedLine 41 = .ok (.invokevirtual 276, 3) := by decide +kernel
theorem dX6_findProtectedLine_44 : decode cX6_findProtectedLine 44 = .ok (.ireturn, 1) := by decide +kernel
theorem dX6_findLowestHidden_0 : decode cX6_findLowestHidden 0 = .ok (.iconst 0, 1) := by decide +kernel
theorem dX6_findLowestHidden_1 : decode cX6_findLowestHidden 1 = .ok (.istore_n 3, 1) := by decide +kernel
theorem dX6_findLowestHidden_2 : decode cX6_findLowestHidden 2 = .ok (.iload_n 3, 1) := by decide +kernel
theorem dX6_findLowestHidden_3 : decode cX6_findLowestHidden 3 = .ok (.aload_n 0, 1) := by decide +kernel
theorem dX6_findLowestHidden_4 : decode cX6_findLowestHidden 4 = .ok (.getfield 12, 3) := by decide +kernel
theorem dX6_findLowestHidden_7 : decode cX6_findLowestHidden 7 = .ok (.getfield 246, 3) := by decide +kernel
theorem dX6_findLowestHidden_10 : decode cX6_findLowestHidden 10 = .ok (.if_icmp .ge 27, 3) := by decide +kernel
theorem dX6_findLowestHidden_13 : decode cX6_findLowestHidden 13 = .ok (.lload_n 1, 1) := by decide +kernel
theorem dX6_findLowestHidden_14 : decode cX6_findLowestHidden 14 = .ok (.iload_n 3, 1) := by decide +kernel
theorem dX6_findLowestHidden_15 : decode cX6_findLowestHidden 15 = .ok (.invokestatic 149, 3) := by decide +kernel
theorem dX6_findLowestHidden_18 : decode cX6_findLowestHidden 18 = .ok (.ifCond .eq 13, 3) := by decide +kernel
theorem dX6_findLowestHidden_21 : decode cX6_findLowestHidden 21 = .ok (.aload_n 0, 1) := by decide +kernel
theorem dX6_findLowestHidden_22 : decode cX6_findLowestHidden 22 = .ok (.iload_n 3, 1) := by decide +kernel
theorem dX6_findLowestHidden_23 : decode cX6_findLowestHidden 23 = .ok (.invokevirtual 134, 3) := by decide +kernel
theorem dX6_findLowestHidden_26 : decode cX6_findLowestHidden 26 = .ok (.ifCond .eq 5, 3) := by decide +kernel
theorem dX6_findLowestHidden_29 : decode cX6_findLowestHidden 29 = .ok (.iload_n 3, 1) := by decide +kernel
theorem dX6_findLowestHidden_30 : decode cX6_findLowestHidden 30 = .ok (.ireturn, 1) := by decide +kernel
theorem dX6_findLowestHidden_31 : decode cX6_findLowestHidden 31 = .ok (.iinc 3 1, 3) := by decide +kernel
theorem dX6_findLowestHidden_34 : decode cX6_findLowestHidden 34 = .ok (.goto (-32), 3) := by decide +kernel
theorem dX6_findLowestHidden_37 : decode cX6_findLowestHidden 37 = .ok (.iconst (-1), 1) := by decide +kernel
theorem dX6_findLowestHidden_38 : decode cX6_findLowestHidden 38 = .ok (.ireturn, 1) := by decide +kernel
theorem dX6_giveDocument_0 : decode cX6_giveDocument 0 = .ok (.iconst 0, 1) := by decide +kernel
theorem dX6_giveDocument_1 : decode cX6_giveDocument 1 = .ok (.istore_n 3, 1) := by decide +kernel
theorem dX6_giveDocument_2 : decode cX6_giveDocument 2 = .ok (.iconst 0, 1) := by decide +kernel
theorem dX6_giveDocument_3 : decode cX6_giveDocument 3 = .ok (.istore 4, 2) := by decide +kernel
theorem dX6_giveDocument_5 : decode cX6_giveDocument 5 = .ok (.iload 4, 2) := by decide +kernel
theorem dX6_giveDocument_7 : decode cX6_giveDocument 7 = .ok (.aload_n 0, 1) := by decide +kernel
theorem dX6_giveDocument_8 : decode cX6_giveDocument 8 = .ok (.getfield 12, 3) := by decide +kernel
theorem dX6_giveDocument_11 : decode cX6_giveDocument 11 = .ok (.getfield 246, 3) := by decide +kernel
theorem dX6_giveDocument_14 : decode cX6_giveDocument 14 = .ok (.if_icmp .ge 58, 3) := by decide +kernel
theorem dX6_giveDocument_17 : decode cX6_giveDocument 17 = .ok (.aload_n 0, 1) := by decide +kernel
theorem dX6_giveDocument_18 : decode cX6_giveDocument 18 = .ok (.getfield 12, 3) := by decide +kernel
theorem dX6_giveDocument_21 : decode cX6_giveDocument 21 = .ok (.getfield 84, 3) := by decide +kernel
theorem dX6_giveDocument_24 : decode cX6_giveDocument 24 = .ok (.iload 4, 2) := by decide +kernel
theorem dX6_giveDocument_26 : decode cX6_giveDocument 26 = .ok (.iaload, 1) := by decide +kernel
theorem dX6_giveDocument_27 : decode cX6_giveDocument 27 = .ok (.iload_n 2, 1) := by decide +kernel
theorem dX6_giveDocument_28 : decode cX6_giveDocument 28 = .ok (.if_icmp .ne 38, 3) := by decide +kernel
theorem dX6_giveDocument_31 : decode cX6_giveDocument 31 = .ok (.aload_n 0, 1) := by decide +kernel
theorem dX6_giveDocument_32 : decode cX6_giveDocument 32 = .ok (.getfield 51, 3) := by decide +kernel
theorem dX6_giveDocument_35 : decode cX6_giveDocument 35 = .ok (.iload_n 1, 1) := by decide +kernel
theorem dX6_giveDocument_36 : decode cX6_giveDocument 36 = .ok (.laload, 1) := by decide +kernel
theorem dX6_giveDocument_37 : decode cX6_giveDocument 37 = .ok (.iload 4, 2) := by decide +kernel
theorem dX6_giveDocument_39 : decode cX6_giveDocument 39 = .ok (.invokestatic 149, 3) := by decide +kernel
theorem dX6_giveDocument_42 : decode cX6_giveDocument 42 = .ok (.ifCond .ne 24, 3) := by decide +kernel
theorem dX6_giveDocument_45 : decode cX6_giveDocument 45 = .ok (.aload_n 0, 1) := by decide +kernel
theorem dX6_giveDocument_46 : decode cX6_giveDocument 46 = .ok (.iload_n 1, 1) := by decide +kernel
theorem dX6_giveDocument_47 : decode cX6_giveDocument 47 = .ok (.iload 4, 2) := by decide +kernel
theorem dX6_giveDocument_49 : decode cX6_giveDocument 49 = .ok (.invokevirtual 170, 3) := by decide +kernel
theorem dX6_giveDocument_52 : decode cX6_giveDocument 52 = .ok (.iconst (-1), 1) := by decide +kernel
theorem dX6_giveDocument_53 : decode cX6_giveDocument 53 = .ok (.if_icmp .ne 13, 3) := by decide +kernel
theorem dX6_giveDocument_56 : decode cX6_giveDocument 56 = .ok (.aload_n 0, 1) := by decide +kernel
theorem dX6_giveDocument_57 : decode cX6_giveDocument 57 = .ok (.iload_n 1, 1) := by decide +kernel
theorem dX6_giveDocument_58 : decode cX6_giveDocument 58 = .ok (.iload 4, 2) := by decide +kernel
theorem dX6_giveDocument_60 : decode cX6_giveDocument 60 = .ok (.invokevirtual 279, 3) := by decide +kernel
theorem dX6_giveDocument_63 : decode cX6_giveDocument 63 = .ok (.iinc 3 1, 3) := by decide +kernel
theorem dX6_giveDocument_66 : decode cX6_giveDocument 66 = .ok (.iinc 4 1, 3) := by decide +kernel
theorem dX6_giveDocument_69 : decode cX6_giveDocument 69 = .ok (.goto (-64), 3) := by decide +kernel
theorem dX6_giveDocument_72 : decode cX6_giveDocument 72 = .ok (.iload_n 3, 1) := by decide +kernel
theorem dX6_giveDocument_73 : decode cX6_giveDocument 73 = .ok (.ireturn, 1) := by decide +kernel
theorem dX6_give_0 : decode cX6_give 0 = .ok (.aload_n 0, 1) := by decide +kernel
theorem dX6_give_1 : decode cX6_give 1 = .ok (.getfield 40, 3) := by decide +kernel
theorem dX6_give_4 : decode cX6_give 4 = .ok (.iload_n 1, 1) := by decide +kernel
theorem dX6_give_5 : decode cX6_give 5 = .ok (.iload_n 2, 1) := by decide +kernel
theorem dX6_give_6 : decode cX6_give 6 = .ok (.invokevirtual 282, 3) := by decide +kernel
theorem dX6_give_9 : decode cX6_give 9 = .ok (.aload_n 0, 1) := by decide +kernel
theorem dX6_give_10 : decode cX6_give 10 = .ok (.getfield 51, 3) := by decide +kernel
theorem dX6_give_13 : decode cX6_give 13 = .ok (.iload_n 1, 1) := by decide +kernel
theorem dX6_give_14 : decode cX6_give 14 = .ok (.aload_n 0, 1) := by decide +kernel
theorem dX6_give_15 : decode cX6_give 15 = .ok (.getfield 33, 3) := by decide +kernel
theorem dX6_give_18 : decode cX6_give 18 = .ok (.aload_n 0, 1) := by decide +kernel
theorem dX6_give_19 : decode cX6_give 19 = .ok (.getfield 51, 3) := by decide +kernel
theorem dX6_give_22 : decode cX6_give 22 = .ok (.iload_n 1, 1) := by decide +kernel
theorem dX6_give_23 : decode cX6_give 23 = .ok (.laload, 1) := by decide +kernel
theorem dX6_give_24 : decode cX6_give 24 = .ok (.iload_n 2, 1) := by decide +kernel
theorem dX6_give_25 : decode cX6_give 25 = .ok (.invokestatic 271, 3) := by decide +kernel
theorem dX6_give_28 : decode cX6_give 28 = .ok (.lor, 1) := by decide +kernel
theorem dX6_give_29 : decode cX6_give 29 = .ok (.invokevirtual 157, 3) := by decide +kernel
theorem dX6_give_32 : decode cX6_give 32 = .ok (.lastore, 1) := by decide +kernel
theorem dX6_give_33 : decode cX6_give 33 = .ok (.aload_n 0, 1) := by decide +kernel
theorem dX6_give_34 : decode cX6_give 34 = .ok (.getfield 55, 3) := by decide +kernel
theorem dX6_give_37 : decode cX6_give 37 = .ok (.iload_n 1, 1) := by decide +kernel
theorem dX6_give_38 : decode cX6_give 38 = .ok (.dup2, 1) := by decide +kernel
theorem dX6_give_39 : decode cX6_give 39 = .ok (.iaload, 1) := by decide +kernel
theorem dX6_give_40 : decode cX6_give 40 = .ok (.aload_n 0, 1) := by decide +kernel
theorem dX6_give_41 : decode cX6_give 41 = .ok (.getfield 59, 3) := by decide +kernel
theorem dX6_give_44 : decode cX6_give 44 = .ok (.iadd, 1) := by decide +kernel
theorem dX6_give_45 : decode cX6_give 45 = .ok (.iastore, 1) := by decide +kernel
theorem dX6_give_46 : decode cX6_give 46 = .ok (.aload_n 0, 1) := by decide +kernel
theorem dX6_give_47 : decode cX6_give 47 = .ok (.dup, 1) := by decide +kernel
theorem dX6_give_48 : decode cX6_give 48 = .ok (.getfield 232, 3) := by decide +kernel
theorem dX6_give_51 : decode cX6_give 51 = .ok (.aload_n 0, 1) := by decide +kernel
theorem dX6_give_52 : decode cX6_give 52 = .ok (.getfield 59, 3) := by decide +kernel
theorem dX6_give_55 : decode cX6_give 55 = .ok (.i2l, 1) := by decide +kernel
theorem dX6_give_56 : decode cX6_give 56 = .ok (.ladd, 1) := by decide +kernel
theorem dX6_give_57 : decode cX6_give 57 = .ok (.putfield 232, 3) := by decide +kernel
theorem dX6_give_60 : decode cX6_give 60 = .ok (.return_, 1) := by decide +kernel
theorem dX6_growAllHeld_0 : decode cX6_growAllHeld 0 = .ok (.iconst 0, 1) := by decide +kernel
theorem dX6_growAllHeld_1 : decode cX6_growAllHeld 1 = .ok (.istore_n 1, 1) := by decide +kernel
theorem dX6_growAllHeld_2 : decode cX6_growAllHeld 2 = .ok (.iload_n 1, 1) := by decide +kernel
theorem dX6_growAllHeld_3 : decode cX6_growAllHeld 3 = .ok (.iconst 5, 1) := by decide +kernel
theorem dX6_growAllHeld_4 : decode cX6_growAllHeld 4 = .ok (.if_icmp .ge 28, 3) := by decide +kernel
theorem dX6_growAllHeld_7 : decode cX6_growAllHeld 7 = .ok (.aload_n 0, 1) := by decide +kernel
theorem dX6_growAllHeld_8 : decode cX6_growAllHeld 8 = .ok (.getfield 51, 3) := by decide +kernel
theorem dX6_growAllHeld_11 : decode cX6_growAllHeld 11 = .ok (.iload_n 1, 1) := by decide +kernel
theorem dX6_growAllHeld_12 : decode cX6_growAllHeld 12 = .ok (.aload_n 0, 1) := by decide +kernel
theorem dX6_growAllHeld_13 : decode cX6_growAllHeld 13 = .ok (.getfield 33, 3) := by decide +kernel
theorem dX6_growAllHeld_16 : decode cX6_growAllHeld 16 = .ok (.aload_n 0, 1) := by decide +kernel
theorem dX6_growAllHeld_17 : decode cX6_growAllHeld 17 = .ok (.getfield 51, 3) := by decide +kernel
theorem dX6_growAllHeld_20 : decode cX6_growAllHeld 20 = .ok (.iload_n 1, 1) := by decide +kernel
theorem dX6_growAllHeld_21 : decode cX6_growAllHeld 21 = .ok (.laload, 1) := by decide +kernel
theorem dX6_growAllHeld_22 : decode cX6_growAllHeld 22 = .ok (.invokevirtual 157, 3) := by decide +kernel
theorem dX6_growAllHeld_25 : decode cX6_growAllHeld 25 = .ok (.lastore, 1) := by decide +kernel
theorem dX6_growAllHeld_26 : decode cX6_growAllHeld 26 = .ok (.iinc 1 1, 3) := by decide +kernel
theorem dX6_growAllHeld_29 : decode cX6_growAllHeld 29 = .ok (.goto (-27), 3) := by decide +kernel
theorem dX6_growAllHeld_32 : decode cX6_growAllHeld 32 = .ok (.return_, 1) := by decide +kernel
theorem dX6_bitOf_0 : decode cX6_bitOf 0 = .ok (.lconst 1, 1) := by decide +kernel
theorem dX6_bitOf_1 : decode cX6_bitOf 1 = .ok (.iload_n 0, 1) := by decide +kernel
theorem dX6_bitOf_2 : decode cX6_bitOf 2 = .ok (.lshl, 1) := by decide +kernel
theorem dX6_bitOf_3 : decode cX6_bitOf 3 = .ok (.lreturn, 1) := by decide +kernel
theorem dX6_contains_0 : decode cX6_contains 0 = .ok (.lload_n 0, 1) := by decide +kernel
theorem dX6_contains_1 : decode cX6_contains 1 = .ok (.iload_n 2, 1) := by decide +kernel
theorem dX6_contains_2 : decode cX6_contains 2 = .ok (.invokestatic 271, 3) := by decide +kernel
theorem dX6_contains_5 : decode cX6_contains 5 = .ok (.land, 1) := by decide +kernel
theorem dX6_contains_6 : decode cX6_contains 6 = .ok (.lconst 0, 1) := by decide +kernel
theorem dX6_contains_7 : decode cX6_contains 7 = .ok (.lcmp, 1) := by decide +kernel
theorem dX6_contains_8 : decode cX6_contains 8 = .ok (.ifCond .eq 7, 3) := by decide +kernel
theorem dX6_contains_11 : decode cX6_contains 11 = .ok (.iconst 1, 1) := by decide +kernel
theorem dX6_contains_12 : decode cX6_contains 12 = .ok (.goto 4, 3) := by decide +kernel
theorem dX6_contains_15 : decode cX6_contains 15 = .ok (.iconst 0, 1) := by decide +kernel
theorem dX6_contains_16 : decode cX6_contains 16 = .ok (.ireturn, 1) := by decide +kernel
