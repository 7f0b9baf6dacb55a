theorem dL_cell_0 : decode cL_cell 0 = .ok (.aload_n 0, 1) := by decide +kernel
theorem dL_cell_1 : decode cL_cell 1 = .ok (.arraylength, 1) := by decide +kernel
theorem dL_cell_2 : decode cL_cell 2 = .ok (.ifCond .ne 13, 3) := by decide +kernel
theorem dL_cell_5 : decode cL_cell 5 = .ok (.bipush 71, 2) := by decide +kernel
theorem dL_cell_7 : decode cL_cell 7 = .ok (.iload_n 1, 1) := by decide +kernel
theorem dL_cell_8 : decode cL_cell 8 = .ok (.imul, 1) := by decide +kernel
theorem dL_cell_9 : decode cL_cell 9 = .ok (.bipush 13, 2) := by decide +kernel
theorem dL_cell_11 : decode cL_cell 11 = .ok (.iadd, 1) := by decide +kernel
theorem dL_cell_12 : decode cL_cell 12 = .ok (.goto 12, 3) := by decide +kernel
theorem dL_cell_15 : decode cL_cell 15 = .ok (.aload_n 0, 1) := by decide +kernel
theorem dL_cell_16 : decode cL_cell 16 = .ok (.iload_n 1, 1) := by decide +kernel
theorem dL_cell_17 : decode cL_cell 17 = .ok (.ldc 7, 2) := by decide +kernel
theorem dL_cell_19 : decode cL_cell 19 = .ok (.iand, 1) := by decide +kernel
theorem dL_cell_20 : decode cL_cell 20 = .ok (.aload_n 0, 1) := by decide +kernel
theorem dL_cell_21 : decode cL_cell 21 = .ok (.arraylength, 1) := by decide +kernel
theorem dL_cell_22 : decode cL_cell 22 = .ok (.irem, 1) := by decide +kernel
theorem dL_cell_23 : decode cL_cell 23 = .ok (.iaload, 1) := by decide +kernel
theorem dL_cell_24 : decode cL_cell 24 = .ok (.ireturn, 1) := by decide +kernel
theorem dL_addDocument_0 : decode cL_addDocument 0 = .ok (.aload_n 0, 1) := by decide +kernel
theorem dL_addDocument_1 : decode cL_addDocument 1 = .ok (.invokevirtual 8, 3) := by decide +kernel
theorem dL_addDocument_4 : decode cL_addDocument 4 = .ok (.ireturn, 1) := by decide +kernel
theorem dL_addDocument_5 : decode cL_addDocument 5 = .ok (.astore_n 1, 1) := by decide +kernel
theorem dL_addDocument_6 : decode cL_addDocument 6 = .ok (.iconst (-1), 1) := by decide +kernel
theorem dL_addDocument_7 : decode cL_addDocument 7 = .ok (.ireturn, 1) := by decide +kernel
theorem dL_addLine_0 : decode cL_addLine 0 = .ok (.aload_n 0, 1) := by decide +kernel
theorem dL_addLine_1 : decode cL_addLine 1 = .ok (.iload_n 1, 1) := by decide +kernel
theorem dL_addLine_2 : decode cL_addLine 2 = .ok (.iload_n 2, 1) := by decide +kernel
theorem dL_addLine_3 : decode cL_addLine 3 = .ok (.invokevirtual 16, 3) := by decide +kernel
theorem dL_addLine_6 : decode cL_addLine 6 = .ok (.ireturn, 1) := by decide +kernel
theorem dL_addLine_7 : decode cL_addLine 7 = .ok (.astore_n 3, 1) := by decide +kernel
theorem dL_addLine_8 : decode cL_addLine 8 = .ok (.iconst (-1), 1) := by decide +kernel
theorem dL_addLine_9 : decode cL_addLine 9 = .ok (.ireturn, 1) := by decide +kernel
theorem dL_addLine_10 : decode cL_addLine 10 = .ok (.astore_n 3, 1) := by decide +kernel
theorem dL_addLine_11 : decode cL_addLine 11 = .ok (.bipush (-2), 2) := by decide +kernel
theorem dL_addLine_13 : decode cL_addLine 13 = .ok (.ireturn, 1) := by decide +kernel
theorem dL_addLine_14 : decode cL_addLine 14 = .ok (.astore_n 3, 1) := by decide +kernel
theorem dL_addLine_15 : decode cL_addLine 15 = .ok (.bipush (-3), 2) := by decide +kernel
theorem dL_addLine_17 : decode cL_addLine 17 = .ok (.ireturn, 1) := by decide +kernel
theorem dL_rescan_0 : decode cL_rescan 0 = .ok (.aload_n 0, 1) := by decide +kernel
theorem dL_rescan_1 : decode cL_rescan 1 = .ok (.iload_n 1, 1) := by decide +kernel
theorem dL_rescan_2 : decode cL_rescan 2 = .ok (.iload_n 2, 1) := by decide +kernel
theorem dL_rescan_3 : decode cL_rescan 3 = .ok (.invokevirtual 24, 3) := by decide +kernel
theorem dL_rescan_6 : decode cL_rescan 6 = .ok (.ireturn, 1) := by decide +kernel
theorem dL_rescan_7 : decode cL_rescan 7 = .ok (.astore_n 3, 1) := by decide +kernel
theorem dL_rescan_8 : decode cL_rescan 8 = .ok (.iconst (-1), 1) := by decide +kernel
theorem dL_rescan_9 : decode cL_rescan 9 = .ok (.ireturn, 1) := by decide +kernel
theorem dL_rescan_10 : decode cL_rescan 10 = .ok (.astore_n 3, 1) := by decide +kernel
theorem dL_rescan_11 : decode cL_rescan 11 = .ok (.bipush (-2), 2) := by decide +kernel
theorem dL_rescan_13 : decode cL_rescan 13 = .ok (.ireturn, 1) := by decide +kernel
theorem dL_documentOf_0 : decode cL_documentOf 0 = .ok (.aload_n 0, 1) := by decide +kernel
theorem dL_documentOf_1 : decode cL_documentOf 1 = .ok (.iload_n 1, 1) := by decide +kernel
theorem dL_documentOf_2 : decode cL_documentOf 2 = .ok (.invokevirtual 27, 3) := by decide +kernel
theorem dL_documentOf_5 : decode cL_documentOf 5 = .ok (.ireturn, 1) := by decide +kernel
theorem dL_documentOf_6 : decode cL_documentOf 6 = .ok (.astore_n 2, 1) := by decide +kernel
theorem dL_documentOf_7 : decode cL_documentOf 7 = .ok (.iconst (-1), 1) := by decide +kernel
theorem dL_documentOf_8 : decode cL_documentOf 8 = .ok (.ireturn, 1) := by decide +kernel
theorem dL_indexOf_0 : decode cL_indexOf 0 = .ok (.aload_n 0, 1) := by decide +kernel
theorem dL_indexOf_1 : decode cL_indexOf 1 = .ok (.iload_n 1, 1) := by decide +kernel
theorem dL_indexOf_2 : decode cL_indexOf 2 = .ok (.invokevirtual 31, 3) := by decide +kernel
theorem dL_indexOf_5 : decode cL_indexOf 5 = .ok (.ireturn, 1) := by decide +kernel
theorem dL_indexOf_6 : decode cL_indexOf 6 = .ok (.astore_n 2, 1) := by decide +kernel
theorem dL_indexOf_7 : decode cL_indexOf 7 = .ok (.iconst (-1), 1) := by decide +kernel
theorem dL_indexOf_8 : decode cL_indexOf 8 = .ok (.ireturn, 1) := by decide +kernel
theorem dL_lines_0 : decode cL_lines 0 = .ok (.aload_n 0, 1) := by decide +kernel
theorem dL_lines_1 : decode cL_lines 1 = .ok (.iload_n 1, 1) := by decide +kernel
theorem dL_lines_2 : decode cL_lines 2 = .ok (.invokevirtual 34, 3) := by decide +kernel
theorem dL_lines_5 : decode cL_lines 5 = .ok (.ireturn, 1) := by decide +kernel
theorem dL_lines_6 : decode cL_lines 6 = .ok (.astore_n 2, 1) := by decide +kernel
theorem dL_lines_7 : decode cL_lines 7 = .ok (.iconst (-1), 1) := by decide +kernel
theorem dL_lines_8 : decode cL_lines 8 = .ok (.ireturn, 1) := by decide +kernel
theorem dL_addRule_0 : decode cL_addRule 0 = .ok (.aload_n 0, 1) := by decide +kernel
theorem dL_addRule_1 : decode cL_addRule 1 = .ok (.iload_n 1, 1) := by decide +kernel
theorem dL_addRule_2 : decode cL_addRule 2 = .ok (.iload_n 2, 1) := by decide +kernel
theorem dL_addRule_3 : decode cL_addRule 3 = .ok (.iload_n 3, 1) := by decide +kernel
theorem dL_addRule_4 : decode cL_addRule 4 = .ok (.invokevirtual 37, 3) := by decide +kernel
theorem dL_addRule_7 : decode cL_addRule 7 = .ok (.ireturn, 1) := by decide +kernel
theorem dL_addRule_8 : decode cL_addRule 8 = .ok (.astore 4, 2) := by decide +kernel
theorem dL_addRule_10 : decode cL_addRule 10 = .ok (.iconst (-1), 1) := by decide +kernel
theorem dL_addRule_11 : decode cL_addRule 11 = .ok (.ireturn, 1) := by decide +kernel
theorem dL_addRule_12 : decode cL_addRule 12 = .ok (.astore 4, 2) := by decide +kernel
theorem dL_addRule_14 : decode cL_addRule 14 = .ok (.bipush (-2), 2) := by decide +kernel
theorem dL_addRule_16 : decode cL_addRule 16 = .ok (.ireturn, 1) := by decide +kernel
theorem dL_addSpan_0 : decode cL_addSpan 0 = .ok (.aload_n 0, 1) := by decide +kernel
theorem dL_addSpan_1 : decode cL_addSpan 1 = .ok (.iload_n 1, 1) := by decide +kernel
theorem dL_addSpan_2 : decode cL_addSpan 2 = .ok (.iload_n 2, 1) := by decide +kernel
theorem dL_addSpan_3 : decode cL_addSpan 3 = .ok (.iload_n 3, 1) := by decide +kernel
theorem dL_addSpan_4 : decode cL_addSpan 4 = .ok (.iload 4, 2) := by decide +kernel
theorem dL_addSpan_6 : decode cL_addSpan 6 = .ok (.invokevirtual 41, 3) := by decide +kernel
theorem dL_addSpan_9 : decode cL_addSpan 9 = .ok (.ireturn, 1) := by decide +kernel
theorem dL_addSpan_10 : decode cL_addSpan 10 = .ok (.astore 5, 2) := by decide +kernel
theorem dL_addSpan_12 : decode cL_addSpan 12 = .ok (.iconst (-1), 1) := by decide +kernel
theorem dL_addSpan_13 : decode cL_addSpan 13 = .ok (.ireturn, 1) := by decide +kernel
theorem dL_addSpan_14 : decode cL_addSpan 14 = .ok (.astore 5, 2) := by decide +kernel
theorem dL_addSpan_16 : decode cL_addSpan 16 = .ok (.bipush (-2), 2) := by decide +kernel
theorem dL_addSpan_18 : decode cL_addSpan 18 = .ok (.ireturn, 1) := by decide +kernel
theorem dL_addSpan_19 : decode cL_addSpan 19 = .ok (.astore 5, 2) := by decide +kernel
theorem dL_addSpan_21 : decode cL_addSpan 21 = .ok (.bipush (-3), 2) := by decide +kernel
theorem dL_addSpan_23 : decode cL_addSpan 23 = .ok (.ireturn, 1) := by decide +kernel
theorem dL_lift_0 : decode cL_lift 0 = .ok (.aload_n 0, 1) := by decide +kernel
theorem dL_lift_1 : decode cL_lift 1 = .ok (.iload_n 1, 1) := by decide +kernel
theorem dL_lift_2 : decode cL_lift 2 = .ok (.invokevirtual 45, 3) := by decide +kernel
theorem dL_lift_5 : decode cL_lift 5 = .ok (.ireturn, 1) := by decide +kernel
theorem dL_lift_6 : decode cL_lift 6 = .ok (.astore_n 2, 1) := by decide +kernel
theorem dL_lift_7 : decode cL_lift 7 = .ok (.iconst (-1), 1) := by decide +kernel
theorem dL_lift_8 : decode cL_lift 8 = .ok (.ireturn, 1) := by decide +kernel
theorem dL_lift_9 : decode cL_lift 9 = .ok (.astore_n 2, 1) := by decide +kernel
theorem dL_lift_10 : decode cL_lift 10 = .ok (.bipush (-2), 2) := by decide +kernel
theorem dL_lift_12 : decode cL_lift 12 = .ok (.ireturn, 1) := by decide +kernel
theorem dL_isHidden_0 : decode cL_isHidden 0 = .ok (.aload_n 0, 1) := by decide +kernel
theorem dL_isHidden_1 : decode cL_isHidden 1 = .ok (.iload_n 1, 1) := by decide +kernel
theorem dL_isHidden_2 : decode cL_isHidden 2 = .ok (.invokevirtual 48, 3) := by decide +kernel
theorem dL_isHidden_5 : decode cL_isHidden 5 = .ok (.ifCond .eq 7, 3) := by decide +kernel
theorem dL_isHidden_8 : decode cL_isHidden 8 = .ok (.iconst 1, 1) := by decide +kernel
theorem dL_isHidden_9 : decode cL_isHidden 9 = .ok (.goto 4, 3) := by decide +kernel
theorem dL_isHidden_12 : decode cL_isHidden 12 = .ok (.iconst 0, 1) := by decide +kernel
theorem dL_isHidden_13 : decode cL_isHidden 13 = .ok (.ireturn, 1) := by decide +kernel
theorem dL_isHidden_14 : decode cL_isHidden 14 = .ok (.astore_n 2, 1) := by decide +kernel
theorem dL_isHidden_15 : decode cL_isHidden 15 = .ok (.iconst (-1), 1) := by decide +kernel
theorem dL_isHidden_16 : decode cL_isHidden 16 = .ok (.ireturn, 1) := by decide +kernel
theorem dL_addJoin_0 : decode cL_addJoin 0 = .ok (.aload_n 0, 1) := by decide +kernel
theorem dL_addJoin_1 : decode cL_addJoin 1 = .ok (.iload_n 1, 1) := by decide +kernel
theorem dL_addJoin_2 : decode cL_addJoin 2 = .ok (.iload_n 2, 1) := by decide +kernel
theorem dL_addJoin_3 : decode cL_addJoin 3 = .ok (.iload_n 3, 1) := by decide +kernel
theorem dL_addJoin_4 : decode cL_addJoin 4 = .ok (.invokevirtual 52, 3) := by decide +kernel
theorem dL_addJoin_7 : decode cL_addJoin 7 = .ok (.ireturn, 1) := by decide +kernel
theorem dL_addJoin_8 : decode cL_addJoin 8 = .ok (.astore 4, 2) := by decide +kernel
theorem dL_addJoin_10 : decode cL_addJoin 10 = .ok (.iconst (-1), 1) := by decide +kernel
theorem dL_addJoin_11 : decode cL_addJoin 11 = .ok (.ireturn, 1) := by decide +kernel
theorem dL_addJoin_12 : decode cL_addJoin 12 = .ok (.astore 4, 2) := by decide +kernel
theorem dL_addJoin_14 : decode cL_addJoin 14 = .ok (.bipush (-2), 2) := by decide +kernel
theorem dL_addJoin_16 : decode cL_addJoin 16 = .ok (.ireturn, 1) := by decide +kernel
theorem dL_addJoin_17 : decode cL_addJoin 17 = .ok (.astore 4, 2) := by decide +kernel
theorem dL_addJoin_19 : decode cL_addJoin 19 = .ok (.bipush (-3), 2) := by decide +kernel
theorem dL_addJoin_21 : decode cL_addJoin 21 = .ok (.ireturn, 1) := by decide +kernel
theorem dL_holds_0 : decode cL_holds 0 = .ok (.aload_n 0, 1) := by decide +kernel
theorem dL_holds_1 : decode cL_holds 1 = .ok (.iload_n 1, 1) := by decide +kernel
theorem dL_holds_2 : decode cL_holds 2 = .ok (.iload_n 2, 1) := by decide +kernel
theorem dL_holds_3 : decode cL_holds 3 = .ok (.invokevirtual 55, 3) := by decide +kernel
theorem dL_holds_6 : decode cL_holds 6 = .ok (.ifCond .eq 7, 3) := by decide +kernel
theorem dL_holds_9 : decode cL_holds 9 = .ok (.iconst 1, 1) := by decide +kernel
theorem dL_holds_10 : decode cL_holds 10 = .ok (.goto 4, 3) := by decide +kernel
theorem dL_holds_13 : decode cL_holds 13 = .ok (.iconst 0, 1) := by decide +kernel
theorem dL_holds_14 : decode cL_holds 14 = .ok (.ireturn, 1) := by decide +kernel
theorem dL_holds_15 : decode cL_holds 15 = .ok (.astore_n 3, 1) := by decide +kernel
theorem dL_holds_16 : decode cL_holds 16 = .ok (.iconst (-1), 1) := by decide +kernel
theorem dL_holds_17 : decode cL_holds 17 = .ok (.ireturn, 1) := by decide +kernel
theorem dL_holds_18 : decode cL_holds 18 = .ok (.astore_n 3, 1) := by decide +kernel
theorem dL_holds_19 : decode cL_holds 19 = .ok (.bipush (-2), 2) := by decide +kernel
theorem dL_holds_21 : decode cL_holds 21 = .ok (.ireturn, 1) := by decide +kernel
theorem dL_holdsByLog_0 : decode cL_holdsByLog 0 = .ok (.aload_n 0, 1) := by decide +kernel
theorem dL_holdsByLog_1 : decode cL_holdsByLog 1 = .ok (.iload_n 1, 1) := by decide +kernel
theorem dL_holdsByLog_2 : decode cL_holdsByLog 2 = .ok (.iload_n 2, 1) := by decide +kernel
theorem dL_holdsByLog_3 : decode cL_holdsByLog 3 = .ok (.invokevirtual 59, 3) := by decide +kernel
theorem dL_holdsByLog_6 : decode cL_holdsByLog 6 = .ok (.ifCond .eq 7, 3) := by decide +kernel
theorem dL_holdsByLog_9 : decode cL_holdsByLog 9 = .ok (.iconst 1, 1) := by decide +kernel
theorem dL_holdsByLog_10 : decode cL_holdsByLog 10 = .ok (.goto 4, 3) := by decide +kernel
theorem dL_holdsByLog_13 : decode cL_holdsByLog 13 = .ok (.iconst 0, 1) := by decide +kernel
theorem dL_holdsByLog_14 : decode cL_holdsByLog 14 = .ok (.ireturn, 1) := by decide +kernel
theorem dL_holdsByLog_15 : decode cL_holdsByLog 15 = .ok (.astore_n 3, 1) := by decide +kernel
theorem dL_holdsByLog_16 : decode cL_holdsByLog 16 = .ok (.iconst (-1), 1) := by decide +kernel
theorem dL_holdsByLog_17 : decode cL_holdsByLog 17 = .ok (.ireturn, 1) := by decide +kernel
theorem dL_holdsByLog_18 : decode cL_holdsByLog 18 = .ok (.astore_n 3, 1) := by decide +kernel
theorem dL_holdsByLog_19 : decode cL_holdsByLog 19 = .ok (.bipush (-2), 2) := by decide +kernel
theorem dL_holdsByLog_21 : decode cL_holdsByLog 21 = .ok (.ireturn, 1) := by decide +kernel
theorem dL_held_0 : decode cL_held 0 = .ok (.aload_n 0, 1) := by decide +kernel
theorem dL_held_1 : decode cL_held 1 = .ok (.iload_n 1, 1) := by decide +kernel
theorem dL_held_2 : decode cL_held 2 = .ok (.invokevirtual 62, 3) := by decide +kernel
theorem dL_held_5 : decode cL_held 5 = .ok (.ireturn, 1) := by decide +kernel
theorem dL_held_6 : decode cL_held 6 = .ok (.astore_n 2, 1) := by decide +kernel
theorem dL_held_7 : decode cL_held 7 = .ok (.iconst (-1), 1) := by decide +kernel
theorem dL_held_8 : decode cL_held 8 = .ok (.ireturn, 1) := by decide +kernel
theorem dL_given_0 : decode cL_given 0 = .ok (.aload_n 0, 1) := by decide +kernel
theorem dL_given_1 : decode cL_given 1 = .ok (.iload_n 1, 1) := by decide +kernel
theorem dL_given_2 : decode cL_given 2 = .ok (.invokevirtual 65, 3) := by decide +kernel
theorem dL_given_5 : decode cL_given 5 = .ok (.ireturn, 1) := by decide +kernel
theorem dL_given_6 : decode cL_given 6 = .ok (.astore_n 2, 1) := by decide +kernel
theorem dL_given_7 : decode cL_given 7 = .ok (.iconst (-1), 1) := by decide +kernel
theorem dL_given_8 : decode cL_given 8 = .ok (.ireturn, 1) := by decide +kernel
theorem dL_holders_0 : decode cL_holders 0 = .ok (.aload_n 0, 1) := by decide +kernel
theorem dL_holders_1 : decode cL_holders 1 = .ok (.iload_n 1, 1) := by decide +kernel
theorem dL_holders_2 : decode cL_holders 2 = .ok (.invokevirtual 68, 3) := by decide +kernel
theorem dL_holders_5 : decode cL_holders 5 = .ok (.ireturn, 1) := by decide +kernel
theorem dL_holders_6 : decode cL_holders 6 = .ok (.astore_n 2, 1) := by decide +kernel
theorem dL_holders_7 : decode cL_holders 7 = .ok (.iconst (-1), 1) := by decide +kernel
theorem dL_holders_8 : decode cL_holders 8 = .ok (.ireturn, 1) := by decide +kernel
theorem dL_why_0 : decode cL_why 0 = .ok (.aload_n 0, 1) := by decide +kernel
theorem dL_why_1 : decode cL_why 1 = .ok (.iload_n 1, 1) := by decide +kernel
theorem dL_why_2 : decode cL_why 2 = .ok (.iload_n 2, 1) := by decide +kernel
theorem dL_why_3 : decode cL_why 3 = .ok (.invokevirtual 71, 3) := by decide +kernel
theorem dL_why_6 : decode cL_why 6 = .ok (.ireturn, 1) := by decide +kernel
theorem dL_why_7 : decode cL_why 7 = .ok (.astore_n 3, 1) := by decide +kernel
theorem dL_why_8 : decode cL_why 8 = .ok (.iconst (-1), 1) := by decide +kernel
theorem dL_why_9 : decode cL_why 9 = .ok (.ireturn, 1) := by decide +kernel
theorem dL_why_10 : decode cL_why 10 = .ok (.astore_n 3, 1) := by decide +kernel
theorem dL_why_11 : decode cL_why 11 = .ok (.bipush (-2), 2) := by decide +kernel
theorem dL_why_13 : decode cL_why 13 = .ok (.ireturn, 1) := by decide +kernel
theorem dL_why_14 : decode cL_why 14 = .ok (.astore_n 3, 1) := by decide +kernel
theorem dL_why_15 : decode cL_why 15 = .ok (.bipush (-3), 2) := by decide +kernel
theorem dL_why_17 : decode cL_why 17 = .ok (.ireturn, 1) := by decide +kernel
theorem dL_root_0 : decode cL_root 0 = .ok (.aload_n 0, 1) := by decide +kernel
theorem dL_root_1 : decode cL_root 1 = .ok (.iload_n 1, 1) := by decide +kernel
theorem dL_root_2 : decode cL_root 2 = .ok (.iload_n 2, 1) := by decide +kernel
theorem dL_root_3 : decode cL_root 3 = .ok (.invokevirtual 75, 3) := by decide +kernel
theorem dL_root_6 : decode cL_root 6 = .ok (.ireturn, 1) := by decide +kernel
theorem dL_root_7 : decode cL_root 7 = .ok (.astore_n 3, 1) := by decide +kernel
theorem dL_root_8 : decode cL_root 8 = .ok (.iconst (-1), 1) := by decide +kernel
theorem dL_root_9 : decode cL_root 9 = .ok (.ireturn, 1) := by decide +kernel
theorem dL_root_10 : decode cL_root 10 = .ok (.astore_n 3, 1) := by decide +kernel
theorem dL_root_11 : decode cL_root 11 = .ok (.bipush (-2), 2) := by decide +kernel
theorem dL_root_13 : decode cL_root 13 = .ok (.ireturn, 1) := by decide +kernel
theorem dL_root_14 : decode cL_root 14 = .ok (.astore_n 3, 1) := by decide +kernel
theorem dL_root_15 : decode cL_root 15 = .ok (.bipush (-3), 2) := by decide +kernel
theorem dL_root_17 : decode cL_root 17 = .ok (.ireturn, 1) := by decide +kernel
theorem dL_root_18 : decode cL_root 18 = .ok (.astore_n 3, 1) := by decide +kernel
theorem dL_root_19 : decode cL_root 19 = .ok (.bipush (-4), 2) := by decide +kernel
theorem dL_root_21 : decode cL_root 21 = .ok (.ireturn, 1) := by decide +kernel
theorem dL_causes_0 : decode cL_causes 0 = .ok (.aload_n 0, 1) := by decide +kernel
theorem dL_causes_1 : decode cL_causes 1 = .ok (.iload_n 1, 1) := by decide +kernel
theorem dL_causes_2 : decode cL_causes 2 = .ok (.iload_n 2, 1) := by decide +kernel
theorem dL_causes_3 : decode cL_causes 3 = .ok (.invokevirtual 80, 3) := by decide +kernel
theorem dL_causes_6 : decode cL_causes 6 = .ok (.ireturn, 1) := by decide +kernel
theorem dL_causes_7 : decode cL_causes 7 = .ok (.astore_n 3, 1) := by decide +kernel
theorem dL_causes_8 : decode cL_causes 8 = .ok (.iconst (-1), 1) := by decide +kernel
theorem dL_causes_9 : decode cL_causes 9 = .ok (.ireturn, 1) := by decide +kernel
theorem dL_causes_10 : decode cL_causes 10 = .ok (.astore_n 3, 1) := by decide +kernel
theorem dL_causes_11 : decode cL_causes 11 = .ok (.bipush (-2), 2) := by decide +kernel
theorem dL_causes_13 : decode cL_causes 13 = .ok (.ireturn, 1) := by decide +kernel
theorem dL_causes_14 : decode cL_causes 14 = .ok (.astore_n 3, 1) := by decide +kernel
theorem dL_causes_15 : decode cL_causes 15 = .ok (.bipush (-3), 2) := by decide +kernel
theorem dL_causes_17 : decode cL_causes 17 = .ok (.ireturn, 1) := by decide +kernel
theorem dL_request_0 : decode cL_request 0 = .ok (.aload_n 0, 1) := by decide +kernel
theorem dL_request_1 : decode cL_request 1 = .ok (.iload_n 1, 1) := by decide +kernel
theorem dL_request_2 : decode cL_request 2 = .ok (.iload_n 2, 1) := by decide +kernel
theorem dL_request_3 : decode cL_request 3 = .ok (.invokevirtual 83, 3) := by decide +kernel
theorem dL_request_6 : decode cL_request 6 = .ok (.ireturn, 1) := by decide +kernel
theorem dL_request_7 : decode cL_request 7 = .ok (.astore_n 3, 1) := by decide +kernel
theorem dL_request_8 : decode cL_request 8 = .ok (.iconst (-1), 1) := by decide +kernel
theorem dL_request_9 : decode cL_request 9 = .ok (.ireturn, 1) := by decide +kernel
theorem dL_request_10 : decode cL_request 10 = .ok (.astore_n 3, 1) := by decide +kernel
theorem dL_request_11 : decode cL_request 11 = .ok (.bipush (-2), 2) := by decide +kernel
theorem dL_request_13 : decode cL_request 13 = .ok (.ireturn, 1) := by decide +kernel
theorem dL_request_14 : decode cL_request 14 = .ok (.astore_n 3, 1) := by decide +kernel
theorem dL_request_15 : decode cL_request 15 = .ok (.bipush (-3), 2) := by decide +kernel
theorem dL_request_17 : decode cL_request 17 = .ok (.ireturn, 1) := by decide +kernel
theorem dL_request_18 : decode cL_request 18 = .ok (.astore_n 3, 1) := by decide +kernel
theorem dL_request_19 : decode cL_request 19 = .ok (.bipush (-4), 2) := by decide +kernel
theorem dL_request_21 : decode cL_request 21 = .ok (.ireturn, 1) := by decide +kernel
theorem dL_state_0 : decode cL_state 0 = .ok (.aload_n 0, 1) := by decide +kernel
theorem dL_state_1 : decode cL_state 1 = .ok (.iload_n 1, 1) := by decide +kernel
theorem dL_state_2 : decode cL_state 2 = .ok (.invokevirtual 88, 3) := by decide +kernel
theorem dL_state_5 : decode cL_state 5 = .ok (.ireturn, 1) := by decide +kernel
theorem dL_state_6 : decode cL_state 6 = .ok (.astore_n 2, 1) := by decide +kernel
theorem dL_state_7 : decode cL_state 7 = .ok (.iconst (-1), 1) := by decide +kernel
theorem dL_state_8 : decode cL_state 8 = .ok (.ireturn, 1) := by decide +kernel
theorem dL_answer_0 : decode cL_answer 0 = .ok (.aload_n 0, 1) := by decide +kernel
theorem dL_answer_1 : decode cL_answer 1 = .ok (.iload_n 1, 1) := by decide +kernel
theorem dL_answer_2 : decode cL_answer 2 = .ok (.invokevirtual 92, 3) := by decide +kernel
theorem dL_answer_5 : decode cL_answer 5 = .ok (.ireturn, 1) := by decide +kernel
theorem dL_answer_6 : decode cL_answer 6 = .ok (.astore_n 2, 1) := by decide +kernel
theorem dL_answer_7 : decode cL_answer 7 = .ok (.iconst (-1), 1) := by decide +kernel
theorem dL_answer_8 : decode cL_answer 8 = .ok (.ireturn, 1) := by decide +kernel
theorem dL_answer_9 : decode cL_answer 9 = .ok (.astore_n 2, 1) := by decide +kernel
theorem dL_answer_10 : decode cL_answer 10 = .ok (.bipush (-2), 2) := by decide +kernel
theorem dL_answer_12 : decode cL_answer 12 = .ok (.ireturn, 1) := by decide +kernel
theorem dL_withdraw_0 : decode cL_withdraw 0 = .ok (.aload_n 0, 1) := by decide +kernel
theorem dL_withdraw_1 : decode cL_withdraw 1 = .ok (.iload_n 1, 1) := by decide +kernel
theorem dL_withdraw_2 : decode cL_withdraw 2 = .ok (.invokevirtual 95, 3) := by decide +kernel
theorem dL_withdraw_5 : decode cL_withdraw 5 = .ok (.ireturn, 1) := by decide +kernel
theorem dL_withdraw_6 : decode cL_withdraw 6 = .ok (.astore_n 2, 1) := by decide +kernel
theorem dL_withdraw_7 : decode cL_withdraw 7 = .ok (.iconst (-1), 1) := by decide +kernel
theorem dL_withdraw_8 : decode cL_withdraw 8 = .ok (.ireturn, 1) := by decide +kernel
theorem dL_withdraw_9 : decode cL_withdraw 9 = .ok (.astore_n 2, 1) := by decide +kernel
theorem dL_withdraw_10 : decode cL_withdraw 10 = .ok (.bipush (-2), 2) := by decide +kernel
theorem dL_withdraw_12 : decode cL_withdraw 12 = .ok (.ireturn, 1) := by decide +kernel
theorem dL_setPrice_0 : decode cL_setPrice 0 = .ok (.aload_n 0, 1) := by decide +kernel
theorem dL_setPrice_1 : decode cL_setPrice 1 = .ok (.iload_n 1, 1) := by decide +kernel
theorem dL_setPrice_2 : decode cL_setPrice 2 = .ok (.invokevirtual 98, 3) := by decide +kernel
theorem dL_setPrice_5 : decode cL_setPrice 5 = .ok (.ireturn, 1) := by decide +kernel
theorem dL_setPrice_6 : decode cL_setPrice 6 = .ok (.astore_n 2, 1) := by decide +kernel
theorem dL_setPrice_7 : decode cL_setPrice 7 = .ok (.iconst (-1), 1) := by decide +kernel
theorem dL_setPrice_8 : decode cL_setPrice 8 = .ok (.ireturn, 1) := by decide +kernel
theorem dL_owed_0 : decode cL_owed 0 = .ok (.aload_n 0, 1) := by decide +kernel
theorem dL_owed_1 : decode cL_owed 1 = .ok (.iload_n 1, 1) := by decide +kernel
theorem dL_owed_2 : decode cL_owed 2 = .ok (.invokevirtual 101, 3) := by decide +kernel
theorem dL_owed_5 : decode cL_owed 5 = .ok (.ireturn, 1) := by decide +kernel
theorem dL_owed_6 : decode cL_owed 6 = .ok (.astore_n 2, 1) := by decide +kernel
theorem dL_owed_7 : decode cL_owed 7 = .ok (.iconst (-1), 1) := by decide +kernel
theorem dL_owed_8 : decode cL_owed 8 = .ok (.ireturn, 1) := by decide +kernel
theorem dL_pay_0 : decode cL_pay 0 = .ok (.aload_n 0, 1) := by decide +kernel
theorem dL_pay_1 : decode cL_pay 1 = .ok (.iload_n 1, 1) := by decide +kernel
theorem dL_pay_2 : decode cL_pay 2 = .ok (.iload_n 2, 1) := by decide +kernel
theorem dL_pay_3 : decode cL_pay 3 = .ok (.invokevirtual 104, 3) := by decide +kernel
theorem dL_pay_6 : decode cL_pay 6 = .ok (.ireturn, 1) := by decide +kernel
theorem dL_pay_7 : decode cL_pay 7 = .ok (.astore_n 3, 1) := by decide +kernel
theorem dL_pay_8 : decode cL_pay 8 = .ok (.iconst (-1), 1) := by decide +kernel
theorem dL_pay_9 : decode cL_pay 9 = .ok (.ireturn, 1) := by decide +kernel
theorem dL_pass_0 : decode cL_pass 0 = .ok (.aload_n 0, 1) := by decide +kernel
theorem dL_pass_1 : decode cL_pass 1 = .ok (.iload_n 1, 1) := by decide +kernel
theorem dL_pass_2 : decode cL_pass 2 = .ok (.invokevirtual 107, 3) := by decide +kernel
theorem dL_pass_5 : decode cL_pass 5 = .ok (.ireturn, 1) := by decide +kernel
theorem dL_pass_6 : decode cL_pass 6 = .ok (.astore_n 2, 1) := by decide +kernel
theorem dL_pass_7 : decode cL_pass 7 = .ok (.iconst (-1), 1) := by decide +kernel
theorem dL_pass_8 : decode cL_pass 8 = .ok (.ireturn, 1) := by decide +kernel
theorem dL_answeredShare_0 : decode cL_answeredShare 0 = .ok (.aload_n 0, 1) := by decide +kernel
theorem dL_answeredShare_1 : decode cL_answeredShare 1 = .ok (.invokevirtual 110, 3) := by decide +kernel
theorem dL_answeredShare_4 : decode cL_answeredShare 4 = .ok (.freturn, 1) := by decide +kernel
theorem dL_answeredShare_5 : decode cL_answeredShare 5 = .ok (.astore_n 1, 1) := by decide +kernel
theorem dL_answeredShare_6 : decode cL_answeredShare 6 = .ok (.ldc 114, 2) := by decide +kernel
theorem dL_answeredShare_8 : decode cL_answeredShare 8 = .ok (.freturn, 1) := by decide +kernel
theorem dL_number_0 : decode cL_number 0 = .ok (.aload_n 0, 1) := by decide +kernel
theorem dL_number_1 : decode cL_number 1 = .ok (.bipush 30, 2) := by decide +kernel
theorem dL_number_3 : decode cL_number 3 = .ok (.invokevirtual 115, 3) := by decide +kernel
theorem dL_number_6 : decode cL_number 6 = .ok (.ifCond .ne 7, 3) := by decide +kernel
theorem dL_number_9 : decode cL_number 9 = .ok (.iload_n 2, 1) := by decide +kernel
theorem dL_number_10 : decode cL_number 10 = .ok (.goto 12, 3) := by decide +kernel
theorem dL_number_13 : decode cL_number 13 = .ok (.aload_n 0, 1) := by decide +kernel
theorem dL_number_14 : decode cL_number 14 = .ok (.iconst 1, 1) := by decide +kernel
theorem dL_number_15 : decode cL_number 15 = .ok (.iload_n 1, 1) := by decide +kernel
theorem dL_number_16 : decode cL_number 16 = .ok (.invokestatic 120, 3) := by decide +kernel
theorem dL_number_19 : decode cL_number 19 = .ok (.invokevirtual 115, 3) := by decide +kernel
theorem dL_number_22 : decode cL_number 22 = .ok (.ireturn, 1) := by decide +kernel
theorem dL_acts_0 : decode cL_acts 0 = .ok (.aload_n 2, 1) := by decide +kernel
theorem dL_acts_1 : decode cL_acts 1 = .ok (.bipush 30, 2) := by decide +kernel
theorem dL_acts_3 : decode cL_acts 3 = .ok (.invokevirtual 115, 3) := by decide +kernel
theorem dL_acts_6 : decode cL_acts 6 = .ok (.ifCond .ne 7, 3) := by decide +kernel
theorem dL_acts_9 : decode cL_acts 9 = .ok (.iconst 1, 1) := by decide +kernel
theorem dL_acts_10 : decode cL_acts 10 = .ok (.goto 4, 3) := by decide +kernel
theorem dL_acts_13 : decode cL_acts 13 = .ok (.iconst 0, 1) := by decide +kernel
theorem dL_acts_14 : decode cL_acts 14 = .ok (.istore 4, 2) := by decide +kernel
theorem dL_acts_16 : decode cL_acts 16 = .ok (.aload_n 2, 1) := by decide +kernel
theorem dL_acts_17 : decode cL_acts 17 = .ok (.iload_n 3, 1) := by decide +kernel
theorem dL_acts_18 : decode cL_acts 18 = .ok (.bipush 40, 2) := by decide +kernel
theorem dL_acts_20 : decode cL_acts 20 = .ok (.invokestatic 125, 3) := by decide +kernel
theorem dL_acts_23 : decode cL_acts 23 = .ok (.istore 5, 2) := by decide +kernel
theorem dL_acts_25 : decode cL_acts 25 = .ok (.iload_n 1, 1) := by decide +kernel
theorem dL_acts_26 : decode cL_acts 26 = .ok (.bipush 28, 2) := by decide +kernel
theorem dL_acts_28 : decode cL_acts 28 = .ok (.irem, 1) := by decide +kernel
theorem dL_acts_29 : decode cL_acts 29 = .ok (.tableswitch 387 0 24 #[115, 120, 120, 149, 149, 171, 171, 218, 218, 272, 284, 284, 284, 305, 305, 305, 305, 323, 323, 323, 323, 335, 347, 368, 368], 115) := by decide +kernel
theorem dL_acts_144 : decode cL_acts 144 = .ok (.aload_n 0, 1) := by decide +kernel
theorem dL_acts_145 : decode cL_acts 145 = .ok (.invokestatic 131, 3) := by decide +kernel
theorem dL_acts_148 : decode cL_acts 148 = .ok (.ireturn, 1) := by decide +kernel
theorem dL_acts_149 : decode cL_acts 149 = .ok (.aload_n 0, 1) := by decide +kernel
theorem dL_acts_150 : decode cL_acts 150 = .ok (.aload_n 2, 1) := by decide +kernel
theorem dL_acts_151 : decode cL_acts 151 = .ok (.iconst 2, 1) := by decide +kernel
theorem dL_acts_152 : decode cL_acts 152 = .ok (.bipush 8, 2) := by decide +kernel
theorem dL_acts_154 : decode cL_acts 154 = .ok (.invokestatic 125, 3) := by decide +kernel
theorem dL_acts_157 : decode cL_acts 157 = .ok (.iload 4, 2) := by decide +kernel
theorem dL_acts_159 : decode cL_acts 159 = .ok (.ifCond .eq 9, 3) := by decide +kernel
theorem dL_acts_162 : decode cL_acts 162 = .ok (.sipush 10000, 3) := by decide +kernel
theorem dL_acts_165 : decode cL_acts 165 = .ok (.goto 9, 3) := by decide +kernel
theorem dL_acts_168 : decode cL_acts 168 = .ok (.aload_n 2, 1) := by decide +kernel
theorem dL_acts_169 : decode cL_acts 169 = .ok (.bipush 60, 2) := by decide +kernel
theorem dL_acts_171 : decode cL_acts 171 = .ok (.invokevirtual 115, 3) := by decide +kernel
theorem dL_acts_174 : decode cL_acts 174 = .ok (.invokestatic 134, 3) := by decide +kernel
theorem dL_acts_177 : decode cL_acts 177 = .ok (.ireturn, 1) := by decide +kernel
theorem dL_acts_178 : decode cL_acts 178 = .ok (.aload_n 0, 1) := by decide +kernel
theorem dL_acts_179 : decode cL_acts 179 = .ok (.iload 5, 2) := by decide +kernel
theorem dL_acts_181 : decode cL_acts 181 = .ok (.iload 4, 2) := by decide +kernel
theorem dL_acts_183 : decode cL_acts 183 = .ok (.ifCond .eq 7, 3) := by decide +kernel
theorem dL_acts_186 : decode cL_acts 186 = .ok (.iconst (-1), 1) := by decide +kernel
theorem dL_acts_187 : decode cL_acts 187 = .ok (.goto 9, 3) := by decide +kernel
theorem dL_acts_190 : decode cL_acts 190 = .ok (.aload_n 2, 1) := by decide +kernel
theorem dL_acts_191 : decode cL_acts 191 = .ok (.bipush 60, 2) := by decide +kernel
theorem dL_acts_193 : decode cL_acts 193 = .ok (.invokevirtual 115, 3) := by decide +kernel
theorem dL_acts_196 : decode cL_acts 196 = .ok (.invokestatic 137, 3) := by decide +kernel
theorem dL_acts_199 : decode cL_acts 199 = .ok (.ireturn, 1) := by decide +kernel
theorem dL_acts_200 : decode cL_acts 200 = .ok (.aload_n 2, 1) := by decide +kernel
theorem dL_acts_201 : decode cL_acts 201 = .ok (.bipush 50, 2) := by decide +kernel
theorem dL_acts_203 : decode cL_acts 203 = .ok (.invokevirtual 115, 3) := by decide +kernel
theorem dL_acts_206 : decode cL_acts 206 = .ok (.istore 6, 2) := by decide +kernel
theorem dL_acts_208 : decode cL_acts 208 = .ok (.aload_n 0, 1) := by decide +kernel
theorem dL_acts_209 : decode cL_acts 209 = .ok (.iload 6, 2) := by decide +kernel
theorem dL_acts_211 : decode cL_acts 211 = .ok (.iload 6, 2) := by decide +kernel
theorem dL_acts_213 : decode cL_acts 213 = .ok (.aload_n 2, 1) := by decide +kernel
theorem dL_acts_214 : decode cL_acts 214 = .ok (.bipush 9, 2) := by decide +kernel
theorem dL_acts_216 : decode cL_acts 216 = .ok (.invokevirtual 115, 3) := by decide +kernel
theorem dL_acts_219 : decode cL_acts 219 = .ok (.iadd, 1) := by decide +kernel
theorem dL_acts_220 : decode cL_acts 220 = .ok (.iload 4, 2) := by decide +kernel
theorem dL_acts_222 : decode cL_acts 222 = .ok (.ifCond .eq 8, 3) := by decide +kernel
theorem dL_acts_225 : decode cL_acts 225 = .ok (.bipush 9, 2) := by decide +kernel
theorem dL_acts_227 : decode cL_acts 227 = .ok (.goto 4, 3) := by decide +kernel
theorem dL_acts_230 : decode cL_acts 230 = .ok (.iconst 0, 1) := by decide +kernel
theorem dL_acts_231 : decode cL_acts 231 = .ok (.isub, 1) := by decide +kernel
theorem dL_acts_232 : decode cL_acts 232 = .ok (.aload_n 0, 1) := by decide +kernel
theorem dL_acts_233 : decode cL_acts 233 = .ok (.invokevirtual 139, 3) := by decide +kernel
theorem dL_acts_236 : decode cL_acts 236 = .ok (.aload_n 2, 1) := by decide +kernel
theorem dL_acts_237 : decode cL_acts 237 = .ok (.bipush 12, 2) := by decide +kernel
theorem dL_acts_239 : decode cL_acts 239 = .ok (.invokevirtual 115, 3) := by decide +kernel
theorem dL_acts_242 : decode cL_acts 242 = .ok (.iadd, 1) := by decide +kernel
theorem dL_acts_243 : decode cL_acts 243 = .ok (.invokestatic 142, 3) := by decide +kernel
theorem dL_acts_246 : decode cL_acts 246 = .ok (.ireturn, 1) := by decide +kernel
theorem dL_acts_247 : decode cL_acts 247 = .ok (.aload_n 2, 1) := by decide +kernel
theorem dL_acts_248 : decode cL_acts 248 = .ok (.iconst 5, 1) := by decide +kernel
theorem dL_acts_249 : decode cL_acts 249 = .ok (.invokevirtual 115, 3) := by decide +kernel
theorem dL_acts_252 : decode cL_acts 252 = .ok (.istore 7, 2) := by decide +kernel
theorem dL_acts_254 : decode cL_acts 254 = .ok (.aload_n 0, 1) := by decide +kernel
theorem dL_acts_255 : decode cL_acts 255 = .ok (.aload_n 2, 1) := by decide +kernel
theorem dL_acts_256 : decode cL_acts 256 = .ok (.iconst 2, 1) := by decide +kernel
theorem dL_acts_257 : decode cL_acts 257 = .ok (.bipush 8, 2) := by decide +kernel
theorem dL_acts_259 : decode cL_acts 259 = .ok (.invokestatic 125, 3) := by decide +kernel
theorem dL_acts_262 : decode cL_acts 262 = .ok (.iload 7, 2) := by decide +kernel
theorem dL_acts_264 : decode cL_acts 264 = .ok (.iload 7, 2) := by decide +kernel
theorem dL_acts_266 : decode cL_acts 266 = .ok (.aload_n 2, 1) := by decide +kernel
theorem dL_acts_267 : decode cL_acts 267 = .ok (.iconst 3, 1) := by decide +kernel
theorem dL_acts_268 : decode cL_acts 268 = .ok (.invokevirtual 115, 3) := by decide +kernel
theorem dL_acts_271 : decode cL_acts 271 = .ok (.iadd, 1) := by decide +kernel
theorem dL_acts_272 : decode cL_acts 272 = .ok (.iload 4, 2) := by decide +kernel
theorem dL_acts_274 : decode cL_acts 274 = .ok (.ifCond .eq 12, 3) := by decide +kernel
theorem dL_acts_277 : decode cL_acts 277 = .ok (.aload_n 0, 1) := by decide +kernel
theorem dL_acts_278 : decode cL_acts 278 = .ok (.invokevirtual 139, 3) := by decide +kernel
theorem dL_acts_281 : decode cL_acts 281 = .ok (.iconst 1, 1) := by decide +kernel
theorem dL_acts_282 : decode cL_acts 282 = .ok (.isub, 1) := by decide +kernel
theorem dL_acts_283 : decode cL_acts 283 = .ok (.goto 14, 3) := by decide +kernel
theorem dL_acts_286 : decode cL_acts 286 = .ok (.aload_n 0, 1) := by decide +kernel
theorem dL_acts_287 : decode cL_acts 287 = .ok (.invokevirtual 139, 3) := by decide +kernel
theorem dL_acts_290 : decode cL_acts 290 = .ok (.aload_n 2, 1) := by decide +kernel
theorem dL_acts_291 : decode cL_acts 291 = .ok (.bipush 12, 2) := by decide +kernel
theorem dL_acts_293 : decode cL_acts 293 = .ok (.invokevirtual 115, 3) := by decide +kernel
theorem dL_acts_296 : decode cL_acts 296 = .ok (.iadd, 1) := by decide +kernel
theorem dL_acts_297 : decode cL_acts 297 = .ok (.invokestatic 145, 3) := by decide +kernel
theorem dL_acts_300 : decode cL_acts 300 = .ok (.ireturn, 1) := by decide +kernel
theorem dL_acts_301 : decode cL_acts 301 = .ok (.aload_n 0, 1) := by decide +kernel
theorem dL_acts_302 : decode cL_acts 302 = .ok (.aload_n 2, 1) := by decide +kernel
theorem dL_acts_303 : decode cL_acts 303 = .ok (.iconst 4, 1) := by decide +kernel
theorem dL_acts_304 : decode cL_acts 304 = .ok (.bipush 12, 2) := by decide +kernel
theorem dL_acts_306 : decode cL_acts 306 = .ok (.invokestatic 125, 3) := by decide +kernel
theorem dL_acts_309 : decode cL_acts 309 = .ok (.invokestatic 148, 3) := by decide +kernel
theorem dL_acts_312 : decode cL_acts 312 = .ok (.ireturn, 1) := by decide +kernel
theorem dL_acts_313 : decode cL_acts 313 = .ok (.aload_n 0, 1) := by decide +kernel
theorem dL_acts_314 : decode cL_acts 314 = .ok (.iload 5, 2) := by decide +kernel
theorem dL_acts_316 : decode cL_acts 316 = .ok (.aload_n 2, 1) := by decide +kernel
theorem dL_acts_317 : decode cL_acts 317 = .ok (.iload_n 3, 1) := by decide +kernel
theorem dL_acts_318 : decode cL_acts 318 = .ok (.bipush 40, 2) := by decide +kernel
theorem dL_acts_320 : decode cL_acts 320 = .ok (.invokestatic 125, 3) := by decide +kernel
theorem dL_acts_323 : decode cL_acts 323 = .ok (.aload_n 2, 1) := by decide +kernel
theorem dL_acts_324 : decode cL_acts 324 = .ok (.iload_n 3, 1) := by decide +kernel
theorem dL_acts_325 : decode cL_acts 325 = .ok (.bipush 40, 2) := by decide +kernel
theorem dL_acts_327 : decode cL_acts 327 = .ok (.invokestatic 125, 3) := by decide +kernel
theorem dL_acts_330 : decode cL_acts 330 = .ok (.invokestatic 151, 3) := by decide +kernel
theorem dL_acts_333 : decode cL_acts 333 = .ok (.ireturn, 1) := by decide +kernel
theorem dL_acts_334 : decode cL_acts 334 = .ok (.aload_n 0, 1) := by decide +kernel
theorem dL_acts_335 : decode cL_acts 335 = .ok (.aload_n 2, 1) := by decide +kernel
theorem dL_acts_336 : decode cL_acts 336 = .ok (.iconst 3, 1) := by decide +kernel
theorem dL_acts_337 : decode cL_acts 337 = .ok (.iconst 5, 1) := by decide +kernel
theorem dL_acts_338 : decode cL_acts 338 = .ok (.invokestatic 125, 3) := by decide +kernel
theorem dL_acts_341 : decode cL_acts 341 = .ok (.aload_n 2, 1) := by decide +kernel
theorem dL_acts_342 : decode cL_acts 342 = .ok (.iconst 2, 1) := by decide +kernel
theorem dL_acts_343 : decode cL_acts 343 = .ok (.bipush 8, 2) := by decide +kernel
theorem dL_acts_345 : decode cL_acts 345 = .ok (.invokestatic 125, 3) := by decide +kernel
theorem dL_acts_348 : decode cL_acts 348 = .ok (.invokestatic 153, 3) := by decide +kernel
theorem dL_acts_351 : decode cL_acts 351 = .ok (.ireturn, 1) := by decide +kernel
theorem dL_acts_352 : decode cL_acts 352 = .ok (.aload_n 0, 1) := by decide +kernel
theorem dL_acts_353 : decode cL_acts 353 = .ok (.aload_n 2, 1) := by decide +kernel
theorem dL_acts_354 : decode cL_acts 354 = .ok (.iconst 5, 1) := by decide +kernel
theorem dL_acts_355 : decode cL_acts 355 = .ok (.bipush 20, 2) := by decide +kernel
theorem dL_acts_357 : decode cL_acts 357 = .ok (.invokestatic 125, 3) := by decide +kernel
theorem dL_acts_360 : decode cL_acts 360 = .ok (.invokestatic 155, 3) := by decide +kernel
theorem dL_acts_363 : decode cL_acts 363 = .ok (.ireturn, 1) := by decide +kernel
theorem dL_acts_364 : decode cL_acts 364 = .ok (.aload_n 0, 1) := by decide +kernel
theorem dL_acts_365 : decode cL_acts 365 = .ok (.aload_n 2, 1) := by decide +kernel
theorem dL_acts_366 : decode cL_acts 366 = .ok (.iconst 5, 1) := by decide +kernel
theorem dL_acts_367 : decode cL_acts 367 = .ok (.bipush 20, 2) := by decide +kernel
theorem dL_acts_369 : decode cL_acts 369 = .ok (.invokestatic 125, 3) := by decide +kernel
theorem dL_acts_372 : decode cL_acts 372 = .ok (.invokestatic 157, 3) := by decide +kernel
theorem dL_acts_375 : decode cL_acts 375 = .ok (.ireturn, 1) := by decide +kernel
theorem dL_acts_376 : decode cL_acts 376 = .ok (.aload_n 0, 1) := by decide +kernel
theorem dL_acts_377 : decode cL_acts 377 = .ok (.iload 4, 2) := by decide +kernel
theorem dL_acts_379 : decode cL_acts 379 = .ok (.ifCond .eq 8, 3) := by decide +kernel
theorem dL_acts_382 : decode cL_acts 382 = .ok (.bipush 100, 2) := by decide +kernel
theorem dL_acts_384 : decode cL_acts 384 = .ok (.goto 9, 3) := by decide +kernel
theorem dL_acts_387 : decode cL_acts 387 = .ok (.aload_n 2, 1) := by decide +kernel
theorem dL_acts_388 : decode cL_acts 388 = .ok (.bipush 12, 2) := by decide +kernel
theorem dL_acts_390 : decode cL_acts 390 = .ok (.invokevirtual 115, 3) := by decide +kernel
theorem dL_acts_393 : decode cL_acts 393 = .ok (.invokestatic 159, 3) := by decide +kernel
theorem dL_acts_396 : decode cL_acts 396 = .ok (.ireturn, 1) := by decide +kernel
theorem dL_acts_397 : decode cL_acts 397 = .ok (.aload_n 0, 1) := by decide +kernel
theorem dL_acts_398 : decode cL_acts 398 = .ok (.aload_n 2, 1) := by decide +kernel
theorem dL_acts_399 : decode cL_acts 399 = .ok (.iconst 3, 1) := by decide +kernel
theorem dL_acts_400 : decode cL_acts 400 = .ok (.iconst 5, 1) := by decide +kernel
theorem dL_acts_401 : decode cL_acts 401 = .ok (.invokestatic 125, 3) := by decide +kernel
theorem dL_acts_404 : decode cL_acts 404 = .ok (.iconst 1, 1) := by decide +kernel
theorem dL_acts_405 : decode cL_acts 405 = .ok (.aload_n 2, 1) := by decide +kernel
theorem dL_acts_406 : decode cL_acts 406 = .ok (.bipush 30, 2) := by decide +kernel
theorem dL_acts_408 : decode cL_acts 408 = .ok (.invokevirtual 115, 3) := by decide +kernel
theorem dL_acts_411 : decode cL_acts 411 = .ok (.iadd, 1) := by decide +kernel
theorem dL_acts_412 : decode cL_acts 412 = .ok (.invokestatic 161, 3) := by decide +kernel
theorem dL_acts_415 : decode cL_acts 415 = .ok (.ireturn, 1) := by decide +kernel
theorem dL_acts_416 : decode cL_acts 416 = .ok (.aload_n 0, 1) := by decide +kernel
theorem dL_acts_417 : decode cL_acts 417 = .ok (.iload 4, 2) := by decide +kernel
theorem dL_acts_419 : decode cL_acts 419 = .ok (.ifCond .eq 8, 3) := by decide +kernel
theorem dL_acts_422 : decode cL_acts 422 = .ok (.bipush 91, 2) := by decide +kernel
theorem dL_acts_424 : decode cL_acts 424 = .ok (.goto 11, 3) := by decide +kernel
theorem dL_acts_427 : decode cL_acts 427 = .ok (.iconst 1, 1) := by decide +kernel
theorem dL_acts_428 : decode cL_acts 428 = .ok (.aload_n 2, 1) := by decide +kernel
theorem dL_acts_429 : decode cL_acts 429 = .ok (.bipush 9, 2) := by decide +kernel
theorem dL_acts_431 : decode cL_acts 431 = .ok (.invokevirtual 115, 3) := by decide +kernel
theorem dL_acts_434 : decode cL_acts 434 = .ok (.iadd, 1) := by decide +kernel
theorem dL_acts_435 : decode cL_acts 435 = .ok (.invokestatic 163, 3) := by decide +kernel
theorem dL_acts_438 : decode cL_acts 438 = .ok (.ireturn, 1) := by decide +kernel
theorem dL_told_0 : decode cL_told 0 = .ok (.new 165, 3) := by decide +kernel
theorem dL_told_3 : decode cL_told 3 = .ok (.dup, 1) := by decide +kernel
theorem dL_told_4 : decode cL_told 4 = .ok (.invokespecial 167, 3) := by decide +kernel
theorem dL_told_7 : decode cL_told 7 = .ok (.astore_n 1, 1) := by decide +kernel
theorem dL_told_8 : decode cL_told 8 = .ok (.aload_n 1, 1) := by decide +kernel
theorem dL_told_9 : decode cL_told 9 = .ok (.aload_n 0, 1) := by decide +kernel
theorem dL_told_10 : decode cL_told 10 = .ok (.invokevirtual 139, 3) := by decide +kernel
theorem dL_told_13 : decode cL_told 13 = .ok (.invokevirtual 168, 3) := by decide +kernel
theorem dL_told_16 : decode cL_told 16 = .ok (.bipush 47, 2) := by decide +kernel
theorem dL_told_18 : decode cL_told 18 = .ok (.invokevirtual 172, 3) := by decide +kernel
theorem dL_told_21 : decode cL_told 21 = .ok (.aload_n 0, 1) := by decide +kernel
theorem dL_told_22 : decode cL_told 22 = .ok (.invokevirtual 175, 3) := by decide +kernel
theorem dL_told_25 : decode cL_told 25 = .ok (.invokevirtual 168, 3) := by decide +kernel
theorem dL_told_28 : decode cL_told 28 = .ok (.bipush 47, 2) := by decide +kernel
theorem dL_told_30 : decode cL_told 30 = .ok (.invokevirtual 172, 3) := by decide +kernel
theorem dL_told_33 : decode cL_told 33 = .ok (.aload_n 0, 1) := by decide +kernel
theorem dL_told_34 : decode cL_told 34 = .ok (.invokevirtual 178, 3) := by decide +kernel
theorem dL_told_37 : decode cL_told 37 = .ok (.invokevirtual 168, 3) := by decide +kernel
theorem dL_told_40 : decode cL_told 40 = .ok (.bipush 47, 2) := by decide +kernel
theorem dL_told_42 : decode cL_told 42 = .ok (.invokevirtual 172, 3) := by decide +kernel
theorem dL_told_45 : decode cL_told 45 = .ok (.aload_n 0, 1) := by decide +kernel
theorem dL_told_46 : decode cL_told 46 = .ok (.invokevirtual 181, 3) := by decide +kernel
theorem dL_told_49 : decode cL_told 49 = .ok (.invokevirtual 185, 3) := by decide +kernel
theorem dL_told_52 : decode cL_told 52 = .ok (.bipush 47, 2) := by decide +kernel
theorem dL_told_54 : decode cL_told 54 = .ok (.invokevirtual 172, 3) := by decide +kernel
theorem dL_told_57 : decode cL_told 57 = .ok (.aload_n 0, 1) := by decide +kernel
theorem dL_told_58 : decode cL_told 58 = .ok (.invokestatic 188, 3) := by decide +kernel
theorem dL_told_61 : decode cL_told 61 = .ok (.invokevirtual 191, 3) := by decide +kernel
theorem dL_told_64 : decode cL_told 64 = .ok (.pop, 1) := by decide +kernel
theorem dL_told_65 : decode cL_told 65 = .ok (.iconst 0, 1) := by decide +kernel
theorem dL_told_66 : decode cL_told 66 = .ok (.istore_n 2, 1) := by decide +kernel
theorem dL_told_67 : decode cL_told 67 = .ok (.iload_n 2, 1) := by decide +kernel
theorem dL_told_68 : decode cL_told 68 = .ok (.iconst 5, 1) := by decide +kernel
theorem dL_told_69 : decode cL_told 69 = .ok (.if_icmp .ge 56, 3) := by decide +kernel
theorem dL_told_72 : decode cL_told 72 = .ok (.aload_n 1, 1) := by decide +kernel
theorem dL_told_73 : decode cL_told 73 = .ok (.bipush 59, 2) := by decide +kernel
theorem dL_told_75 : decode cL_told 75 = .ok (.invokevirtual 172, 3) := by decide +kernel
theorem dL_told_78 : decode cL_told 78 = .ok (.aload_n 0, 1) := by decide +kernel
theorem dL_told_79 : decode cL_told 79 = .ok (.iload_n 2, 1) := by decide +kernel
theorem dL_told_80 : decode cL_told 80 = .ok (.invokestatic 194, 3) := by decide +kernel
theorem dL_told_83 : decode cL_told 83 = .ok (.invokevirtual 168, 3) := by decide +kernel
theorem dL_told_86 : decode cL_told 86 = .ok (.aload_n 0, 1) := by decide +kernel
theorem dL_told_87 : decode cL_told 87 = .ok (.iload_n 2, 1) := by decide +kernel
theorem dL_told_88 : decode cL_told 88 = .ok (.invokestatic 196, 3) := by decide +kernel
theorem dL_told_91 : decode cL_told 91 = .ok (.invokevirtual 168, 3) := by decide +kernel
theorem dL_told_94 : decode cL_told 94 = .ok (.aload_n 0, 1) := by decide +kernel
theorem dL_told_95 : decode cL_told 95 = .ok (.iload_n 2, 1) := by decide +kernel
theorem dL_told_96 : decode cL_told 96 = .ok (.invokestatic 198, 3) := by decide +kernel
theorem dL_told_99 : decode cL_told 99 = .ok (.invokevirtual 168, 3) := by decide +kernel
theorem dL_told_102 : decode cL_told 102 = .ok (.aload_n 0, 1) := by decide +kernel
theorem dL_told_103 : decode cL_told 103 = .ok (.iload_n 2, 1) := by decide +kernel
theorem dL_told_104 : decode cL_told 104 = .ok (.invokestatic 200, 3) := by decide +kernel
theorem dL_told_107 : decode cL_told 107 = .ok (.invokevirtual 168, 3) := by decide +kernel
theorem dL_told_110 : decode cL_told 110 = .ok (.aload_n 0, 1) := by decide +kernel
theorem dL_told_111 : decode cL_told 111 = .ok (.iload_n 2, 1) := by decide +kernel
theorem dL_told_112 : decode cL_told 112 = .ok (.invokestatic 202, 3) := by decide +kernel
theorem dL_told_115 : decode cL_told 115 = .ok (.invokevirtual 168, 3) := by decide +kernel
theorem dL_told_118 : decode cL_told 118 = .ok (.pop, 1) := by decide +kernel
theorem dL_told_119 : decode cL_told 119 = .ok (.iinc 2 1, 3) := by decide +kernel
theorem dL_told_122 : decode cL_told 122 = .ok (.goto (-55), 3) := by decide +kernel
theorem dL_told_125 : decode cL_told 125 = .ok (.iconst 0, 1) := by decide +kernel
theorem dL_told_126 : decode cL_told 126 = .ok (.istore_n 2, 1) := by decide +kernel
theorem dL_told_127 : decode cL_told 127 = .ok (.iload_n 2, 1) := by decide +kernel
theorem dL_told_128 : decode cL_told 128 = .ok (.bipush 12, 2) := by decide +kernel
theorem dL_told_130 : decode cL_told 130 = .ok (.if_icmp .ge 57, 3) := by decide +kernel
theorem dL_told_133 : decode cL_told 133 = .ok (.aload_n 1, 1) := by decide +kernel
theorem dL_told_134 : decode cL_told 134 = .ok (.bipush 59, 2) := by decide +kernel
theorem dL_told_136 : decode cL_told 136 = .ok (.invokevirtual 172, 3) := by decide +kernel
theorem dL_told_139 : decode cL_told 139 = .ok (.aload_n 0, 1) := by decide +kernel
theorem dL_told_140 : decode cL_told 140 = .ok (.iload_n 2, 1) := by decide +kernel
theorem dL_told_141 : decode cL_told 141 = .ok (.invokestatic 204, 3) := by decide +kernel
theorem dL_told_144 : decode cL_told 144 = .ok (.invokevirtual 168, 3) := by decide +kernel
theorem dL_told_147 : decode cL_told 147 = .ok (.aload_n 0, 1) := by decide +kernel
theorem dL_told_148 : decode cL_told 148 = .ok (.iload_n 2, 1) := by decide +kernel
theorem dL_told_149 : decode cL_told 149 = .ok (.invokestatic 206, 3) := by decide +kernel
theorem dL_told_152 : decode cL_told 152 = .ok (.invokevirtual 168, 3) := by decide +kernel
theorem dL_told_155 : decode cL_told 155 = .ok (.aload_n 0, 1) := by decide +kernel
theorem dL_told_156 : decode cL_told 156 = .ok (.iload_n 2, 1) := by decide +kernel
theorem dL_told_157 : decode cL_told 157 = .ok (.invokestatic 208, 3) := by decide +kernel
theorem dL_told_160 : decode cL_told 160 = .ok (.invokevirtual 168, 3) := by decide +kernel
theorem dL_told_163 : decode cL_told 163 = .ok (.aload_n 0, 1) := by decide +kernel
theorem dL_told_164 : decode cL_told 164 = .ok (.iload_n 2, 1) := by decide +kernel
theorem dL_told_165 : decode cL_told 165 = .ok (.invokestatic 210, 3) := by decide +kernel
theorem dL_told_168 : decode cL_told 168 = .ok (.invokevirtual 168, 3) := by decide +kernel
theorem dL_told_171 : decode cL_told 171 = .ok (.aload_n 0, 1) := by decide +kernel
theorem dL_told_172 : decode cL_told 172 = .ok (.iconst 0, 1) := by decide +kernel
theorem dL_told_173 : decode cL_told 173 = .ok (.iload_n 2, 1) := by decide +kernel
theorem dL_told_174 : decode cL_told 174 = .ok (.invokestatic 212, 3) := by decide +kernel
theorem dL_told_177 : decode cL_told 177 = .ok (.invokevirtual 168, 3) := by decide +kernel
theorem dL_told_180 : decode cL_told 180 = .ok (.pop, 1) := by decide +kernel
theorem dL_told_181 : decode cL_told 181 = .ok (.iinc 2 1, 3) := by decide +kernel
theorem dL_told_184 : decode cL_told 184 = .ok (.goto (-57), 3) := by decide +kernel
theorem dL_told_187 : decode cL_told 187 = .ok (.aload_n 1, 1) := by decide +kernel
theorem dL_told_188 : decode cL_told 188 = .ok (.invokevirtual 214, 3) := by decide +kernel
theorem dL_told_191 : decode cL_told 191 = .ok (.areturn, 1) := by decide +kernel
theorem dL_held__0 : decode cL_held_ 0 = .ok (.iconst 0, 1) := by decide +kernel
theorem dL_held__1 : decode cL_held_ 1 = .ok (.istore_n 3, 1) := by decide +kernel
theorem dL_held__2 : decode cL_held_ 2 = .ok (.iconst 0, 1) := by decide +kernel
theorem dL_held__3 : decode cL_held_ 3 = .ok (.istore 4, 2) := by decide +kernel
theorem dL_held__5 : decode cL_held_ 5 = .ok (.iload 4, 2) := by decide +kernel
theorem dL_held__7 : decode cL_held_ 7 = .ok (.iload_n 2, 1) := by decide +kernel
theorem dL_held__8 : decode cL_held_ 8 = .ok (.if_icmp .ge 327, 3) := by decide +kernel
theorem dL_held__11 : decode cL_held_ 11 = .ok (.aload_n 0, 1) := by decide +kernel
theorem dL_held__12 : decode cL_held_ 12 = .ok (.iload_n 1, 1) := by decide +kernel
theorem dL_held__13 : decode cL_held_ 13 = .ok (.iload 4, 2) := by decide +kernel
theorem dL_held__15 : decode cL_held_ 15 = .ok (.invokestatic 218, 3) := by decide +kernel
theorem dL_held__18 : decode cL_held_ 18 = .ok (.istore 5, 2) := by decide +kernel
theorem dL_held__20 : decode cL_held_ 20 = .ok (.aload_n 0, 1) := by decide +kernel
theorem dL_held__21 : decode cL_held_ 21 = .ok (.iload_n 1, 1) := by decide +kernel
theorem dL_held__22 : decode cL_held_ 22 = .ok (.iload 4, 2) := by decide +kernel
theorem dL_held__24 : decode cL_held_ 24 = .ok (.invokestatic 212, 3) := by decide +kernel
theorem dL_held__27 : decode cL_held_ 27 = .ok (.istore 6, 2) := by decide +kernel
theorem dL_held__29 : decode cL_held_ 29 = .ok (.aload_n 0, 1) := by decide +kernel
theorem dL_held__30 : decode cL_held_ 30 = .ok (.iload_n 1, 1) := by decide +kernel
theorem dL_held__31 : decode cL_held_ 31 = .ok (.iload 4, 2) := by decide +kernel
theorem dL_held__33 : decode cL_held_ 33 = .ok (.invokestatic 220, 3) := by decide +kernel
theorem dL_held__36 : decode cL_held_ 36 = .ok (.istore 7, 2) := by decide +kernel
theorem dL_held__38 : decode cL_held_ 38 = .ok (.aload_n 0, 1) := by decide +kernel
theorem dL_held__39 : decode cL_held_ 39 = .ok (.iload_n 1, 1) := by decide +kernel
theorem dL_held__40 : decode cL_held_ 40 = .ok (.iload 4, 2) := by decide +kernel
theorem dL_held__42 : decode cL_held_ 42 = .ok (.invokestatic 222, 3) := by decide +kernel
theorem dL_held__45 : decode cL_held_ 45 = .ok (.istore 8, 2) := by decide +kernel
theorem dL_held__47 : decode cL_held_ 47 = .ok (.iload_n 3, 1) := by decide +kernel
theorem dL_held__48 : decode cL_held_ 48 = .ok (.iload 5, 2) := by decide +kernel
theorem dL_held__50 : decode cL_held_ 50 = .ok (.iadd, 1) := by decide +kernel
theorem dL_held__51 : decode cL_held_ 51 = .ok (.istore_n 3, 1) := by decide +kernel
theorem dL_held__52 : decode cL_held_ 52 = .ok (.iload 5, 2) := by decide +kernel
theorem dL_held__54 : decode cL_held_ 54 = .ok (.aload_n 0, 1) := by decide +kernel
theorem dL_held__55 : decode cL_held_ 55 = .ok (.iload_n 1, 1) := by decide +kernel
theorem dL_held__56 : decode cL_held_ 56 = .ok (.iload 4, 2) := by decide +kernel
theorem dL_held__58 : decode cL_held_ 58 = .ok (.invokestatic 224, 3) := by decide +kernel
theorem dL_held__61 : decode cL_held_ 61 = .ok (.if_icmp .ne 81, 3) := by decide +kernel
theorem dL_held__64 : decode cL_held_ 64 = .ok (.iload 5, 2) := by decide +kernel
theorem dL_held__66 : decode cL_held_ 66 = .ok (.iconst 1, 1) := by decide +kernel
theorem dL_held__67 : decode cL_held_ 67 = .ok (.if_icmp .ne 7, 3) := by decide +kernel
theorem dL_held__70 : decode cL_held_ 70 = .ok (.iconst 1, 1) := by decide +kernel
theorem dL_held__71 : decode cL_held_ 71 = .ok (.goto 4, 3) := by decide +kernel
theorem dL_held__74 : decode cL_held_ 74 = .ok (.iconst 0, 1) := by decide +kernel
theorem dL_held__75 : decode cL_held_ 75 = .ok (.iload 6, 2) := by decide +kernel
theorem dL_held__77 : decode cL_held_ 77 = .ok (.bipush (-3), 2) := by decide +kernel
theorem dL_held__79 : decode cL_held_ 79 = .ok (.if_icmp .ne 7, 3) := by decide +kernel
theorem dL_held__82 : decode cL_held_ 82 = .ok (.iconst 1, 1) := by decide +kernel
theorem dL_held__83 : decode cL_held_ 83 = .ok (.goto 4, 3) := by decide +kernel
theorem dL_held__86 : decode cL_held_ 86 = .ok (.iconst 0, 1) := by decide +kernel
theorem dL_held__87 : decode cL_held_ 87 = .ok (.if_icmp .ne 55, 3) := by decide +kernel
theorem dL_held__90 : decode cL_held_ 90 = .ok (.iload 5, 2) := by decide +kernel
theorem dL_held__92 : decode cL_held_ 92 = .ok (.iconst 1, 1) := by decide +kernel
theorem dL_held__93 : decode cL_held_ 93 = .ok (.if_icmp .ne 7, 3) := by decide +kernel
theorem dL_held__96 : decode cL_held_ 96 = .ok (.iconst 1, 1) := by decide +kernel
theorem dL_held__97 : decode cL_held_ 97 = .ok (.goto 4, 3) := by decide +kernel
theorem dL_held__100 : decode cL_held_ 100 = .ok (.iconst 0, 1) := by decide +kernel
theorem dL_held__101 : decode cL_held_ 101 = .ok (.iload 7, 2) := by decide +kernel
theorem dL_held__103 : decode cL_held_ 103 = .ok (.bipush (-3), 2) := by decide +kernel
theorem dL_held__105 : decode cL_held_ 105 = .ok (.if_icmp .ne 7, 3) := by decide +kernel
theorem dL_held__108 : decode cL_held_ 108 = .ok (.iconst 1, 1) := by decide +kernel
theorem dL_held__109 : decode cL_held_ 109 = .ok (.goto 4, 3) := by decide +kernel
theorem dL_held__112 : decode cL_held_ 112 = .ok (.iconst 0, 1) := by decide +kernel
theorem dL_held__113 : decode cL_held_ 113 = .ok (.if_icmp .ne 29, 3) := by decide +kernel
theorem dL_held__116 : decode cL_held_ 116 = .ok (.iload 5, 2) := by decide +kernel
theorem dL_held__118 : decode cL_held_ 118 = .ok (.iconst 1, 1) := by decide +kernel
theorem dL_held__119 : decode cL_held_ 119 = .ok (.if_icmp .ne 7, 3) := by decide +kernel
theorem dL_held__122 : decode cL_held_ 122 = .ok (.iconst 1, 1) := by decide +kernel
theorem dL_held__123 : decode cL_held_ 123 = .ok (.goto 4, 3) := by decide +kernel
theorem dL_held__126 : decode cL_held_ 126 = .ok (.iconst 0, 1) := by decide +kernel
theorem dL_held__127 : decode cL_held_ 127 = .ok (.iload 8, 2) := by decide +kernel
theorem dL_held__129 : decode cL_held_ 129 = .ok (.bipush (-3), 2) := by decide +kernel
theorem dL_held__131 : decode cL_held_ 131 = .ok (.if_icmp .ne 7, 3) := by decide +kernel
theorem dL_held__134 : decode cL_held_ 134 = .ok (.iconst 1, 1) := by decide +kernel
theorem dL_held__135 : decode cL_held_ 135 = .ok (.goto 4, 3) := by decide +kernel
theorem dL_held__138 : decode cL_held_ 138 = .ok (.iconst 0, 1) := by decide +kernel
theorem dL_held__139 : decode cL_held_ 139 = .ok (.if_icmp .eq 5, 3) := by decide +kernel
theorem dL_held__142 : decode cL_held_ 142 = .ok (.iconst 0, 1) := by decide +kernel
theorem dL_held__143 : decode cL_held_ 143 = .ok (.ireturn, 1) := by decide +kernel
theorem dL_held__144 : decode cL_held_ 144 = .ok (.iload 5, 2) := by decide +kernel
theorem dL_held__146 : decode cL_held_ 146 = .ok (.ifCond .ne 183, 3) := by decide +kernel
theorem dL_held__149 : decode cL_held_ 149 = .ok (.aload_n 0, 1) := by decide +kernel
theorem dL_held__150 : decode cL_held_ 150 = .ok (.iload 4, 2) := by decide +kernel
theorem dL_held__152 : decode cL_held_ 152 = .ok (.invokestatic 204, 3) := by decide +kernel
theorem dL_held__155 : decode cL_held_ 155 = .ok (.iconst 1, 1) := by decide +kernel
theorem dL_held__156 : decode cL_held_ 156 = .ok (.if_icmp .ne 7, 3) := by decide +kernel
theorem dL_held__159 : decode cL_held_ 159 = .ok (.iconst 1, 1) := by decide +kernel
theorem dL_held__160 : decode cL_held_ 160 = .ok (.goto 4, 3) := by decide +kernel
theorem dL_held__163 : decode cL_held_ 163 = .ok (.iconst 0, 1) := by decide +kernel
theorem dL_held__164 : decode cL_held_ 164 = .ok (.istore 9, 2) := by decide +kernel
theorem dL_held__166 : decode cL_held_ 166 = .ok (.iload 6, 2) := by decide +kernel
theorem dL_held__168 : decode cL_held_ 168 = .ok (.bipush 45, 2) := by decide +kernel
theorem dL_held__170 : decode cL_held_ 170 = .ok (.if_icmp .ne 23, 3) := by decide +kernel
theorem dL_held__173 : decode cL_held_ 173 = .ok (.iload 8, 2) := by decide +kernel
theorem dL_held__175 : decode cL_held_ 175 = .ok (.ifCond .ne 14, 3) := by decide +kernel
theorem dL_held__178 : decode cL_held_ 178 = .ok (.iload 7, 2) := by decide +kernel
theorem dL_held__180 : decode cL_held_ 180 = .ok (.bipush (-4), 2) := by decide +kernel
theorem dL_held__182 : decode cL_held_ 182 = .ok (.if_icmp .ne 7, 3) := by decide +kernel
theorem dL_held__185 : decode cL_held_ 185 = .ok (.iconst 1, 1) := by decide +kernel
theorem dL_held__186 : decode cL_held_ 186 = .ok (.goto 91, 3) := by decide +kernel
theorem dL_held__189 : decode cL_held_ 189 = .ok (.iconst 0, 1) := by decide +kernel
theorem dL_held__190 : decode cL_held_ 190 = .ok (.goto 87, 3) := by decide +kernel
theorem dL_held__193 : decode cL_held_ 193 = .ok (.iload 6, 2) := by decide +kernel
theorem dL_held__195 : decode cL_held_ 195 = .ok (.bipush 106, 2) := by decide +kernel
theorem dL_held__197 : decode cL_held_ 197 = .ok (.if_icmp .ne 23, 3) := by decide +kernel
theorem dL_held__200 : decode cL_held_ 200 = .ok (.iload 8, 2) := by decide +kernel
theorem dL_held__202 : decode cL_held_ 202 = .ok (.iconst 2, 1) := by decide +kernel
theorem dL_held__203 : decode cL_held_ 203 = .ok (.if_icmp .lt 13, 3) := by decide +kernel
theorem dL_held__206 : decode cL_held_ 206 = .ok (.iload 8, 2) := by decide +kernel
theorem dL_held__208 : decode cL_held_ 208 = .ok (.iconst 3, 1) := by decide +kernel
theorem dL_held__209 : decode cL_held_ 209 = .ok (.if_icmp .gt 7, 3) := by decide +kernel
theorem dL_held__212 : decode cL_held_ 212 = .ok (.iconst 1, 1) := by decide +kernel
theorem dL_held__213 : decode cL_held_ 213 = .ok (.goto 64, 3) := by decide +kernel
theorem dL_held__216 : decode cL_held_ 216 = .ok (.iconst 0, 1) := by decide +kernel
theorem dL_held__217 : decode cL_held_ 217 = .ok (.goto 60, 3) := by decide +kernel
theorem dL_held__220 : decode cL_held_ 220 = .ok (.iload 6, 2) := by decide +kernel
theorem dL_held__222 : decode cL_held_ 222 = .ok (.bipush 114, 2) := by decide +kernel
theorem dL_held__224 : decode cL_held_ 224 = .ok (.if_icmp .ne 28, 3) := by decide +kernel
theorem dL_held__227 : decode cL_held_ 227 = .ok (.iload 8, 2) := by decide +kernel
theorem dL_held__229 : decode cL_held_ 229 = .ok (.iload 7, 2) := by decide +kernel
theorem dL_held__231 : decode cL_held_ 231 = .ok (.bipush 115, 2) := by decide +kernel
theorem dL_held__233 : decode cL_held_ 233 = .ok (.if_icmp .ne 7, 3) := by decide +kernel
theorem dL_held__236 : decode cL_held_ 236 = .ok (.iconst 2, 1) := by decide +kernel
theorem dL_held__237 : decode cL_held_ 237 = .ok (.goto 4, 3) := by decide +kernel
theorem dL_held__240 : decode cL_held_ 240 = .ok (.iconst 1, 1) := by decide +kernel
theorem dL_held__241 : decode cL_held_ 241 = .ok (.if_icmp .ne 7, 3) := by decide +kernel
theorem dL_held__244 : decode cL_held_ 244 = .ok (.iconst 1, 1) := by decide +kernel
theorem dL_held__245 : decode cL_held_ 245 = .ok (.goto 32, 3) := by decide +kernel
theorem dL_held__248 : decode cL_held_ 248 = .ok (.iconst 0, 1) := by decide +kernel
theorem dL_held__249 : decode cL_held_ 249 = .ok (.goto 28, 3) := by decide +kernel
theorem dL_held__252 : decode cL_held_ 252 = .ok (.iload 6, 2) := by decide +kernel
theorem dL_held__254 : decode cL_held_ 254 = .ok (.bipush 115, 2) := by decide +kernel
theorem dL_held__256 : decode cL_held_ 256 = .ok (.if_icmp .ne 20, 3) := by decide +kernel
theorem dL_held__259 : decode cL_held_ 259 = .ok (.iload 8, 2) := by decide +kernel
theorem dL_held__261 : decode cL_held_ 261 = .ok (.iconst 1, 1) := by decide +kernel
theorem dL_held__262 : decode cL_held_ 262 = .ok (.if_icmp .ne 14, 3) := by decide +kernel
theorem dL_held__265 : decode cL_held_ 265 = .ok (.iload 7, 2) := by decide +kernel
theorem dL_held__267 : decode cL_held_ 267 = .ok (.bipush 115, 2) := by decide +kernel
theorem dL_held__269 : decode cL_held_ 269 = .ok (.if_icmp .ne 7, 3) := by decide +kernel
theorem dL_held__272 : decode cL_held_ 272 = .ok (.iconst 1, 1) := by decide +kernel
theorem dL_held__273 : decode cL_held_ 273 = .ok (.goto 4, 3) := by decide +kernel
theorem dL_held__276 : decode cL_held_ 276 = .ok (.iconst 0, 1) := by decide +kernel
theorem dL_held__277 : decode cL_held_ 277 = .ok (.istore 10, 2) := by decide +kernel
theorem dL_held__279 : decode cL_held_ 279 = .ok (.iload 10, 2) := by decide +kernel
theorem dL_held__281 : decode cL_held_ 281 = .ok (.ifCond .eq 46, 3) := by decide +kernel
theorem dL_held__284 : decode cL_held_ 284 = .ok (.iload 9, 2) := by decide +kernel
theorem dL_held__286 : decode cL_held_ 286 = .ok (.iload 6, 2) := by decide +kernel
theorem dL_held__288 : decode cL_held_ 288 = .ok (.bipush 114, 2) := by decide +kernel
theorem dL_held__290 : decode cL_held_ 290 = .ok (.if_icmp .eq 10, 3) := by decide +kernel
theorem dL_held__293 : decode cL_held_ 293 = .ok (.iload 6, 2) := by decide +kernel
theorem dL_held__295 : decode cL_held_ 295 = .ok (.bipush 115, 2) := by decide +kernel
theorem dL_held__297 : decode cL_held_ 297 = .ok (.if_icmp .ne 7, 3) := by decide +kernel
theorem dL_held__300 : decode cL_held_ 300 = .ok (.iconst 1, 1) := by decide +kernel
theorem dL_held__301 : decode cL_held_ 301 = .ok (.goto 4, 3) := by decide +kernel
theorem dL_held__304 : decode cL_held_ 304 = .ok (.iconst 0, 1) := by decide +kernel
theorem dL_held__305 : decode cL_held_ 305 = .ok (.if_icmp .ne 22, 3) := by decide +kernel
theorem dL_held__308 : decode cL_held_ 308 = .ok (.iload 8, 2) := by decide +kernel
theorem dL_held__310 : decode cL_held_ 310 = .ok (.ifCond .le 19, 3) := by decide +kernel
theorem dL_held__313 : decode cL_held_ 313 = .ok (.iload 7, 2) := by decide +kernel
theorem dL_held__315 : decode cL_held_ 315 = .ok (.bipush 114, 2) := by decide +kernel
theorem dL_held__317 : decode cL_held_ 317 = .ok (.if_icmp .eq 12, 3) := by decide +kernel
theorem dL_held__320 : decode cL_held_ 320 = .ok (.iload 7, 2) := by decide +kernel
theorem dL_held__322 : decode cL_held_ 322 = .ok (.bipush 115, 2) := by decide +kernel
theorem dL_held__324 : decode cL_held_ 324 = .ok (.if_icmp .eq 5, 3) := by decide +kernel
theorem dL_held__327 : decode cL_held_ 327 = .ok (.iconst 0, 1) := by decide +kernel
theorem dL_held__328 : decode cL_held_ 328 = .ok (.ireturn, 1) := by decide +kernel
theorem dL_held__329 : decode cL_held_ 329 = .ok (.iinc 4 1, 3) := by decide +kernel
theorem dL_held__332 : decode cL_held_ 332 = .ok (.goto (-327), 3) := by decide +kernel
theorem dL_held__335 : decode cL_held_ 335 = .ok (.iload_n 3, 1) := by decide +kernel
theorem dL_held__336 : decode cL_held_ 336 = .ok (.aload_n 0, 1) := by decide +kernel
theorem dL_held__337 : decode cL_held_ 337 = .ok (.iload_n 1, 1) := by decide +kernel
theorem dL_held__338 : decode cL_held_ 338 = .ok (.invokestatic 194, 3) := by decide +kernel
theorem dL_held__341 : decode cL_held_ 341 = .ok (.if_icmp .ne 48, 3) := by decide +kernel
theorem dL_held__344 : decode cL_held_ 344 = .ok (.aload_n 0, 1) := by decide +kernel
theorem dL_held__345 : decode cL_held_ 345 = .ok (.iload_n 1, 1) := by decide +kernel
theorem dL_held__346 : decode cL_held_ 346 = .ok (.invokestatic 196, 3) := by decide +kernel
theorem dL_held__349 : decode cL_held_ 349 = .ok (.iload_n 3, 1) := by decide +kernel
theorem dL_held__350 : decode cL_held_ 350 = .ok (.if_icmp .gt 39, 3) := by decide +kernel
theorem dL_held__353 : decode cL_held_ 353 = .ok (.aload_n 0, 1) := by decide +kernel
theorem dL_held__354 : decode cL_held_ 354 = .ok (.iload_n 1, 1) := by decide +kernel
theorem dL_held__355 : decode cL_held_ 355 = .ok (.iload_n 2, 1) := by decide +kernel
theorem dL_held__356 : decode cL_held_ 356 = .ok (.invokestatic 218, 3) := by decide +kernel
theorem dL_held__359 : decode cL_held_ 359 = .ok (.bipush (-2), 2) := by decide +kernel
theorem dL_held__361 : decode cL_held_ 361 = .ok (.if_icmp .ne 28, 3) := by decide +kernel
theorem dL_held__364 : decode cL_held_ 364 = .ok (.aload_n 0, 1) := by decide +kernel
theorem dL_held__365 : decode cL_held_ 365 = .ok (.iconst 5, 1) := by decide +kernel
theorem dL_held__366 : decode cL_held_ 366 = .ok (.iconst 0, 1) := by decide +kernel
theorem dL_held__367 : decode cL_held_ 367 = .ok (.invokestatic 218, 3) := by decide +kernel
theorem dL_held__370 : decode cL_held_ 370 = .ok (.iconst (-1), 1) := by decide +kernel
theorem dL_held__371 : decode cL_held_ 371 = .ok (.if_icmp .ne 18, 3) := by decide +kernel
theorem dL_held__374 : decode cL_held_ 374 = .ok (.aload_n 0, 1) := by decide +kernel
theorem dL_held__375 : decode cL_held_ 375 = .ok (.iload_n 1, 1) := by decide +kernel
theorem dL_held__376 : decode cL_held_ 376 = .ok (.iload_n 2, 1) := by decide +kernel
theorem dL_held__377 : decode cL_held_ 377 = .ok (.invokestatic 212, 3) := by decide +kernel
theorem dL_held__380 : decode cL_held_ 380 = .ok (.bipush (-2), 2) := by decide +kernel
theorem dL_held__382 : decode cL_held_ 382 = .ok (.if_icmp .ne 7, 3) := by decide +kernel
theorem dL_held__385 : decode cL_held_ 385 = .ok (.iconst 1, 1) := by decide +kernel
theorem dL_held__386 : decode cL_held_ 386 = .ok (.goto 4, 3) := by decide +kernel
theorem dL_held__389 : decode cL_held_ 389 = .ok (.iconst 0, 1) := by decide +kernel
theorem dL_held__390 : decode cL_held_ 390 = .ok (.ireturn, 1) := by decide +kernel
theorem dL_hidden_0 : decode cL_hidden 0 = .ok (.iconst 0, 1) := by decide +kernel
theorem dL_hidden_1 : decode cL_hidden 1 = .ok (.istore_n 2, 1) := by decide +kernel
theorem dL_hidden_2 : decode cL_hidden 2 = .ok (.bipush 8, 2) := by decide +kernel
theorem dL_hidden_4 : decode cL_hidden 4 = .ok (.newarray .int, 2) := by decide +kernel
theorem dL_hidden_6 : decode cL_hidden 6 = .ok (.astore_n 3, 1) := by decide +kernel
theorem dL_hidden_7 : decode cL_hidden 7 = .ok (.iconst 0, 1) := by decide +kernel
theorem dL_hidden_8 : decode cL_hidden 8 = .ok (.istore 4, 2) := by decide +kernel
theorem dL_hidden_10 : decode cL_hidden 10 = .ok (.iload 4, 2) := by decide +kernel
theorem dL_hidden_12 : decode cL_hidden 12 = .ok (.iload_n 1, 1) := by decide +kernel
theorem dL_hidden_13 : decode cL_hidden 13 = .ok (.if_icmp .ge 93, 3) := by decide +kernel
theorem dL_hidden_16 : decode cL_hidden 16 = .ok (.iload_n 2, 1) := by decide +kernel
theorem dL_hidden_17 : decode cL_hidden 17 = .ok (.aload_n 0, 1) := by decide +kernel
theorem dL_hidden_18 : decode cL_hidden 18 = .ok (.iload 4, 2) := by decide +kernel
theorem dL_hidden_20 : decode cL_hidden 20 = .ok (.invokestatic 204, 3) := by decide +kernel
theorem dL_hidden_23 : decode cL_hidden 23 = .ok (.iadd, 1) := by decide +kernel
theorem dL_hidden_24 : decode cL_hidden 24 = .ok (.istore_n 2, 1) := by decide +kernel
theorem dL_hidden_25 : decode cL_hidden 25 = .ok (.aload_n 0, 1) := by decide +kernel
theorem dL_hidden_26 : decode cL_hidden 26 = .ok (.iload 4, 2) := by decide +kernel
theorem dL_hidden_28 : decode cL_hidden 28 = .ok (.invokestatic 208, 3) := by decide +kernel
theorem dL_hidden_31 : decode cL_hidden 31 = .ok (.istore 5, 2) := by decide +kernel
theorem dL_hidden_33 : decode cL_hidden 33 = .ok (.aload_n 0, 1) := by decide +kernel
theorem dL_hidden_34 : decode cL_hidden 34 = .ok (.iload 4, 2) := by decide +kernel
theorem dL_hidden_36 : decode cL_hidden 36 = .ok (.invokestatic 210, 3) := by decide +kernel
theorem dL_hidden_39 : decode cL_hidden 39 = .ok (.aload_n 3, 1) := by decide +kernel
theorem dL_hidden_40 : decode cL_hidden 40 = .ok (.iload 5, 2) := by decide +kernel
theorem dL_hidden_42 : decode cL_hidden 42 = .ok (.iaload, 1) := by decide +kernel
theorem dL_hidden_43 : decode cL_hidden 43 = .ok (.if_icmp .eq 5, 3) := by decide +kernel
theorem dL_hidden_46 : decode cL_hidden 46 = .ok (.iconst 0, 1) := by decide +kernel
theorem dL_hidden_47 : decode cL_hidden 47 = .ok (.ireturn, 1) := by decide +kernel
theorem dL_hidden_48 : decode cL_hidden 48 = .ok (.aload_n 3, 1) := by decide +kernel
theorem dL_hidden_49 : decode cL_hidden 49 = .ok (.iload 5, 2) := by decide +kernel
theorem dL_hidden_51 : decode cL_hidden 51 = .ok (.dup2, 1) := by decide +kernel
theorem dL_hidden_52 : decode cL_hidden 52 = .ok (.iaload, 1) := by decide +kernel
theorem dL_hidden_53 : decode cL_hidden 53 = .ok (.iconst 1, 1) := by decide +kernel
theorem dL_hidden_54 : decode cL_hidden 54 = .ok (.iadd, 1) := by decide +kernel
theorem dL_hidden_55 : decode cL_hidden 55 = .ok (.iastore, 1) := by decide +kernel
theorem dL_hidden_56 : decode cL_hidden 56 = .ok (.iconst 0, 1) := by decide +kernel
theorem dL_hidden_57 : decode cL_hidden 57 = .ok (.istore 6, 2) := by decide +kernel
theorem dL_hidden_59 : decode cL_hidden 59 = .ok (.iconst 0, 1) := by decide +kernel
theorem dL_hidden_60 : decode cL_hidden 60 = .ok (.istore 7, 2) := by decide +kernel
theorem dL_hidden_62 : decode cL_hidden 62 = .ok (.iload 7, 2) := by decide +kernel
theorem dL_hidden_64 : decode cL_hidden 64 = .ok (.iconst 5, 1) := by decide +kernel
theorem dL_hidden_65 : decode cL_hidden 65 = .ok (.if_icmp .ge 22, 3) := by decide +kernel
theorem dL_hidden_68 : decode cL_hidden 68 = .ok (.iload 6, 2) := by decide +kernel
theorem dL_hidden_70 : decode cL_hidden 70 = .ok (.aload_n 0, 1) := by decide +kernel
theorem dL_hidden_71 : decode cL_hidden 71 = .ok (.iload 7, 2) := by decide +kernel
theorem dL_hidden_73 : decode cL_hidden 73 = .ok (.iload 4, 2) := by decide +kernel
theorem dL_hidden_75 : decode cL_hidden 75 = .ok (.invokestatic 218, 3) := by decide +kernel
theorem dL_hidden_78 : decode cL_hidden 78 = .ok (.iadd, 1) := by decide +kernel
theorem dL_hidden_79 : decode cL_hidden 79 = .ok (.istore 6, 2) := by decide +kernel
theorem dL_hidden_81 : decode cL_hidden 81 = .ok (.iinc 7 1, 3) := by decide +kernel
theorem dL_hidden_84 : decode cL_hidden 84 = .ok (.goto (-22), 3) := by decide +kernel
theorem dL_hidden_87 : decode cL_hidden 87 = .ok (.iload 6, 2) := by decide +kernel
theorem dL_hidden_89 : decode cL_hidden 89 = .ok (.aload_n 0, 1) := by decide +kernel
theorem dL_hidden_90 : decode cL_hidden 90 = .ok (.iload 4, 2) := by decide +kernel
theorem dL_hidden_92 : decode cL_hidden 92 = .ok (.invokestatic 206, 3) := by decide +kernel
theorem dL_hidden_95 : decode cL_hidden 95 = .ok (.if_icmp .eq 5, 3) := by decide +kernel
theorem dL_hidden_98 : decode cL_hidden 98 = .ok (.iconst 0, 1) := by decide +kernel
theorem dL_hidden_99 : decode cL_hidden 99 = .ok (.ireturn, 1) := by decide +kernel
theorem dL_hidden_100 : decode cL_hidden 100 = .ok (.iinc 4 1, 3) := by decide +kernel
theorem dL_hidden_103 : decode cL_hidden 103 = .ok (.goto (-93), 3) := by decide +kernel
theorem dL_hidden_106 : decode cL_hidden 106 = .ok (.iconst 0, 1) := by decide +kernel
theorem dL_hidden_107 : decode cL_hidden 107 = .ok (.istore 4, 2) := by decide +kernel
theorem dL_hidden_109 : decode cL_hidden 109 = .ok (.iload 4, 2) := by decide +kernel
theorem dL_hidden_111 : decode cL_hidden 111 = .ok (.bipush 8, 2) := by decide +kernel
theorem dL_hidden_113 : decode cL_hidden 113 = .ok (.if_icmp .ge 34, 3) := by decide +kernel
theorem dL_hidden_116 : decode cL_hidden 116 = .ok (.aload_n 0, 1) := by decide +kernel
theorem dL_hidden_117 : decode cL_hidden 117 = .ok (.iload 4, 2) := by decide +kernel
theorem dL_hidden_119 : decode cL_hidden 119 = .ok (.invokestatic 200, 3) := by decide +kernel
theorem dL_hidden_122 : decode cL_hidden 122 = .ok (.aload_n 3, 1) := by decide +kernel
theorem dL_hidden_123 : decode cL_hidden 123 = .ok (.iload 4, 2) := by decide +kernel
theorem dL_hidden_125 : decode cL_hidden 125 = .ok (.iaload, 1) := by decide +kernel
theorem dL_hidden_126 : decode cL_hidden 126 = .ok (.if_icmp .eq 15, 3) := by decide +kernel
theorem dL_hidden_129 : decode cL_hidden 129 = .ok (.aload_n 0, 1) := by decide +kernel
theorem dL_hidden_130 : decode cL_hidden 130 = .ok (.iload 4, 2) := by decide +kernel
theorem dL_hidden_132 : decode cL_hidden 132 = .ok (.invokestatic 200, 3) := by decide +kernel
theorem dL_hidden_135 : decode cL_hidden 135 = .ok (.iconst (-1), 1) := by decide +kernel
theorem dL_hidden_136 : decode cL_hidden 136 = .ok (.if_icmp .eq 5, 3) := by decide +kernel
theorem dL_hidden_139 : decode cL_hidden 139 = .ok (.iconst 0, 1) := by decide +kernel
theorem dL_hidden_140 : decode cL_hidden 140 = .ok (.ireturn, 1) := by decide +kernel
theorem dL_hidden_141 : decode cL_hidden 141 = .ok (.iinc 4 1, 3) := by decide +kernel
theorem dL_hidden_144 : decode cL_hidden 144 = .ok (.goto (-35), 3) := by decide +kernel
theorem dL_hidden_147 : decode cL_hidden 147 = .ok (.iload_n 2, 1) := by decide +kernel
theorem dL_hidden_148 : decode cL_hidden 148 = .ok (.aload_n 0, 1) := by decide +kernel
theorem dL_hidden_149 : decode cL_hidden 149 = .ok (.invokevirtual 175, 3) := by decide +kernel
theorem dL_hidden_152 : decode cL_hidden 152 = .ok (.if_icmp .ne 16, 3) := by decide +kernel
theorem dL_hidden_155 : decode cL_hidden 155 = .ok (.aload_n 0, 1) := by decide +kernel
theorem dL_hidden_156 : decode cL_hidden 156 = .ok (.iload_n 1, 1) := by decide +kernel
theorem dL_hidden_157 : decode cL_hidden 157 = .ok (.invokestatic 204, 3) := by decide +kernel
theorem dL_hidden_160 : decode cL_hidden 160 = .ok (.iconst (-1), 1) := by decide +kernel
theorem dL_hidden_161 : decode cL_hidden 161 = .ok (.if_icmp .ne 7, 3) := by decide +kernel
theorem dL_hidden_164 : decode cL_hidden 164 = .ok (.iconst 1, 1) := by decide +kernel
theorem dL_hidden_165 : decode cL_hidden 165 = .ok (.goto 4, 3) := by decide +kernel
theorem dL_hidden_168 : decode cL_hidden 168 = .ok (.iconst 0, 1) := by decide +kernel
theorem dL_hidden_169 : decode cL_hidden 169 = .ok (.ireturn, 1) := by decide +kernel
theorem dL_answered_0 : decode cL_answered 0 = .ok (.aload_n 0, 1) := by decide +kernel
theorem dL_answered_1 : decode cL_answered 1 = .ok (.iload_n 1, 1) := by decide +kernel
theorem dL_answered_2 : decode cL_answered 2 = .ok (.invokestatic 202, 3) := by decide +kernel
theorem dL_answered_5 : decode cL_answered 5 = .ok (.bipush 119, 2) := by decide +kernel
theorem dL_answered_7 : decode cL_answered 7 = .ok (.if_icmp .eq 55, 3) := by decide +kernel
theorem dL_answered_10 : decode cL_answered 10 = .ok (.aload_n 0, 1) := by decide +kernel
theorem dL_answered_11 : decode cL_answered 11 = .ok (.iload_n 1, 1) := by decide +kernel
theorem dL_answered_12 : decode cL_answered 12 = .ok (.invokestatic 155, 3) := by decide +kernel
theorem dL_answered_15 : decode cL_answered 15 = .ok (.aload_n 0, 1) := by decide +kernel
theorem dL_answered_16 : decode cL_answered 16 = .ok (.iload_n 1, 1) := by decide +kernel
theorem dL_answered_17 : decode cL_answered 17 = .ok (.invokestatic 202, 3) := by decide +kernel
theorem dL_answered_20 : decode cL_answered 20 = .ok (.iconst (-1), 1) := by decide +kernel
theorem dL_answered_21 : decode cL_answered 21 = .ok (.if_icmp .ne 7, 3) := by decide +kernel
theorem dL_answered_24 : decode cL_answered 24 = .ok (.iconst (-1), 1) := by decide +kernel
theorem dL_answered_25 : decode cL_answered 25 = .ok (.goto 5, 3) := by decide +kernel
theorem dL_answered_28 : decode cL_answered 28 = .ok (.bipush (-2), 2) := by decide +kernel
theorem dL_answered_30 : decode cL_answered 30 = .ok (.if_icmp .ne 30, 3) := by decide +kernel
theorem dL_answered_33 : decode cL_answered 33 = .ok (.aload_n 0, 1) := by decide +kernel
theorem dL_answered_34 : decode cL_answered 34 = .ok (.iload_n 1, 1) := by decide +kernel
theorem dL_answered_35 : decode cL_answered 35 = .ok (.invokestatic 157, 3) := by decide +kernel
theorem dL_answered_38 : decode cL_answered 38 = .ok (.aload_n 0, 1) := by decide +kernel
theorem dL_answered_39 : decode cL_answered 39 = .ok (.iload_n 1, 1) := by decide +kernel
theorem dL_answered_40 : decode cL_answered 40 = .ok (.invokestatic 202, 3) := by decide +kernel
theorem dL_answered_43 : decode cL_answered 43 = .ok (.iconst (-1), 1) := by decide +kernel
theorem dL_answered_44 : decode cL_answered 44 = .ok (.if_icmp .ne 7, 3) := by decide +kernel
theorem dL_answered_47 : decode cL_answered 47 = .ok (.iconst (-1), 1) := by decide +kernel
theorem dL_answered_48 : decode cL_answered 48 = .ok (.goto 5, 3) := by decide +kernel
theorem dL_answered_51 : decode cL_answered 51 = .ok (.bipush (-2), 2) := by decide +kernel
theorem dL_answered_53 : decode cL_answered 53 = .ok (.if_icmp .ne 7, 3) := by decide +kernel
theorem dL_answered_56 : decode cL_answered 56 = .ok (.iconst 1, 1) := by decide +kernel
theorem dL_answered_57 : decode cL_answered 57 = .ok (.goto 4, 3) := by decide +kernel
theorem dL_answered_60 : decode cL_answered 60 = .ok (.iconst 0, 1) := by decide +kernel
theorem dL_answered_61 : decode cL_answered 61 = .ok (.ireturn, 1) := by decide +kernel
theorem dL_answered_62 : decode cL_answered 62 = .ok (.iconst 5, 1) := by decide +kernel
theorem dL_answered_63 : decode cL_answered 63 = .ok (.iload_n 2, 1) := by decide +kernel
theorem dL_answered_64 : decode cL_answered 64 = .ok (.imul, 1) := by decide +kernel
theorem dL_answered_65 : decode cL_answered 65 = .ok (.newarray .int, 2) := by decide +kernel
theorem dL_answered_67 : decode cL_answered 67 = .ok (.astore_n 3, 1) := by decide +kernel
theorem dL_answered_68 : decode cL_answered 68 = .ok (.iconst 0, 1) := by decide +kernel
theorem dL_answered_69 : decode cL_answered 69 = .ok (.istore 4, 2) := by decide +kernel
theorem dL_answered_71 : decode cL_answered 71 = .ok (.iload 4, 2) := by decide +kernel
theorem dL_answered_73 : decode cL_answered 73 = .ok (.iconst 5, 1) := by decide +kernel
theorem dL_answered_74 : decode cL_answered 74 = .ok (.if_icmp .ge 41, 3) := by decide +kernel
theorem dL_answered_77 : decode cL_answered 77 = .ok (.iconst 0, 1) := by decide +kernel
theorem dL_answered_78 : decode cL_answered 78 = .ok (.istore 5, 2) := by decide +kernel
theorem dL_answered_80 : decode cL_answered 80 = .ok (.iload 5, 2) := by decide +kernel
theorem dL_answered_82 : decode cL_answered 82 = .ok (.iload_n 2, 1) := by decide +kernel
theorem dL_answered_83 : decode cL_answered 83 = .ok (.if_icmp .ge 26, 3) := by decide +kernel
theorem dL_answered_86 : decode cL_answered 86 = .ok (.aload_n 3, 1) := by decide +kernel
theorem dL_answered_87 : decode cL_answered 87 = .ok (.iload_n 2, 1) := by decide +kernel
theorem dL_answered_88 : decode cL_answered 88 = .ok (.iload 4, 2) := by decide +kernel
theorem dL_answered_90 : decode cL_answered 90 = .ok (.imul, 1) := by decide +kernel
theorem dL_answered_91 : decode cL_answered 91 = .ok (.iload 5, 2) := by decide +kernel
theorem dL_answered_93 : decode cL_answered 93 = .ok (.iadd, 1) := by decide +kernel
theorem dL_answered_94 : decode cL_answered 94 = .ok (.aload_n 0, 1) := by decide +kernel
theorem dL_answered_95 : decode cL_answered 95 = .ok (.iload 4, 2) := by decide +kernel
theorem dL_answered_97 : decode cL_answered 97 = .ok (.iload 5, 2) := by decide +kernel
theorem dL_answered_99 : decode cL_answered 99 = .ok (.invokestatic 218, 3) := by decide +kernel
theorem dL_answered_102 : decode cL_answered 102 = .ok (.iastore, 1) := by decide +kernel
theorem dL_answered_103 : decode cL_answered 103 = .ok (.iinc 5 1, 3) := by decide +kernel
theorem dL_answered_106 : decode cL_answered 106 = .ok (.goto (-26), 3) := by decide +kernel
theorem dL_answered_109 : decode cL_answered 109 = .ok (.iinc 4 1, 3) := by decide +kernel
theorem dL_answered_112 : decode cL_answered 112 = .ok (.goto (-41), 3) := by decide +kernel
theorem dL_answered_115 : decode cL_answered 115 = .ok (.aload_n 0, 1) := by decide +kernel
theorem dL_answered_116 : decode cL_answered 116 = .ok (.invokevirtual 181, 3) := by decide +kernel
theorem dL_answered_119 : decode cL_answered 119 = .ok (.lstore 4, 2) := by decide +kernel
theorem dL_answered_121 : decode cL_answered 121 = .ok (.aload_n 0, 1) := by decide +kernel
theorem dL_answered_122 : decode cL_answered 122 = .ok (.bipush 7, 2) := by decide +kernel
theorem dL_answered_124 : decode cL_answered 124 = .ok (.invokestatic 159, 3) := by decide +kernel
theorem dL_answered_127 : decode cL_answered 127 = .ok (.istore 6, 2) := by decide +kernel
theorem dL_answered_129 : decode cL_answered 129 = .ok (.aload_n 0, 1) := by decide +kernel
theorem dL_answered_130 : decode cL_answered 130 = .ok (.iload_n 1, 1) := by decide +kernel
theorem dL_answered_131 : decode cL_answered 131 = .ok (.invokestatic 155, 3) := by decide +kernel
theorem dL_answered_134 : decode cL_answered 134 = .ok (.istore 7, 2) := by decide +kernel
theorem dL_answered_136 : decode cL_answered 136 = .ok (.iconst (-1), 1) := by decide +kernel
theorem dL_answered_137 : decode cL_answered 137 = .ok (.istore 8, 2) := by decide +kernel
theorem dL_answered_139 : decode cL_answered 139 = .ok (.iconst 0, 1) := by decide +kernel
theorem dL_answered_140 : decode cL_answered 140 = .ok (.istore 9, 2) := by decide +kernel
theorem dL_answered_142 : decode cL_answered 142 = .ok (.iconst 0, 1) := by decide +kernel
theorem dL_answered_143 : decode cL_answered 143 = .ok (.istore 10, 2) := by decide +kernel
theorem dL_answered_145 : decode cL_answered 145 = .ok (.iload 10, 2) := by decide +kernel
theorem dL_answered_147 : decode cL_answered 147 = .ok (.iconst 5, 1) := by decide +kernel
theorem dL_answered_148 : decode cL_answered 148 = .ok (.if_icmp .ge 113, 3) := by decide +kernel
theorem dL_answered_151 : decode cL_answered 151 = .ok (.iconst 0, 1) := by decide +kernel
theorem dL_answered_152 : decode cL_answered 152 = .ok (.istore 11, 2) := by decide +kernel
theorem dL_answered_154 : decode cL_answered 154 = .ok (.iload 11, 2) := by decide +kernel
theorem dL_answered_156 : decode cL_answered 156 = .ok (.iload_n 2, 1) := by decide +kernel
theorem dL_answered_157 : decode cL_answered 157 = .ok (.if_icmp .ge 98, 3) := by decide +kernel
theorem dL_answered_160 : decode cL_answered 160 = .ok (.aload_n 0, 1) := by decide +kernel
theorem dL_answered_161 : decode cL_answered 161 = .ok (.iload 10, 2) := by decide +kernel
theorem dL_answered_163 : decode cL_answered 163 = .ok (.iload 11, 2) := by decide +kernel
theorem dL_answered_165 : decode cL_answered 165 = .ok (.invokestatic 218, 3) := by decide +kernel
theorem dL_answered_168 : decode cL_answered 168 = .ok (.iconst 1, 1) := by decide +kernel
theorem dL_answered_169 : decode cL_answered 169 = .ok (.if_icmp .ne 19, 3) := by decide +kernel
theorem dL_answered_172 : decode cL_answered 172 = .ok (.aload_n 3, 1) := by decide +kernel
theorem dL_answered_173 : decode cL_answered 173 = .ok (.iload_n 2, 1) := by decide +kernel
theorem dL_answered_174 : decode cL_answered 174 = .ok (.iload 10, 2) := by decide +kernel
theorem dL_answered_176 : decode cL_answered 176 = .ok (.imul, 1) := by decide +kernel
theorem dL_answered_177 : decode cL_answered 177 = .ok (.iload 11, 2) := by decide +kernel
theorem dL_answered_179 : decode cL_answered 179 = .ok (.iadd, 1) := by decide +kernel
theorem dL_answered_180 : decode cL_answered 180 = .ok (.iaload, 1) := by decide +kernel
theorem dL_answered_181 : decode cL_answered 181 = .ok (.ifCond .ne 7, 3) := by decide +kernel
theorem dL_answered_184 : decode cL_answered 184 = .ok (.iconst 1, 1) := by decide +kernel
theorem dL_answered_185 : decode cL_answered 185 = .ok (.goto 4, 3) := by decide +kernel
theorem dL_answered_188 : decode cL_answered 188 = .ok (.iconst 0, 1) := by decide +kernel
theorem dL_answered_189 : decode cL_answered 189 = .ok (.istore 12, 2) := by decide +kernel
theorem dL_answered_191 : decode cL_answered 191 = .ok (.iload 12, 2) := by decide +kernel
theorem dL_answered_193 : decode cL_answered 193 = .ok (.ifCond .eq 27, 3) := by decide +kernel
theorem dL_answered_196 : decode cL_answered 196 = .ok (.aload_n 0, 1) := by decide +kernel
theorem dL_answered_197 : decode cL_answered 197 = .ok (.iload 11, 2) := by decide +kernel
theorem dL_answered_199 : decode cL_answered 199 = .ok (.invokestatic 204, 3) := by decide +kernel
theorem dL_answered_202 : decode cL_answered 202 = .ok (.iconst 1, 1) := by decide +kernel
theorem dL_answered_203 : decode cL_answered 203 = .ok (.if_icmp .eq 15, 3) := by decide +kernel
theorem dL_answered_206 : decode cL_answered 206 = .ok (.iload 8, 2) := by decide +kernel
theorem dL_answered_208 : decode cL_answered 208 = .ok (.ifCond .lt 12, 3) := by decide +kernel
theorem dL_answered_211 : decode cL_answered 211 = .ok (.iload 8, 2) := by decide +kernel
theorem dL_answered_213 : decode cL_answered 213 = .ok (.iload 10, 2) := by decide +kernel
theorem dL_answered_215 : decode cL_answered 215 = .ok (.if_icmp .eq 5, 3) := by decide +kernel
theorem dL_answered_218 : decode cL_answered 218 = .ok (.iconst 0, 1) := by decide +kernel
theorem dL_answered_219 : decode cL_answered 219 = .ok (.ireturn, 1) := by decide +kernel
theorem dL_answered_220 : decode cL_answered 220 = .ok (.iload 12, 2) := by decide +kernel
theorem dL_answered_222 : decode cL_answered 222 = .ok (.ifCond .eq 8, 3) := by decide +kernel
theorem dL_answered_225 : decode cL_answered 225 = .ok (.iload 10, 2) := by decide +kernel
theorem dL_answered_227 : decode cL_answered 227 = .ok (.goto 5, 3) := by decide +kernel
theorem dL_answered_230 : decode cL_answered 230 = .ok (.iload 8, 2) := by decide +kernel
theorem dL_answered_232 : decode cL_answered 232 = .ok (.istore 8, 2) := by decide +kernel
theorem dL_answered_234 : decode cL_answered 234 = .ok (.iload 9, 2) := by decide +kernel
theorem dL_answered_236 : decode cL_answered 236 = .ok (.iload 12, 2) := by decide +kernel
theorem dL_answered_238 : decode cL_answered 238 = .ok (.ifCond .eq 7, 3) := by decide +kernel
theorem dL_answered_241 : decode cL_answered 241 = .ok (.iconst 1, 1) := by decide +kernel
theorem dL_answered_242 : decode cL_answered 242 = .ok (.goto 4, 3) := by decide +kernel
theorem dL_answered_245 : decode cL_answered 245 = .ok (.iconst 0, 1) := by decide +kernel
theorem dL_answered_246 : decode cL_answered 246 = .ok (.iadd, 1) := by decide +kernel
theorem dL_answered_247 : decode cL_answered 247 = .ok (.istore 9, 2) := by decide +kernel
theorem dL_answered_249 : decode cL_answered 249 = .ok (.iinc 11 1, 3) := by decide +kernel
theorem dL_answered_252 : decode cL_answered 252 = .ok (.goto (-98), 3) := by decide +kernel
theorem dL_answered_255 : decode cL_answered 255 = .ok (.iinc 10 1, 3) := by decide +kernel
theorem dL_answered_258 : decode cL_answered 258 = .ok (.goto (-113), 3) := by decide +kernel
theorem dL_answered_261 : decode cL_answered 261 = .ok (.aload_n 0, 1) := by decide +kernel
theorem dL_answered_262 : decode cL_answered 262 = .ok (.iload 6, 2) := by decide +kernel
theorem dL_answered_264 : decode cL_answered 264 = .ok (.invokestatic 159, 3) := by decide +kernel
theorem dL_answered_267 : decode cL_answered 267 = .ok (.bipush 7, 2) := by decide +kernel
theorem dL_answered_269 : decode cL_answered 269 = .ok (.if_icmp .ne 70, 3) := by decide +kernel
theorem dL_answered_272 : decode cL_answered 272 = .ok (.iload 7, 2) := by decide +kernel
theorem dL_answered_274 : decode cL_answered 274 = .ok (.ifCond .lt 65, 3) := by decide +kernel
theorem dL_answered_277 : decode cL_answered 277 = .ok (.iload 9, 2) := by decide +kernel
theorem dL_answered_279 : decode cL_answered 279 = .ok (.iload 7, 2) := by decide +kernel
theorem dL_answered_281 : decode cL_answered 281 = .ok (.if_icmp .lt 58, 3) := by decide +kernel
theorem dL_answered_284 : decode cL_answered 284 = .ok (.iload 7, 2) := by decide +kernel
theorem dL_answered_286 : decode cL_answered 286 = .ok (.ifCond .le 7, 3) := by decide +kernel
theorem dL_answered_289 : decode cL_answered 289 = .ok (.iconst 1, 1) := by decide +kernel
theorem dL_answered_290 : decode cL_answered 290 = .ok (.goto 4, 3) := by decide +kernel
theorem dL_answered_293 : decode cL_answered 293 = .ok (.iconst 0, 1) := by decide +kernel
theorem dL_answered_294 : decode cL_answered 294 = .ok (.iload 9, 2) := by decide +kernel
theorem dL_answered_296 : decode cL_answered 296 = .ok (.ifCond .le 7, 3) := by decide +kernel
theorem dL_answered_299 : decode cL_answered 299 = .ok (.iconst 1, 1) := by decide +kernel
theorem dL_answered_300 : decode cL_answered 300 = .ok (.goto 4, 3) := by decide +kernel
theorem dL_answered_303 : decode cL_answered 303 = .ok (.iconst 0, 1) := by decide +kernel
theorem dL_answered_304 : decode cL_answered 304 = .ok (.if_icmp .ne 35, 3) := by decide +kernel
theorem dL_answered_307 : decode cL_answered 307 = .ok (.aload_n 0, 1) := by decide +kernel
theorem dL_answered_308 : decode cL_answered 308 = .ok (.invokevirtual 181, 3) := by decide +kernel
theorem dL_answered_311 : decode cL_answered 311 = .ok (.lload 4, 2) := by decide +kernel
theorem dL_answered_313 : decode cL_answered 313 = .ok (.ldc2_w 226, 3) := by decide +kernel
theorem dL_answered_316 : decode cL_answered 316 = .ok (.iload 7, 2) := by decide +kernel
theorem dL_answered_318 : decode cL_answered 318 = .ok (.i2l, 1) := by decide +kernel
theorem dL_answered_319 : decode cL_answered 319 = .ok (.lmul, 1) := by decide +kernel
theorem dL_answered_320 : decode cL_answered 320 = .ok (.ladd, 1) := by decide +kernel
theorem dL_answered_321 : decode cL_answered 321 = .ok (.lcmp, 1) := by decide +kernel
theorem dL_answered_322 : decode cL_answered 322 = .ok (.ifCond .ne 17, 3) := by decide +kernel
theorem dL_answered_325 : decode cL_answered 325 = .ok (.aload_n 0, 1) := by decide +kernel
theorem dL_answered_326 : decode cL_answered 326 = .ok (.iload_n 1, 1) := by decide +kernel
theorem dL_answered_327 : decode cL_answered 327 = .ok (.invokestatic 202, 3) := by decide +kernel
theorem dL_answered_330 : decode cL_answered 330 = .ok (.bipush 97, 2) := by decide +kernel
theorem dL_answered_332 : decode cL_answered 332 = .ok (.if_icmp .ne 7, 3) := by decide +kernel
theorem dL_answered_335 : decode cL_answered 335 = .ok (.iconst 1, 1) := by decide +kernel
theorem dL_answered_336 : decode cL_answered 336 = .ok (.goto 4, 3) := by decide +kernel
theorem dL_answered_339 : decode cL_answered 339 = .ok (.iconst 0, 1) := by decide +kernel
theorem dL_answered_340 : decode cL_answered 340 = .ok (.ireturn, 1) := by decide +kernel
theorem dL_law_0 : decode cL_law 0 = .ok (.new 9, 3) := by decide +kernel
theorem dL_law_3 : decode cL_law 3 = .ok (.dup, 1) := by decide +kernel
theorem dL_law_4 : decode cL_law 4 = .ok (.invokespecial 228, 3) := by decide +kernel
theorem dL_law_7 : decode cL_law 7 = .ok (.astore_n 1, 1) := by decide +kernel
theorem dL_law_8 : decode cL_law 8 = .ok (.iconst 0, 1) := by decide +kernel
theorem dL_law_9 : decode cL_law 9 = .ok (.istore_n 2, 1) := by decide +kernel
theorem dL_law_10 : decode cL_law 10 = .ok (.aload_n 1, 1) := by decide +kernel
theorem dL_law_11 : decode cL_law 11 = .ok (.iconst 0, 1) := by decide +kernel
theorem dL_law_12 : decode cL_law 12 = .ok (.iconst 5, 1) := by decide +kernel
theorem dL_law_13 : decode cL_law 13 = .ok (.invokestatic 134, 3) := by decide +kernel
theorem dL_law_16 : decode cL_law 16 = .ok (.iconst (-1), 1) := by decide +kernel
theorem dL_law_17 : decode cL_law 17 = .ok (.if_icmp .ne 113, 3) := by decide +kernel
theorem dL_law_20 : decode cL_law 20 = .ok (.aload_n 1, 1) := by decide +kernel
theorem dL_law_21 : decode cL_law 21 = .ok (.iconst 0, 1) := by decide +kernel
theorem dL_law_22 : decode cL_law 22 = .ok (.iconst 0, 1) := by decide +kernel
theorem dL_law_23 : decode cL_law 23 = .ok (.invokestatic 153, 3) := by decide +kernel
theorem dL_law_26 : decode cL_law 26 = .ok (.bipush (-2), 2) := by decide +kernel
theorem dL_law_28 : decode cL_law 28 = .ok (.if_icmp .ne 102, 3) := by decide +kernel
theorem dL_law_31 : decode cL_law 31 = .ok (.aload_n 1, 1) := by decide +kernel
theorem dL_law_32 : decode cL_law 32 = .ok (.iconst 5, 1) := by decide +kernel
theorem dL_law_33 : decode cL_law 33 = .ok (.iconst 0, 1) := by decide +kernel
theorem dL_law_34 : decode cL_law 34 = .ok (.invokestatic 153, 3) := by decide +kernel
theorem dL_law_37 : decode cL_law 37 = .ok (.iconst (-1), 1) := by decide +kernel
theorem dL_law_38 : decode cL_law 38 = .ok (.if_icmp .ne 92, 3) := by decide +kernel
theorem dL_law_41 : decode cL_law 41 = .ok (.aload_n 1, 1) := by decide +kernel
theorem dL_law_42 : decode cL_law 42 = .ok (.iconst 5, 1) := by decide +kernel
theorem dL_law_43 : decode cL_law 43 = .ok (.iconst 4, 1) := by decide +kernel
theorem dL_law_44 : decode cL_law 44 = .ok (.iconst 0, 1) := by decide +kernel
theorem dL_law_45 : decode cL_law 45 = .ok (.invokestatic 142, 3) := by decide +kernel
theorem dL_law_48 : decode cL_law 48 = .ok (.iconst (-1), 1) := by decide +kernel
theorem dL_law_49 : decode cL_law 49 = .ok (.if_icmp .ne 81, 3) := by decide +kernel
theorem dL_law_52 : decode cL_law 52 = .ok (.aload_n 1, 1) := by decide +kernel
theorem dL_law_53 : decode cL_law 53 = .ok (.iconst 0, 1) := by decide +kernel
theorem dL_law_54 : decode cL_law 54 = .ok (.iconst 0, 1) := by decide +kernel
theorem dL_law_55 : decode cL_law 55 = .ok (.iconst 0, 1) := by decide +kernel
theorem dL_law_56 : decode cL_law 56 = .ok (.iconst 0, 1) := by decide +kernel
theorem dL_law_57 : decode cL_law 57 = .ok (.invokestatic 145, 3) := by decide +kernel
theorem dL_law_60 : decode cL_law 60 = .ok (.iconst (-1), 1) := by decide +kernel
theorem dL_law_61 : decode cL_law 61 = .ok (.if_icmp .ne 69, 3) := by decide +kernel
theorem dL_law_64 : decode cL_law 64 = .ok (.aload_n 1, 1) := by decide +kernel
theorem dL_law_65 : decode cL_law 65 = .ok (.iconst 0, 1) := by decide +kernel
theorem dL_law_66 : decode cL_law 66 = .ok (.invokestatic 148, 3) := by decide +kernel
theorem dL_law_69 : decode cL_law 69 = .ok (.iconst (-1), 1) := by decide +kernel
theorem dL_law_70 : decode cL_law 70 = .ok (.if_icmp .ne 60, 3) := by decide +kernel
theorem dL_law_73 : decode cL_law 73 = .ok (.aload_n 1, 1) := by decide +kernel
theorem dL_law_74 : decode cL_law 74 = .ok (.invokestatic 188, 3) := by decide +kernel
theorem dL_law_77 : decode cL_law 77 = .ok (.ldc 114, 2) := by decide +kernel
theorem dL_law_79 : decode cL_law 79 = .ok (.fcmp .l, 1) := by decide +kernel
theorem dL_law_80 : decode cL_law 80 = .ok (.ifCond .ne 50, 3) := by decide +kernel
theorem dL_law_83 : decode cL_law 83 = .ok (.aload_n 1, 1) := by decide +kernel
theorem dL_law_84 : decode cL_law 84 = .ok (.iconst 0, 1) := by decide +kernel
theorem dL_law_85 : decode cL_law 85 = .ok (.iconst 1, 1) := by decide +kernel
theorem dL_law_86 : decode cL_law 86 = .ok (.invokestatic 161, 3) := by decide +kernel
theorem dL_law_89 : decode cL_law 89 = .ok (.iconst (-1), 1) := by decide +kernel
theorem dL_law_90 : decode cL_law 90 = .ok (.if_icmp .ne 40, 3) := by decide +kernel
theorem dL_law_93 : decode cL_law 93 = .ok (.aload_n 1, 1) := by decide +kernel
theorem dL_law_94 : decode cL_law 94 = .ok (.iconst 0, 1) := by decide +kernel
theorem dL_law_95 : decode cL_law 95 = .ok (.invokestatic 163, 3) := by decide +kernel
theorem dL_law_98 : decode cL_law 98 = .ok (.iconst (-1), 1) := by decide +kernel
theorem dL_law_99 : decode cL_law 99 = .ok (.if_icmp .ne 31, 3) := by decide +kernel
theorem dL_law_102 : decode cL_law 102 = .ok (.aload_n 1, 1) := by decide +kernel
theorem dL_law_103 : decode cL_law 103 = .ok (.bipush 100, 2) := by decide +kernel
theorem dL_law_105 : decode cL_law 105 = .ok (.invokestatic 159, 3) := by decide +kernel
theorem dL_law_108 : decode cL_law 108 = .ok (.iconst (-1), 1) := by decide +kernel
theorem dL_law_109 : decode cL_law 109 = .ok (.if_icmp .ne 21, 3) := by decide +kernel
theorem dL_law_112 : decode cL_law 112 = .ok (.aload_n 1, 1) := by decide +kernel
theorem dL_law_113 : decode cL_law 113 = .ok (.invokevirtual 175, 3) := by decide +kernel
theorem dL_law_116 : decode cL_law 116 = .ok (.ifCond .ne 14, 3) := by decide +kernel
theorem dL_law_119 : decode cL_law 119 = .ok (.aload_n 1, 1) := by decide +kernel
theorem dL_law_120 : decode cL_law 120 = .ok (.iconst 0, 1) := by decide +kernel
theorem dL_law_121 : decode cL_law 121 = .ok (.iconst 0, 1) := by decide +kernel
theorem dL_law_122 : decode cL_law 122 = .ok (.invokestatic 218, 3) := by decide +kernel
theorem dL_law_125 : decode cL_law 125 = .ok (.bipush (-2), 2) := by decide +kernel
theorem dL_law_127 : decode cL_law 127 = .ok (.if_icmp .eq 5, 3) := by decide +kernel
theorem dL_law_130 : decode cL_law 130 = .ok (.iconst 0, 1) := by decide +kernel
theorem dL_law_131 : decode cL_law 131 = .ok (.ireturn, 1) := by decide +kernel
theorem dL_law_132 : decode cL_law 132 = .ok (.aload_n 1, 1) := by decide +kernel
theorem dL_law_133 : decode cL_law 133 = .ok (.invokestatic 131, 3) := by decide +kernel
theorem dL_law_136 : decode cL_law 136 = .ok (.aload_n 1, 1) := by decide +kernel
theorem dL_law_137 : decode cL_law 137 = .ok (.invokestatic 131, 3) := by decide +kernel
theorem dL_law_140 : decode cL_law 140 = .ok (.iadd, 1) := by decide +kernel
theorem dL_law_141 : decode cL_law 141 = .ok (.istore_n 3, 1) := by decide +kernel
theorem dL_law_142 : decode cL_law 142 = .ok (.iconst 0, 1) := by decide +kernel
theorem dL_law_143 : decode cL_law 143 = .ok (.istore 4, 2) := by decide +kernel
theorem dL_law_145 : decode cL_law 145 = .ok (.iload 4, 2) := by decide +kernel
theorem dL_law_147 : decode cL_law 147 = .ok (.bipush 7, 2) := by decide +kernel
theorem dL_law_149 : decode cL_law 149 = .ok (.if_icmp .ge 25, 3) := by decide +kernel
theorem dL_law_152 : decode cL_law 152 = .ok (.iload_n 3, 1) := by decide +kernel
theorem dL_law_153 : decode cL_law 153 = .ok (.aload_n 1, 1) := by decide +kernel
theorem dL_law_154 : decode cL_law 154 = .ok (.iload 4, 2) := by decide +kernel
theorem dL_law_156 : decode cL_law 156 = .ok (.iconst 2, 1) := by decide +kernel
theorem dL_law_157 : decode cL_law 157 = .ok (.irem, 1) := by decide +kernel
theorem dL_law_158 : decode cL_law 158 = .ok (.bipush 10, 2) := by decide +kernel
theorem dL_law_160 : decode cL_law 160 = .ok (.iload 4, 2) := by decide +kernel
theorem dL_law_162 : decode cL_law 162 = .ok (.imul, 1) := by decide +kernel
theorem dL_law_163 : decode cL_law 163 = .ok (.invokestatic 134, 3) := by decide +kernel
theorem dL_law_166 : decode cL_law 166 = .ok (.iadd, 1) := by decide +kernel
theorem dL_law_167 : decode cL_law 167 = .ok (.istore_n 3, 1) := by decide +kernel
theorem dL_law_168 : decode cL_law 168 = .ok (.iinc 4 1, 3) := by decide +kernel
theorem dL_law_171 : decode cL_law 171 = .ok (.goto (-26), 3) := by decide +kernel
theorem dL_law_174 : decode cL_law 174 = .ok (.iload_n 3, 1) := by decide +kernel
theorem dL_law_175 : decode cL_law 175 = .ok (.aload_n 1, 1) := by decide +kernel
theorem dL_law_176 : decode cL_law 176 = .ok (.iconst 0, 1) := by decide +kernel
theorem dL_law_177 : decode cL_law 177 = .ok (.iconst 2, 1) := by decide +kernel
theorem dL_law_178 : decode cL_law 178 = .ok (.iconst 1, 1) := by decide +kernel
theorem dL_law_179 : decode cL_law 179 = .ok (.invokestatic 151, 3) := by decide +kernel
theorem dL_law_182 : decode cL_law 182 = .ok (.aload_n 1, 1) := by decide +kernel
theorem dL_law_183 : decode cL_law 183 = .ok (.bipush 10, 2) := by decide +kernel
theorem dL_law_185 : decode cL_law 185 = .ok (.bipush 10, 2) := by decide +kernel
theorem dL_law_187 : decode cL_law 187 = .ok (.iconst 4, 1) := by decide +kernel
theorem dL_law_188 : decode cL_law 188 = .ok (.invokestatic 142, 3) := by decide +kernel
theorem dL_law_191 : decode cL_law 191 = .ok (.iadd, 1) := by decide +kernel
theorem dL_law_192 : decode cL_law 192 = .ok (.aload_n 1, 1) := by decide +kernel
theorem dL_law_193 : decode cL_law 193 = .ok (.iconst 0, 1) := by decide +kernel
theorem dL_law_194 : decode cL_law 194 = .ok (.iconst 0, 1) := by decide +kernel
theorem dL_law_195 : decode cL_law 195 = .ok (.invokestatic 153, 3) := by decide +kernel
theorem dL_law_198 : decode cL_law 198 = .ok (.iadd, 1) := by decide +kernel
theorem dL_law_199 : decode cL_law 199 = .ok (.iadd, 1) := by decide +kernel
theorem dL_law_200 : decode cL_law 200 = .ok (.istore_n 3, 1) := by decide +kernel
theorem dL_law_201 : decode cL_law 201 = .ok (.iload_n 3, 1) := by decide +kernel
theorem dL_law_202 : decode cL_law 202 = .ok (.bipush 22, 2) := by decide +kernel
theorem dL_law_204 : decode cL_law 204 = .ok (.if_icmp .ne 170, 3) := by decide +kernel
theorem dL_law_207 : decode cL_law 207 = .ok (.aload_n 1, 1) := by decide +kernel
theorem dL_law_208 : decode cL_law 208 = .ok (.iconst 1, 1) := by decide +kernel
theorem dL_law_209 : decode cL_law 209 = .ok (.invokestatic 204, 3) := by decide +kernel
theorem dL_law_212 : decode cL_law 212 = .ok (.iconst 1, 1) := by decide +kernel
theorem dL_law_213 : decode cL_law 213 = .ok (.if_icmp .ne 161, 3) := by decide +kernel
theorem dL_law_216 : decode cL_law 216 = .ok (.aload_n 1, 1) := by decide +kernel
theorem dL_law_217 : decode cL_law 217 = .ok (.iconst 0, 1) := by decide +kernel
theorem dL_law_218 : decode cL_law 218 = .ok (.iconst 1, 1) := by decide +kernel
theorem dL_law_219 : decode cL_law 219 = .ok (.invokestatic 212, 3) := by decide +kernel
theorem dL_law_222 : decode cL_law 222 = .ok (.bipush 114, 2) := by decide +kernel
theorem dL_law_224 : decode cL_law 224 = .ok (.if_icmp .ne 150, 3) := by decide +kernel
theorem dL_law_227 : decode cL_law 227 = .ok (.aload_n 1, 1) := by decide +kernel
theorem dL_law_228 : decode cL_law 228 = .ok (.iconst 0, 1) := by decide +kernel
theorem dL_law_229 : decode cL_law 229 = .ok (.iconst 0, 1) := by decide +kernel
theorem dL_law_230 : decode cL_law 230 = .ok (.invokestatic 212, 3) := by decide +kernel
theorem dL_law_233 : decode cL_law 233 = .ok (.bipush 45, 2) := by decide +kernel
theorem dL_law_235 : decode cL_law 235 = .ok (.if_icmp .ne 139, 3) := by decide +kernel
theorem dL_law_238 : decode cL_law 238 = .ok (.aload_n 1, 1) := by decide +kernel
theorem dL_law_239 : decode cL_law 239 = .ok (.iconst 0, 1) := by decide +kernel
theorem dL_law_240 : decode cL_law 240 = .ok (.invokestatic 155, 3) := by decide +kernel
theorem dL_law_243 : decode cL_law 243 = .ok (.iconst 3, 1) := by decide +kernel
theorem dL_law_244 : decode cL_law 244 = .ok (.if_icmp .ne 130, 3) := by decide +kernel
theorem dL_law_247 : decode cL_law 247 = .ok (.aload_n 1, 1) := by decide +kernel
theorem dL_law_248 : decode cL_law 248 = .ok (.iconst 0, 1) := by decide +kernel
theorem dL_law_249 : decode cL_law 249 = .ok (.iconst 0, 1) := by decide +kernel
theorem dL_law_250 : decode cL_law 250 = .ok (.invokestatic 218, 3) := by decide +kernel
theorem dL_law_253 : decode cL_law 253 = .ok (.iconst 1, 1) := by decide +kernel
theorem dL_law_254 : decode cL_law 254 = .ok (.if_icmp .ne 120, 3) := by decide +kernel
theorem dL_law_257 : decode cL_law 257 = .ok (.aload_n 1, 1) := by decide +kernel
theorem dL_law_258 : decode cL_law 258 = .ok (.iconst 0, 1) := by decide +kernel
theorem dL_law_259 : decode cL_law 259 = .ok (.iconst 2, 1) := by decide +kernel
theorem dL_law_260 : decode cL_law 260 = .ok (.invokestatic 218, 3) := by decide +kernel
theorem dL_law_263 : decode cL_law 263 = .ok (.ifCond .ne 111, 3) := by decide +kernel
theorem dL_law_266 : decode cL_law 266 = .ok (.aload_n 1, 1) := by decide +kernel
theorem dL_law_267 : decode cL_law 267 = .ok (.iconst 0, 1) := by decide +kernel
theorem dL_law_268 : decode cL_law 268 = .ok (.iconst 2, 1) := by decide +kernel
theorem dL_law_269 : decode cL_law 269 = .ok (.invokestatic 212, 3) := by decide +kernel
theorem dL_law_272 : decode cL_law 272 = .ok (.bipush 106, 2) := by decide +kernel
theorem dL_law_274 : decode cL_law 274 = .ok (.if_icmp .ne 100, 3) := by decide +kernel
theorem dL_law_277 : decode cL_law 277 = .ok (.aload_n 1, 1) := by decide +kernel
theorem dL_law_278 : decode cL_law 278 = .ok (.iconst 0, 1) := by decide +kernel
theorem dL_law_279 : decode cL_law 279 = .ok (.iconst 2, 1) := by decide +kernel
theorem dL_law_280 : decode cL_law 280 = .ok (.invokestatic 220, 3) := by decide +kernel
theorem dL_law_283 : decode cL_law 283 = .ok (.bipush 114, 2) := by decide +kernel
theorem dL_law_285 : decode cL_law 285 = .ok (.if_icmp .ne 89, 3) := by decide +kernel
theorem dL_law_288 : decode cL_law 288 = .ok (.aload_n 1, 1) := by decide +kernel
theorem dL_law_289 : decode cL_law 289 = .ok (.iconst 0, 1) := by decide +kernel
theorem dL_law_290 : decode cL_law 290 = .ok (.iconst 2, 1) := by decide +kernel
theorem dL_law_291 : decode cL_law 291 = .ok (.invokestatic 222, 3) := by decide +kernel
theorem dL_law_294 : decode cL_law 294 = .ok (.iconst 2, 1) := by decide +kernel
theorem dL_law_295 : decode cL_law 295 = .ok (.if_icmp .ne 79, 3) := by decide +kernel
theorem dL_law_298 : decode cL_law 298 = .ok (.aload_n 1, 1) := by decide +kernel
theorem dL_law_299 : decode cL_law 299 = .ok (.iconst 0, 1) := by decide +kernel
theorem dL_law_300 : decode cL_law 300 = .ok (.invokestatic 198, 3) := by decide +kernel
theorem dL_law_303 : decode cL_law 303 = .ok (.bipush 15, 2) := by decide +kernel
theorem dL_law_305 : decode cL_law 305 = .ok (.if_icmp .ne 69, 3) := by decide +kernel
theorem dL_law_308 : decode cL_law 308 = .ok (.aload_n 1, 1) := by decide +kernel
theorem dL_law_309 : decode cL_law 309 = .ok (.iconst 5, 1) := by decide +kernel
theorem dL_law_310 : decode cL_law 310 = .ok (.invokestatic 163, 3) := by decide +kernel
theorem dL_law_313 : decode cL_law 313 = .ok (.ifCond .ne 61, 3) := by decide +kernel
theorem dL_law_316 : decode cL_law 316 = .ok (.aload_n 1, 1) := by decide +kernel
theorem dL_law_317 : decode cL_law 317 = .ok (.iconst 0, 1) := by decide +kernel
theorem dL_law_318 : decode cL_law 318 = .ok (.iconst 2, 1) := by decide +kernel
theorem dL_law_319 : decode cL_law 319 = .ok (.invokestatic 212, 3) := by decide +kernel
theorem dL_law_322 : decode cL_law 322 = .ok (.bipush 45, 2) := by decide +kernel
theorem dL_law_324 : decode cL_law 324 = .ok (.if_icmp .ne 50, 3) := by decide +kernel
theorem dL_law_327 : decode cL_law 327 = .ok (.aload_n 1, 1) := by decide +kernel
theorem dL_law_328 : decode cL_law 328 = .ok (.iconst 0, 1) := by decide +kernel
theorem dL_law_329 : decode cL_law 329 = .ok (.iconst 0, 1) := by decide +kernel
theorem dL_law_330 : decode cL_law 330 = .ok (.invokestatic 153, 3) := by decide +kernel
theorem dL_law_333 : decode cL_law 333 = .ok (.iconst 1, 1) := by decide +kernel
theorem dL_law_334 : decode cL_law 334 = .ok (.if_icmp .ne 40, 3) := by decide +kernel
theorem dL_law_337 : decode cL_law 337 = .ok (.aload_n 1, 1) := by decide +kernel
theorem dL_law_338 : decode cL_law 338 = .ok (.iconst 1, 1) := by decide +kernel
theorem dL_law_339 : decode cL_law 339 = .ok (.invokestatic 155, 3) := by decide +kernel
theorem dL_law_342 : decode cL_law 342 = .ok (.iconst 1, 1) := by decide +kernel
theorem dL_law_343 : decode cL_law 343 = .ok (.if_icmp .ne 31, 3) := by decide +kernel
theorem dL_law_346 : decode cL_law 346 = .ok (.aload_n 1, 1) := by decide +kernel
theorem dL_law_347 : decode cL_law 347 = .ok (.iconst 0, 1) := by decide +kernel
theorem dL_law_348 : decode cL_law 348 = .ok (.iconst 1, 1) := by decide +kernel
theorem dL_law_349 : decode cL_law 349 = .ok (.invokestatic 218, 3) := by decide +kernel
theorem dL_law_352 : decode cL_law 352 = .ok (.iconst 1, 1) := by decide +kernel
theorem dL_law_353 : decode cL_law 353 = .ok (.if_icmp .ne 21, 3) := by decide +kernel
theorem dL_law_356 : decode cL_law 356 = .ok (.aload_n 1, 1) := by decide +kernel
theorem dL_law_357 : decode cL_law 357 = .ok (.iconst 0, 1) := by decide +kernel
theorem dL_law_358 : decode cL_law 358 = .ok (.invokestatic 196, 3) := by decide +kernel
theorem dL_law_361 : decode cL_law 361 = .ok (.iconst 4, 1) := by decide +kernel
theorem dL_law_362 : decode cL_law 362 = .ok (.if_icmp .ne 12, 3) := by decide +kernel
theorem dL_law_365 : decode cL_law 365 = .ok (.aload_n 1, 1) := by decide +kernel
theorem dL_law_366 : decode cL_law 366 = .ok (.iconst 0, 1) := by decide +kernel
theorem dL_law_367 : decode cL_law 367 = .ok (.invokestatic 194, 3) := by decide +kernel
theorem dL_law_370 : decode cL_law 370 = .ok (.iconst 5, 1) := by decide +kernel
theorem dL_law_371 : decode cL_law 371 = .ok (.if_icmp .eq 5, 3) := by decide +kernel
theorem dL_law_374 : decode cL_law 374 = .ok (.iconst 0, 1) := by decide +kernel
theorem dL_law_375 : decode cL_law 375 = .ok (.ireturn, 1) := by decide +kernel
theorem dL_law_376 : decode cL_law 376 = .ok (.iconst 0, 1) := by decide +kernel
theorem dL_law_377 : decode cL_law 377 = .ok (.istore 4, 2) := by decide +kernel
theorem dL_law_379 : decode cL_law 379 = .ok (.iload 4, 2) := by decide +kernel
theorem dL_law_381 : decode cL_law 381 = .ok (.bipush 24, 2) := by decide +kernel
theorem dL_law_383 : decode cL_law 383 = .ok (.if_icmp .ge 255, 3) := by decide +kernel
theorem dL_law_386 : decode cL_law 386 = .ok (.aload_n 0, 1) := by decide +kernel
theorem dL_law_387 : decode cL_law 387 = .ok (.iload_n 2, 1) := by decide +kernel
theorem dL_law_388 : decode cL_law 388 = .ok (.invokestatic 229, 3) := by decide +kernel
theorem dL_law_391 : decode cL_law 391 = .ok (.sipush 255, 3) := by decide +kernel
theorem dL_law_394 : decode cL_law 394 = .ok (.iand, 1) := by decide +kernel
theorem dL_law_395 : decode cL_law 395 = .ok (.istore 5, 2) := by decide +kernel
theorem dL_law_397 : decode cL_law 397 = .ok (.new 116, 3) := by decide +kernel
theorem dL_law_400 : decode cL_law 400 = .ok (.dup, 1) := by decide +kernel
theorem dL_law_401 : decode cL_law 401 = .ok (.aload_n 0, 1) := by decide +kernel
theorem dL_law_402 : decode cL_law 402 = .ok (.iload_n 2, 1) := by decide +kernel
theorem dL_law_403 : decode cL_law 403 = .ok (.iconst 1, 1) := by decide +kernel
theorem dL_law_404 : decode cL_law 404 = .ok (.iadd, 1) := by decide +kernel
theorem dL_law_405 : decode cL_law 405 = .ok (.invokestatic 229, 3) := by decide +kernel
theorem dL_law_408 : decode cL_law 408 = .ok (.invokespecial 233, 3) := by decide +kernel
theorem dL_law_411 : decode cL_law 411 = .ok (.astore 6, 2) := by decide +kernel
theorem dL_law_413 : decode cL_law 413 = .ok (.iinc 2 2, 3) := by decide +kernel
theorem dL_law_416 : decode cL_law 416 = .ok (.iconst 0, 1) := by decide +kernel
theorem dL_law_417 : decode cL_law 417 = .ok (.aload_n 1, 1) := by decide +kernel
theorem dL_law_418 : decode cL_law 418 = .ok (.iconst 0, 1) := by decide +kernel
theorem dL_law_419 : decode cL_law 419 = .ok (.invokestatic 200, 3) := by decide +kernel
theorem dL_law_422 : decode cL_law 422 = .ok (.invokestatic 120, 3) := by decide +kernel
theorem dL_law_425 : decode cL_law 425 = .ok (.iconst 0, 1) := by decide +kernel
theorem dL_law_426 : decode cL_law 426 = .ok (.aload_n 1, 1) := by decide +kernel
theorem dL_law_427 : decode cL_law 427 = .ok (.iconst 1, 1) := by decide +kernel
theorem dL_law_428 : decode cL_law 428 = .ok (.invokestatic 200, 3) := by decide +kernel
theorem dL_law_431 : decode cL_law 431 = .ok (.invokestatic 120, 3) := by decide +kernel
theorem dL_law_434 : decode cL_law 434 = .ok (.iadd, 1) := by decide +kernel
theorem dL_law_435 : decode cL_law 435 = .ok (.iconst 0, 1) := by decide +kernel
theorem dL_law_436 : decode cL_law 436 = .ok (.aload_n 1, 1) := by decide +kernel
theorem dL_law_437 : decode cL_law 437 = .ok (.iconst 2, 1) := by decide +kernel
theorem dL_law_438 : decode cL_law 438 = .ok (.invokestatic 200, 3) := by decide +kernel
theorem dL_law_441 : decode cL_law 441 = .ok (.invokestatic 120, 3) := by decide +kernel
theorem dL_law_444 : decode cL_law 444 = .ok (.iadd, 1) := by decide +kernel
theorem dL_law_445 : decode cL_law 445 = .ok (.iconst 0, 1) := by decide +kernel
theorem dL_law_446 : decode cL_law 446 = .ok (.aload_n 1, 1) := by decide +kernel
theorem dL_law_447 : decode cL_law 447 = .ok (.iconst 3, 1) := by decide +kernel
theorem dL_law_448 : decode cL_law 448 = .ok (.invokestatic 200, 3) := by decide +kernel
theorem dL_law_451 : decode cL_law 451 = .ok (.invokestatic 120, 3) := by decide +kernel
theorem dL_law_454 : decode cL_law 454 = .ok (.iadd, 1) := by decide +kernel
theorem dL_law_455 : decode cL_law 455 = .ok (.iconst 0, 1) := by decide +kernel
theorem dL_law_456 : decode cL_law 456 = .ok (.aload_n 1, 1) := by decide +kernel
theorem dL_law_457 : decode cL_law 457 = .ok (.iconst 4, 1) := by decide +kernel
theorem dL_law_458 : decode cL_law 458 = .ok (.invokestatic 200, 3) := by decide +kernel
theorem dL_law_461 : decode cL_law 461 = .ok (.invokestatic 120, 3) := by decide +kernel
theorem dL_law_464 : decode cL_law 464 = .ok (.iadd, 1) := by decide +kernel
theorem dL_law_465 : decode cL_law 465 = .ok (.iconst 0, 1) := by decide +kernel
theorem dL_law_466 : decode cL_law 466 = .ok (.aload_n 1, 1) := by decide +kernel
theorem dL_law_467 : decode cL_law 467 = .ok (.iconst 5, 1) := by decide +kernel
theorem dL_law_468 : decode cL_law 468 = .ok (.invokestatic 200, 3) := by decide +kernel
theorem dL_law_471 : decode cL_law 471 = .ok (.invokestatic 120, 3) := by decide +kernel
theorem dL_law_474 : decode cL_law 474 = .ok (.iadd, 1) := by decide +kernel
theorem dL_law_475 : decode cL_law 475 = .ok (.iconst 0, 1) := by decide +kernel
theorem dL_law_476 : decode cL_law 476 = .ok (.aload_n 1, 1) := by decide +kernel
theorem dL_law_477 : decode cL_law 477 = .ok (.bipush 6, 2) := by decide +kernel
theorem dL_law_479 : decode cL_law 479 = .ok (.invokestatic 200, 3) := by decide +kernel
theorem dL_law_482 : decode cL_law 482 = .ok (.invokestatic 120, 3) := by decide +kernel
theorem dL_law_485 : decode cL_law 485 = .ok (.iadd, 1) := by decide +kernel
theorem dL_law_486 : decode cL_law 486 = .ok (.iconst 0, 1) := by decide +kernel
theorem dL_law_487 : decode cL_law 487 = .ok (.aload_n 1, 1) := by decide +kernel
theorem dL_law_488 : decode cL_law 488 = .ok (.bipush 7, 2) := by decide +kernel
theorem dL_law_490 : decode cL_law 490 = .ok (.invokestatic 200, 3) := by decide +kernel
theorem dL_law_493 : decode cL_law 493 = .ok (.invokestatic 120, 3) := by decide +kernel
theorem dL_law_496 : decode cL_law 496 = .ok (.iadd, 1) := by decide +kernel
theorem dL_law_497 : decode cL_law 497 = .ok (.istore 7, 2) := by decide +kernel
theorem dL_law_499 : decode cL_law 499 = .ok (.aload_n 1, 1) := by decide +kernel
theorem dL_law_500 : decode cL_law 500 = .ok (.invokestatic 236, 3) := by decide +kernel
theorem dL_law_503 : decode cL_law 503 = .ok (.astore 8, 2) := by decide +kernel
theorem dL_law_505 : decode cL_law 505 = .ok (.aload_n 1, 1) := by decide +kernel
theorem dL_law_506 : decode cL_law 506 = .ok (.iload 5, 2) := by decide +kernel
theorem dL_law_508 : decode cL_law 508 = .ok (.aload 6, 2) := by decide +kernel
theorem dL_law_510 : decode cL_law 510 = .ok (.iload 7, 2) := by decide +kernel
theorem dL_law_512 : decode cL_law 512 = .ok (.invokestatic 240, 3) := by decide +kernel
theorem dL_law_515 : decode cL_law 515 = .ok (.istore 9, 2) := by decide +kernel
theorem dL_law_517 : decode cL_law 517 = .ok (.iload 9, 2) := by decide +kernel
theorem dL_law_519 : decode cL_law 519 = .ok (.ifCond .ge 17, 3) := by decide +kernel
theorem dL_law_522 : decode cL_law 522 = .ok (.aload 8, 2) := by decide +kernel
theorem dL_law_524 : decode cL_law 524 = .ok (.aload_n 1, 1) := by decide +kernel
theorem dL_law_525 : decode cL_law 525 = .ok (.invokestatic 236, 3) := by decide +kernel
theorem dL_law_528 : decode cL_law 528 = .ok (.invokevirtual 244, 3) := by decide +kernel
theorem dL_law_531 : decode cL_law 531 = .ok (.ifCond .ne 5, 3) := by decide +kernel
theorem dL_law_534 : decode cL_law 534 = .ok (.iconst 0, 1) := by decide +kernel
theorem dL_law_535 : decode cL_law 535 = .ok (.ireturn, 1) := by decide +kernel
theorem dL_law_536 : decode cL_law 536 = .ok (.iload 7, 2) := by decide +kernel
theorem dL_law_538 : decode cL_law 538 = .ok (.iload 5, 2) := by decide +kernel
theorem dL_law_540 : decode cL_law 540 = .ok (.bipush 28, 2) := by decide +kernel
theorem dL_law_542 : decode cL_law 542 = .ok (.irem, 1) := by decide +kernel
theorem dL_law_543 : decode cL_law 543 = .ok (.ifCond .le 21, 3) := by decide +kernel
theorem dL_law_546 : decode cL_law 546 = .ok (.iload 5, 2) := by decide +kernel
theorem dL_law_548 : decode cL_law 548 = .ok (.bipush 28, 2) := by decide +kernel
theorem dL_law_550 : decode cL_law 550 = .ok (.irem, 1) := by decide +kernel
theorem dL_law_551 : decode cL_law 551 = .ok (.iconst 3, 1) := by decide +kernel
theorem dL_law_552 : decode cL_law 552 = .ok (.if_icmp .ge 12, 3) := by decide +kernel
theorem dL_law_555 : decode cL_law 555 = .ok (.iload 9, 2) := by decide +kernel
theorem dL_law_557 : decode cL_law 557 = .ok (.ifCond .lt 7, 3) := by decide +kernel
theorem dL_law_560 : decode cL_law 560 = .ok (.iconst 1, 1) := by decide +kernel
theorem dL_law_561 : decode cL_law 561 = .ok (.goto 4, 3) := by decide +kernel
theorem dL_law_564 : decode cL_law 564 = .ok (.iconst 0, 1) := by decide +kernel
theorem dL_law_565 : decode cL_law 565 = .ok (.iadd, 1) := by decide +kernel
theorem dL_law_566 : decode cL_law 566 = .ok (.istore 7, 2) := by decide +kernel
theorem dL_law_568 : decode cL_law 568 = .ok (.iload 4, 2) := by decide +kernel
theorem dL_law_570 : decode cL_law 570 = .ok (.iconst 3, 1) := by decide +kernel
theorem dL_law_571 : decode cL_law 571 = .ok (.irem, 1) := by decide +kernel
theorem dL_law_572 : decode cL_law 572 = .ok (.iconst 2, 1) := by decide +kernel
theorem dL_law_573 : decode cL_law 573 = .ok (.if_icmp .ne 59, 3) := by decide +kernel
theorem dL_law_576 : decode cL_law 576 = .ok (.aload_n 1, 1) := by decide +kernel
theorem dL_law_577 : decode cL_law 577 = .ok (.aload 6, 2) := by decide +kernel
theorem dL_law_579 : decode cL_law 579 = .ok (.iconst 5, 1) := by decide +kernel
theorem dL_law_580 : decode cL_law 580 = .ok (.invokevirtual 115, 3) := by decide +kernel
theorem dL_law_583 : decode cL_law 583 = .ok (.iload 7, 2) := by decide +kernel
theorem dL_law_585 : decode cL_law 585 = .ok (.invokestatic 250, 3) := by decide +kernel
theorem dL_law_588 : decode cL_law 588 = .ok (.ifCond .eq 42, 3) := by decide +kernel
theorem dL_law_591 : decode cL_law 591 = .ok (.aload_n 1, 1) := by decide +kernel
theorem dL_law_592 : decode cL_law 592 = .ok (.iload 7, 2) := by decide +kernel
theorem dL_law_594 : decode cL_law 594 = .ok (.invokestatic 253, 3) := by decide +kernel
theorem dL_law_597 : decode cL_law 597 = .ok (.ifCond .eq 33, 3) := by decide +kernel
theorem dL_law_600 : decode cL_law 600 = .ok (.aload_n 1, 1) := by decide +kernel
theorem dL_law_601 : decode cL_law 601 = .ok (.aload 6, 2) := by decide +kernel
theorem dL_law_603 : decode cL_law 603 = .ok (.iconst 4, 1) := by decide +kernel
theorem dL_law_604 : decode cL_law 604 = .ok (.invokevirtual 115, 3) := by decide +kernel
theorem dL_law_607 : decode cL_law 607 = .ok (.iload 7, 2) := by decide +kernel
theorem dL_law_609 : decode cL_law 609 = .ok (.invokestatic 256, 3) := by decide +kernel
theorem dL_law_612 : decode cL_law 612 = .ok (.ifCond .eq 18, 3) := by decide +kernel
theorem dL_law_615 : decode cL_law 615 = .ok (.aload_n 1, 1) := by decide +kernel
theorem dL_law_616 : decode cL_law 616 = .ok (.aload 6, 2) := by decide +kernel
theorem dL_law_618 : decode cL_law 618 = .ok (.iconst 5, 1) := by decide +kernel
theorem dL_law_619 : decode cL_law 619 = .ok (.invokevirtual 115, 3) := by decide +kernel
theorem dL_law_622 : decode cL_law 622 = .ok (.iload 7, 2) := by decide +kernel
theorem dL_law_624 : decode cL_law 624 = .ok (.invokestatic 250, 3) := by decide +kernel
theorem dL_law_627 : decode cL_law 627 = .ok (.ifCond .ne 5, 3) := by decide +kernel
theorem dL_law_630 : decode cL_law 630 = .ok (.iconst 0, 1) := by decide +kernel
theorem dL_law_631 : decode cL_law 631 = .ok (.ireturn, 1) := by decide +kernel
theorem dL_law_632 : decode cL_law 632 = .ok (.iinc 4 1, 3) := by decide +kernel
theorem dL_law_635 : decode cL_law 635 = .ok (.goto (-256), 3) := by decide +kernel
theorem dL_law_638 : decode cL_law 638 = .ok (.iconst 1, 1) := by decide +kernel
theorem dL_law_639 : decode cL_law 639 = .ok (.ireturn, 1) := by decide +kernel
