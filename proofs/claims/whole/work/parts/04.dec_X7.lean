theorem dX7_init_0 : decode cX7_init 0 = .ok (.aload_n 0, 1) := by decide +kernel
theorem dX7_init_1 : decode cX7_init 1 = .ok (.invokespecial 1, 3) := by decide +kernel
theorem dX7_init_4 : decode cX7_init 4 = .ok (.aload_n 0, 1) := by decide +kernel
theorem dX7_init_5 : decode cX7_init 5 = .ok (.iconst 5, 1) := by decide +kernel
theorem dX7_init_6 : decode cX7_init 6 = .ok (.putfield 7, 3) := by decide +kernel
theorem dX7_init_9 : decode cX7_init 9 = .ok (.aload_n 0, 1) := by decide +kernel
theorem dX7_init_10 : decode cX7_init 10 = .ok (.bipush 40, 2) := by decide +kernel
theorem dX7_init_12 : decode cX7_init 12 = .ok (.newarray .int, 2) := by decide +kernel
theorem dX7_init_14 : decode cX7_init 14 = .ok (.putfield 13, 3) := by decide +kernel
theorem dX7_init_17 : decode cX7_init 17 = .ok (.aload_n 0, 1) := by decide +kernel
theorem dX7_init_18 : decode cX7_init 18 = .ok (.bipush 40, 2) := by decide +kernel
theorem dX7_init_20 : decode cX7_init 20 = .ok (.newarray .int, 2) := by decide +kernel
theorem dX7_init_22 : decode cX7_init 22 = .ok (.putfield 17, 3) := by decide +kernel
theorem dX7_init_25 : decode cX7_init 25 = .ok (.aload_n 0, 1) := by decide +kernel
theorem dX7_init_26 : decode cX7_init 26 = .ok (.bipush 8, 2) := by decide +kernel
theorem dX7_init_28 : decode cX7_init 28 = .ok (.newarray .int, 2) := by decide +kernel
theorem dX7_init_30 : decode cX7_init 30 = .ok (.putfield 20, 3) := by decide +kernel
theorem dX7_init_33 : decode cX7_init 33 = .ok (.aload_n 0, 1) := by decide +kernel
theorem dX7_init_34 : decode cX7_init 34 = .ok (.bipush 8, 2) := by decide +kernel
theorem dX7_init_36 : decode cX7_init 36 = .ok (.newarray .int, 2) := by decide +kernel
theorem dX7_init_38 : decode cX7_init 38 = .ok (.putfield 23, 3) := by decide +kernel
theorem dX7_init_41 : decode cX7_init 41 = .ok (.aload_n 0, 1) := by decide +kernel
theorem dX7_init_42 : decode cX7_init 42 = .ok (.bipush 8, 2) := by decide +kernel
theorem dX7_init_44 : decode cX7_init 44 = .ok (.newarray .int, 2) := by decide +kernel
theorem dX7_init_46 : decode cX7_init 46 = .ok (.putfield 26, 3) := by decide +kernel
theorem dX7_init_49 : decode cX7_init 49 = .ok (.aload_n 0, 1) := by decide +kernel
theorem dX7_init_50 : decode cX7_init 50 = .ok (.bipush 12, 2) := by decide +kernel
theorem dX7_init_52 : decode cX7_init 52 = .ok (.newarray .int, 2) := by decide +kernel
theorem dX7_init_54 : decode cX7_init 54 = .ok (.putfield 29, 3) := by decide +kernel
theorem dX7_init_57 : decode cX7_init 57 = .ok (.aload_n 0, 1) := by decide +kernel
theorem dX7_init_58 : decode cX7_init 58 = .ok (.bipush 12, 2) := by decide +kernel
theorem dX7_init_60 : decode cX7_init 60 = .ok (.newarray .int, 2) := by decide +kernel
theorem dX7_init_62 : decode cX7_init 62 = .ok (.putfield 32, 3) := by decide +kernel
theorem dX7_init_65 : decode cX7_init 65 = .ok (.aload_n 0, 1) := by decide +kernel
theorem dX7_init_66 : decode cX7_init 66 = .ok (.bipush 12, 2) := by decide +kernel
theorem dX7_init_68 : decode cX7_init 68 = .ok (.newarray .int, 2) := by decide +kernel
theorem dX7_init_70 : decode cX7_init 70 = .ok (.putfield 35, 3) := by decide +kernel
theorem dX7_init_73 : decode cX7_init 73 = .ok (.aload_n 0, 1) := by decide +kernel
theorem dX7_init_74 : decode cX7_init 74 = .ok (.bipush 12, 2) := by decide +kernel
theorem dX7_init_76 : decode cX7_init 76 = .ok (.newarray .int, 2) := by decide +kernel
theorem dX7_init_78 : decode cX7_init 78 = .ok (.putfield 38, 3) := by decide +kernel
theorem dX7_init_81 : decode cX7_init 81 = .ok (.aload_n 0, 1) := by decide +kernel
theorem dX7_init_82 : decode cX7_init 82 = .ok (.bipush 10, 2) := by decide +kernel
theorem dX7_init_84 : decode cX7_init 84 = .ok (.newarray .int, 2) := by decide +kernel
theorem dX7_init_86 : decode cX7_init 86 = .ok (.putfield 41, 3) := by decide +kernel
theorem dX7_init_89 : decode cX7_init 89 = .ok (.aload_n 0, 1) := by decide +kernel
theorem dX7_init_90 : decode cX7_init 90 = .ok (.bipush 10, 2) := by decide +kernel
theorem dX7_init_92 : decode cX7_init 92 = .ok (.newarray .int, 2) := by decide +kernel
theorem dX7_init_94 : decode cX7_init 94 = .ok (.putfield 44, 3) := by decide +kernel
theorem dX7_init_97 : decode cX7_init 97 = .ok (.aload_n 0, 1) := by decide +kernel
theorem dX7_init_98 : decode cX7_init 98 = .ok (.bipush 10, 2) := by decide +kernel
theorem dX7_init_100 : decode cX7_init 100 = .ok (.newarray .int, 2) := by decide +kernel
theorem dX7_init_102 : decode cX7_init 102 = .ok (.putfield 47, 3) := by decide +kernel
theorem dX7_init_105 : decode cX7_init 105 = .ok (.aload_n 0, 1) := by decide +kernel
theorem dX7_init_106 : decode cX7_init 106 = .ok (.bipush 20, 2) := by decide +kernel
theorem dX7_init_108 : decode cX7_init 108 = .ok (.newarray .int, 2) := by decide +kernel
theorem dX7_init_110 : decode cX7_init 110 = .ok (.putfield 50, 3) := by decide +kernel
theorem dX7_init_113 : decode cX7_init 113 = .ok (.aload_n 0, 1) := by decide +kernel
theorem dX7_init_114 : decode cX7_init 114 = .ok (.bipush 20, 2) := by decide +kernel
theorem dX7_init_116 : decode cX7_init 116 = .ok (.newarray .int, 2) := by decide +kernel
theorem dX7_init_118 : decode cX7_init 118 = .ok (.putfield 53, 3) := by decide +kernel
theorem dX7_init_121 : decode cX7_init 121 = .ok (.aload_n 0, 1) := by decide +kernel
theorem dX7_init_122 : decode cX7_init 122 = .ok (.bipush 20, 2) := by decide +kernel
theorem dX7_init_124 : decode cX7_init 124 = .ok (.newarray .int, 2) := by decide +kernel
theorem dX7_init_126 : decode cX7_init 126 = .ok (.putfield 56, 3) := by decide +kernel
theorem dX7_init_129 : decode cX7_init 129 = .ok (.aload_n 0, 1) := by decide +kernel
theorem dX7_init_130 : decode cX7_init 130 = .ok (.iconst 5, 1) := by decide +kernel
theorem dX7_init_131 : decode cX7_init 131 = .ok (.newarray .int, 2) := by decide +kernel
theorem dX7_init_133 : decode cX7_init 133 = .ok (.putfield 59, 3) := by decide +kernel
theorem dX7_init_136 : decode cX7_init 136 = .ok (.aload_n 0, 1) := by decide +kernel
theorem dX7_init_137 : decode cX7_init 137 = .ok (.iconst 5, 1) := by decide +kernel
theorem dX7_init_138 : decode cX7_init 138 = .ok (.newarray .int, 2) := by decide +kernel
theorem dX7_init_140 : decode cX7_init 140 = .ok (.putfield 62, 3) := by decide +kernel
theorem dX7_init_143 : decode cX7_init 143 = .ok (.aload_n 0, 1) := by decide +kernel
theorem dX7_init_144 : decode cX7_init 144 = .ok (.bipush 12, 2) := by decide +kernel
theorem dX7_init_146 : decode cX7_init 146 = .ok (.newarray .boolean, 2) := by decide +kernel
theorem dX7_init_148 : decode cX7_init 148 = .ok (.putfield 65, 3) := by decide +kernel
theorem dX7_init_151 : decode cX7_init 151 = .ok (.aload_n 0, 1) := by decide +kernel
theorem dX7_init_152 : decode cX7_init 152 = .ok (.sipush 200, 3) := by decide +kernel
theorem dX7_init_155 : decode cX7_init 155 = .ok (.newarray .boolean, 2) := by decide +kernel
theorem dX7_init_157 : decode cX7_init 157 = .ok (.putfield 69, 3) := by decide +kernel
theorem dX7_init_160 : decode cX7_init 160 = .ok (.aload_n 0, 1) := by decide +kernel
theorem dX7_init_161 : decode cX7_init 161 = .ok (.bipush 40, 2) := by decide +kernel
theorem dX7_init_163 : decode cX7_init 163 = .ok (.newarray .boolean, 2) := by decide +kernel
theorem dX7_init_165 : decode cX7_init 165 = .ok (.putfield 72, 3) := by decide +kernel
theorem dX7_init_168 : decode cX7_init 168 = .ok (.aload_n 0, 1) := by decide +kernel
theorem dX7_init_169 : decode cX7_init 169 = .ok (.bipush 20, 2) := by decide +kernel
theorem dX7_init_171 : decode cX7_init 171 = .ok (.newarray .char, 2) := by decide +kernel
theorem dX7_init_173 : decode cX7_init 173 = .ok (.putfield 75, 3) := by decide +kernel
theorem dX7_init_176 : decode cX7_init 176 = .ok (.return_, 1) := by decide +kernel
theorem dX7_thrown_0 : decode cX7_thrown 0 = .ok (.aload_n 0, 1) := by decide +kernel
theorem dX7_thrown_1 : decode cX7_thrown 1 = .ok (.getfield 79, 3) := by decide +kernel
theorem dX7_thrown_4 : decode cX7_thrown 4 = .ok (.ireturn, 1) := by decide +kernel
theorem dX7_refuse_0 : decode cX7_refuse 0 = .ok (.aload_n 0, 1) := by decide +kernel
theorem dX7_refuse_1 : decode cX7_refuse 1 = .ok (.iload_n 1, 1) := by decide +kernel
theorem dX7_refuse_2 : decode cX7_refuse 2 = .ok (.putfield 79, 3) := by decide +kernel
theorem dX7_refuse_5 : decode cX7_refuse 5 = .ok (.iconst 0, 1) := by decide +kernel
theorem dX7_refuse_6 : decode cX7_refuse 6 = .ok (.ireturn, 1) := by decide +kernel
theorem dX7_isIn_0 : decode cX7_isIn 0 = .ok (.iload_n 0, 1) := by decide +kernel
theorem dX7_isIn_1 : decode cX7_isIn 1 = .ok (.iload_n 1, 1) := by decide +kernel
theorem dX7_isIn_2 : decode cX7_isIn 2 = .ok (.if_icmp .lt 12, 3) := by decide +kernel
theorem dX7_isIn_5 : decode cX7_isIn 5 = .ok (.iload_n 0, 1) := by decide +kernel
theorem dX7_isIn_6 : decode cX7_isIn 6 = .ok (.iload_n 2, 1) := by decide +kernel
theorem dX7_isIn_7 : decode cX7_isIn 7 = .ok (.if_icmp .gt 7, 3) := by decide +kernel
theorem dX7_isIn_10 : decode cX7_isIn 10 = .ok (.iconst 1, 1) := by decide +kernel
theorem dX7_isIn_11 : decode cX7_isIn 11 = .ok (.goto 4, 3) := by decide +kernel
theorem dX7_isIn_14 : decode cX7_isIn 14 = .ok (.iconst 0, 1) := by decide +kernel
theorem dX7_isIn_15 : decode cX7_isIn 15 = .ok (.ireturn, 1) := by decide +kernel
theorem dX7_noDocument_0 : decode cX7_noDocument 0 = .ok (.aload_n 0, 1) := by decide +kernel
theorem dX7_noDocument_1 : decode cX7_noDocument 1 = .ok (.iload_n 1, 1) := by decide +kernel
theorem dX7_noDocument_2 : decode cX7_noDocument 2 = .ok (.iconst 0, 1) := by decide +kernel
theorem dX7_noDocument_3 : decode cX7_noDocument 3 = .ok (.aload_n 0, 1) := by decide +kernel
theorem dX7_noDocument_4 : decode cX7_noDocument 4 = .ok (.getfield 82, 3) := by decide +kernel
theorem dX7_noDocument_7 : decode cX7_noDocument 7 = .ok (.iconst 1, 1) := by decide +kernel
theorem dX7_noDocument_8 : decode cX7_noDocument 8 = .ok (.isub, 1) := by decide +kernel
theorem dX7_noDocument_9 : decode cX7_noDocument 9 = .ok (.invokestatic 85, 3) := by decide +kernel
theorem dX7_noDocument_12 : decode cX7_noDocument 12 = .ok (.ifCond .eq 7, 3) := by decide +kernel
theorem dX7_noDocument_15 : decode cX7_noDocument 15 = .ok (.iconst 0, 1) := by decide +kernel
theorem dX7_noDocument_16 : decode cX7_noDocument 16 = .ok (.goto 4, 3) := by decide +kernel
theorem dX7_noDocument_19 : decode cX7_noDocument 19 = .ok (.iconst 1, 1) := by decide +kernel
theorem dX7_noDocument_20 : decode cX7_noDocument 20 = .ok (.putfield 79, 3) := by decide +kernel
theorem dX7_noDocument_23 : decode cX7_noDocument 23 = .ok (.aload_n 0, 1) := by decide +kernel
theorem dX7_noDocument_24 : decode cX7_noDocument 24 = .ok (.getfield 79, 3) := by decide +kernel
theorem dX7_noDocument_27 : decode cX7_noDocument 27 = .ok (.ifCond .eq 7, 3) := by decide +kernel
theorem dX7_noDocument_30 : decode cX7_noDocument 30 = .ok (.iconst 1, 1) := by decide +kernel
theorem dX7_noDocument_31 : decode cX7_noDocument 31 = .ok (.goto 4, 3) := by decide +kernel
theorem dX7_noDocument_34 : decode cX7_noDocument 34 = .ok (.iconst 0, 1) := by decide +kernel
theorem dX7_noDocument_35 : decode cX7_noDocument 35 = .ok (.ireturn, 1) := by decide +kernel
theorem dX7_noLine_0 : decode cX7_noLine 0 = .ok (.aload_n 0, 1) := by decide +kernel
theorem dX7_noLine_1 : decode cX7_noLine 1 = .ok (.iload_n 1, 1) := by decide +kernel
theorem dX7_noLine_2 : decode cX7_noLine 2 = .ok (.iconst 0, 1) := by decide +kernel
theorem dX7_noLine_3 : decode cX7_noLine 3 = .ok (.aload_n 0, 1) := by decide +kernel
theorem dX7_noLine_4 : decode cX7_noLine 4 = .ok (.getfield 89, 3) := by decide +kernel
theorem dX7_noLine_7 : decode cX7_noLine 7 = .ok (.iconst 1, 1) := by decide +kernel
theorem dX7_noLine_8 : decode cX7_noLine 8 = .ok (.isub, 1) := by decide +kernel
theorem dX7_noLine_9 : decode cX7_noLine 9 = .ok (.invokestatic 85, 3) := by decide +kernel
theorem dX7_noLine_12 : decode cX7_noLine 12 = .ok (.ifCond .eq 7, 3) := by decide +kernel
theorem dX7_noLine_15 : decode cX7_noLine 15 = .ok (.iconst 0, 1) := by decide +kernel
theorem dX7_noLine_16 : decode cX7_noLine 16 = .ok (.goto 4, 3) := by decide +kernel
theorem dX7_noLine_19 : decode cX7_noLine 19 = .ok (.iconst 1, 1) := by decide +kernel
theorem dX7_noLine_20 : decode cX7_noLine 20 = .ok (.putfield 79, 3) := by decide +kernel
theorem dX7_noLine_23 : decode cX7_noLine 23 = .ok (.aload_n 0, 1) := by decide +kernel
theorem dX7_noLine_24 : decode cX7_noLine 24 = .ok (.getfield 79, 3) := by decide +kernel
theorem dX7_noLine_27 : decode cX7_noLine 27 = .ok (.ifCond .eq 7, 3) := by decide +kernel
theorem dX7_noLine_30 : decode cX7_noLine 30 = .ok (.iconst 1, 1) := by decide +kernel
theorem dX7_noLine_31 : decode cX7_noLine 31 = .ok (.goto 4, 3) := by decide +kernel
theorem dX7_noLine_34 : decode cX7_noLine 34 = .ok (.iconst 0, 1) := by decide +kernel
theorem dX7_noLine_35 : decode cX7_noLine 35 = .ok (.ireturn, 1) := by decide +kernel
theorem dX7_noAsker_0 : decode cX7_noAsker 0 = .ok (.aload_n 0, 1) := by decide +kernel
theorem dX7_noAsker_1 : decode cX7_noAsker 1 = .ok (.iload_n 1, 1) := by decide +kernel
theorem dX7_noAsker_2 : decode cX7_noAsker 2 = .ok (.iconst 0, 1) := by decide +kernel
theorem dX7_noAsker_3 : decode cX7_noAsker 3 = .ok (.iconst 4, 1) := by decide +kernel
theorem dX7_noAsker_4 : decode cX7_noAsker 4 = .ok (.invokestatic 85, 3) := by decide +kernel
theorem dX7_noAsker_7 : decode cX7_noAsker 7 = .ok (.ifCond .eq 7, 3) := by decide +kernel
theorem dX7_noAsker_10 : decode cX7_noAsker 10 = .ok (.iconst 0, 1) := by decide +kernel
theorem dX7_noAsker_11 : decode cX7_noAsker 11 = .ok (.goto 4, 3) := by decide +kernel
theorem dX7_noAsker_14 : decode cX7_noAsker 14 = .ok (.iconst 1, 1) := by decide +kernel
theorem dX7_noAsker_15 : decode cX7_noAsker 15 = .ok (.putfield 79, 3) := by decide +kernel
theorem dX7_noAsker_18 : decode cX7_noAsker 18 = .ok (.aload_n 0, 1) := by decide +kernel
theorem dX7_noAsker_19 : decode cX7_noAsker 19 = .ok (.getfield 79, 3) := by decide +kernel
theorem dX7_noAsker_22 : decode cX7_noAsker 22 = .ok (.ifCond .eq 7, 3) := by decide +kernel
theorem dX7_noAsker_25 : decode cX7_noAsker 25 = .ok (.iconst 1, 1) := by decide +kernel
theorem dX7_noAsker_26 : decode cX7_noAsker 26 = .ok (.goto 4, 3) := by decide +kernel
theorem dX7_noAsker_29 : decode cX7_noAsker 29 = .ok (.iconst 0, 1) := by decide +kernel
theorem dX7_noAsker_30 : decode cX7_noAsker 30 = .ok (.ireturn, 1) := by decide +kernel
theorem dX7_addDocument_0 : decode cX7_addDocument 0 = .ok (.aload_n 0, 1) := by decide +kernel
theorem dX7_addDocument_1 : decode cX7_addDocument 1 = .ok (.getfield 82, 3) := by decide +kernel
theorem dX7_addDocument_4 : decode cX7_addDocument 4 = .ok (.bipush 8, 2) := by decide +kernel
theorem dX7_addDocument_6 : decode cX7_addDocument 6 = .ok (.if_icmp .ne 9, 3) := by decide +kernel
theorem dX7_addDocument_9 : decode cX7_addDocument 9 = .ok (.aload_n 0, 1) := by decide +kernel
theorem dX7_addDocument_10 : decode cX7_addDocument 10 = .ok (.iconst 1, 1) := by decide +kernel
theorem dX7_addDocument_11 : decode cX7_addDocument 11 = .ok (.invokevirtual 92, 3) := by decide +kernel
theorem dX7_addDocument_14 : decode cX7_addDocument 14 = .ok (.ireturn, 1) := by decide +kernel
theorem dX7_addDocument_15 : decode cX7_addDocument 15 = .ok (.aload_n 0, 1) := by decide +kernel
theorem dX7_addDocument_16 : decode cX7_addDocument 16 = .ok (.iconst 0, 1) := by decide +kernel
theorem dX7_addDocument_17 : decode cX7_addDocument 17 = .ok (.putfield 79, 3) := by decide +kernel
theorem dX7_addDocument_20 : decode cX7_addDocument 20 = .ok (.aload_n 0, 1) := by decide +kernel
theorem dX7_addDocument_21 : decode cX7_addDocument 21 = .ok (.dup, 1) := by decide +kernel
theorem dX7_addDocument_22 : decode cX7_addDocument 22 = .ok (.getfield 82, 3) := by decide +kernel
theorem dX7_addDocument_25 : decode cX7_addDocument 25 = .ok (.dup_x1, 1) := by decide +kernel
theorem dX7_addDocument_26 : decode cX7_addDocument 26 = .ok (.iconst 1, 1) := by decide +kernel
theorem dX7_addDocument_27 : decode cX7_addDocument 27 = .ok (.iadd, 1) := by decide +kernel
theorem dX7_addDocument_28 : decode cX7_addDocument 28 = .ok (.putfield 82, 3) := by decide +kernel
theorem dX7_addDocument_31 : decode cX7_addDocument 31 = .ok (.ireturn, 1) := by decide +kernel
theorem dX7_addLine_0 : decode cX7_addLine 0 = .ok (.aload_n 0, 1) := by decide +kernel
theorem dX7_addLine_1 : decode cX7_addLine 1 = .ok (.iload_n 1, 1) := by decide +kernel
theorem dX7_addLine_2 : decode cX7_addLine 2 = .ok (.invokevirtual 96, 3) := by decide +kernel
theorem dX7_addLine_5 : decode cX7_addLine 5 = .ok (.ifCond .eq 5, 3) := by decide +kernel
theorem dX7_addLine_8 : decode cX7_addLine 8 = .ok (.iconst 0, 1) := by decide +kernel
theorem dX7_addLine_9 : decode cX7_addLine 9 = .ok (.ireturn, 1) := by decide +kernel
theorem dX7_addLine_10 : decode cX7_addLine 10 = .ok (.iload_n 2, 1) := by decide +kernel
theorem dX7_addLine_11 : decode cX7_addLine 11 = .ok (.iconst 0, 1) := by decide +kernel
theorem dX7_addLine_12 : decode cX7_addLine 12 = .ok (.sipush 9999, 3) := by decide +kernel
theorem dX7_addLine_15 : decode cX7_addLine 15 = .ok (.invokestatic 85, 3) := by decide +kernel
theorem dX7_addLine_18 : decode cX7_addLine 18 = .ok (.ifCond .ne 9, 3) := by decide +kernel
theorem dX7_addLine_21 : decode cX7_addLine 21 = .ok (.aload_n 0, 1) := by decide +kernel
theorem dX7_addLine_22 : decode cX7_addLine 22 = .ok (.iconst 2, 1) := by decide +kernel
theorem dX7_addLine_23 : decode cX7_addLine 23 = .ok (.invokevirtual 92, 3) := by decide +kernel
theorem dX7_addLine_26 : decode cX7_addLine 26 = .ok (.ireturn, 1) := by decide +kernel
theorem dX7_addLine_27 : decode cX7_addLine 27 = .ok (.aload_n 0, 1) := by decide +kernel
theorem dX7_addLine_28 : decode cX7_addLine 28 = .ok (.getfield 89, 3) := by decide +kernel
theorem dX7_addLine_31 : decode cX7_addLine 31 = .ok (.bipush 40, 2) := by decide +kernel
theorem dX7_addLine_33 : decode cX7_addLine 33 = .ok (.if_icmp .ne 9, 3) := by decide +kernel
theorem dX7_addLine_36 : decode cX7_addLine 36 = .ok (.aload_n 0, 1) := by decide +kernel
theorem dX7_addLine_37 : decode cX7_addLine 37 = .ok (.iconst 3, 1) := by decide +kernel
theorem dX7_addLine_38 : decode cX7_addLine 38 = .ok (.invokevirtual 92, 3) := by decide +kernel
theorem dX7_addLine_41 : decode cX7_addLine 41 = .ok (.ireturn, 1) := by decide +kernel
theorem dX7_addLine_42 : decode cX7_addLine 42 = .ok (.aload_n 0, 1) := by decide +kernel
theorem dX7_addLine_43 : decode cX7_addLine 43 = .ok (.getfield 13, 3) := by decide +kernel
theorem dX7_addLine_46 : decode cX7_addLine 46 = .ok (.aload_n 0, 1) := by decide +kernel
theorem dX7_addLine_47 : decode cX7_addLine 47 = .ok (.getfield 89, 3) := by decide +kernel
theorem dX7_addLine_50 : decode cX7_addLine 50 = .ok (.iload_n 1, 1) := by decide +kernel
theorem dX7_addLine_51 : decode cX7_addLine 51 = .ok (.iastore, 1) := by decide +kernel
theorem dX7_addLine_52 : decode cX7_addLine 52 = .ok (.aload_n 0, 1) := by decide +kernel
theorem dX7_addLine_53 : decode cX7_addLine 53 = .ok (.getfield 17, 3) := by decide +kernel
theorem dX7_addLine_56 : decode cX7_addLine 56 = .ok (.aload_n 0, 1) := by decide +kernel
theorem dX7_addLine_57 : decode cX7_addLine 57 = .ok (.getfield 89, 3) := by decide +kernel
theorem dX7_addLine_60 : decode cX7_addLine 60 = .ok (.iload_n 2, 1) := by decide +kernel
theorem dX7_addLine_61 : decode cX7_addLine 61 = .ok (.iastore, 1) := by decide +kernel
theorem dX7_addLine_62 : decode cX7_addLine 62 = .ok (.aload_n 0, 1) := by decide +kernel
theorem dX7_addLine_63 : decode cX7_addLine 63 = .ok (.dup, 1) := by decide +kernel
theorem dX7_addLine_64 : decode cX7_addLine 64 = .ok (.getfield 89, 3) := by decide +kernel
theorem dX7_addLine_67 : decode cX7_addLine 67 = .ok (.dup_x1, 1) := by decide +kernel
theorem dX7_addLine_68 : decode cX7_addLine 68 = .ok (.iconst 1, 1) := by decide +kernel
theorem dX7_addLine_69 : decode cX7_addLine 69 = .ok (.iadd, 1) := by decide +kernel
theorem dX7_addLine_70 : decode cX7_addLine 70 = .ok (.putfield 89, 3) := by decide +kernel
theorem dX7_addLine_73 : decode cX7_addLine 73 = .ok (.ireturn, 1) := by decide +kernel
theorem dX7_rescan_0 : decode cX7_rescan 0 = .ok (.aload_n 0, 1) := by decide +kernel
theorem dX7_rescan_1 : decode cX7_rescan 1 = .ok (.iload_n 1, 1) := by decide +kernel
theorem dX7_rescan_2 : decode cX7_rescan 2 = .ok (.invokevirtual 100, 3) := by decide +kernel
theorem dX7_rescan_5 : decode cX7_rescan 5 = .ok (.ifCond .eq 5, 3) := by decide +kernel
theorem dX7_rescan_8 : decode cX7_rescan 8 = .ok (.iconst 0, 1) := by decide +kernel
theorem dX7_rescan_9 : decode cX7_rescan 9 = .ok (.ireturn, 1) := by decide +kernel
theorem dX7_rescan_10 : decode cX7_rescan 10 = .ok (.iload_n 2, 1) := by decide +kernel
theorem dX7_rescan_11 : decode cX7_rescan 11 = .ok (.iconst 0, 1) := by decide +kernel
theorem dX7_rescan_12 : decode cX7_rescan 12 = .ok (.sipush 9999, 3) := by decide +kernel
theorem dX7_rescan_15 : decode cX7_rescan 15 = .ok (.invokestatic 85, 3) := by decide +kernel
theorem dX7_rescan_18 : decode cX7_rescan 18 = .ok (.ifCond .ne 9, 3) := by decide +kernel
theorem dX7_rescan_21 : decode cX7_rescan 21 = .ok (.aload_n 0, 1) := by decide +kernel
theorem dX7_rescan_22 : decode cX7_rescan 22 = .ok (.iconst 2, 1) := by decide +kernel
theorem dX7_rescan_23 : decode cX7_rescan 23 = .ok (.invokevirtual 92, 3) := by decide +kernel
theorem dX7_rescan_26 : decode cX7_rescan 26 = .ok (.ireturn, 1) := by decide +kernel
theorem dX7_rescan_27 : decode cX7_rescan 27 = .ok (.aload_n 0, 1) := by decide +kernel
theorem dX7_rescan_28 : decode cX7_rescan 28 = .ok (.getfield 17, 3) := by decide +kernel
theorem dX7_rescan_31 : decode cX7_rescan 31 = .ok (.iload_n 1, 1) := by decide +kernel
theorem dX7_rescan_32 : decode cX7_rescan 32 = .ok (.iaload, 1) := by decide +kernel
theorem dX7_rescan_33 : decode cX7_rescan 33 = .ok (.istore_n 3, 1) := by decide +kernel
theorem dX7_rescan_34 : decode cX7_rescan 34 = .ok (.aload_n 0, 1) := by decide +kernel
theorem dX7_rescan_35 : decode cX7_rescan 35 = .ok (.getfield 17, 3) := by decide +kernel
theorem dX7_rescan_38 : decode cX7_rescan 38 = .ok (.iload_n 1, 1) := by decide +kernel
theorem dX7_rescan_39 : decode cX7_rescan 39 = .ok (.iload_n 2, 1) := by decide +kernel
theorem dX7_rescan_40 : decode cX7_rescan 40 = .ok (.iastore, 1) := by decide +kernel
theorem dX7_rescan_41 : decode cX7_rescan 41 = .ok (.iload_n 3, 1) := by decide +kernel
theorem dX7_rescan_42 : decode cX7_rescan 42 = .ok (.ireturn, 1) := by decide +kernel
theorem dX7_documentOf_0 : decode cX7_documentOf 0 = .ok (.aload_n 0, 1) := by decide +kernel
theorem dX7_documentOf_1 : decode cX7_documentOf 1 = .ok (.iload_n 1, 1) := by decide +kernel
theorem dX7_documentOf_2 : decode cX7_documentOf 2 = .ok (.invokevirtual 100, 3) := by decide +kernel
theorem dX7_documentOf_5 : decode cX7_documentOf 5 = .ok (.ifCond .eq 7, 3) := by decide +kernel
theorem dX7_documentOf_8 : decode cX7_documentOf 8 = .ok (.iconst 0, 1) := by decide +kernel
theorem dX7_documentOf_9 : decode cX7_documentOf 9 = .ok (.goto 9, 3) := by decide +kernel
theorem dX7_documentOf_12 : decode cX7_documentOf 12 = .ok (.aload_n 0, 1) := by decide +kernel
theorem dX7_documentOf_13 : decode cX7_documentOf 13 = .ok (.getfield 13, 3) := by decide +kernel
theorem dX7_documentOf_16 : decode cX7_documentOf 16 = .ok (.iload_n 1, 1) := by decide +kernel
theorem dX7_documentOf_17 : decode cX7_documentOf 17 = .ok (.iaload, 1) := by decide +kernel
theorem dX7_documentOf_18 : decode cX7_documentOf 18 = .ok (.ireturn, 1) := by decide +kernel
theorem dX7_index_0 : decode cX7_index 0 = .ok (.iconst 0, 1) := by decide +kernel
theorem dX7_index_1 : decode cX7_index 1 = .ok (.istore_n 2, 1) := by decide +kernel
theorem dX7_index_2 : decode cX7_index 2 = .ok (.iconst 0, 1) := by decide +kernel
theorem dX7_index_3 : decode cX7_index 3 = .ok (.istore_n 3, 1) := by decide +kernel
theorem dX7_index_4 : decode cX7_index 4 = .ok (.iload_n 3, 1) := by decide +kernel
theorem dX7_index_5 : decode cX7_index 5 = .ok (.iload_n 1, 1) := by decide +kernel
theorem dX7_index_6 : decode cX7_index 6 = .ok (.if_icmp .ge 32, 3) := by decide +kernel
theorem dX7_index_9 : decode cX7_index 9 = .ok (.iload_n 2, 1) := by decide +kernel
theorem dX7_index_10 : decode cX7_index 10 = .ok (.aload_n 0, 1) := by decide +kernel
theorem dX7_index_11 : decode cX7_index 11 = .ok (.getfield 13, 3) := by decide +kernel
theorem dX7_index_14 : decode cX7_index 14 = .ok (.iload_n 3, 1) := by decide +kernel
theorem dX7_index_15 : decode cX7_index 15 = .ok (.iaload, 1) := by decide +kernel
theorem dX7_index_16 : decode cX7_index 16 = .ok (.aload_n 0, 1) := by decide +kernel
theorem dX7_index_17 : decode cX7_index 17 = .ok (.getfield 13, 3) := by decide +kernel
theorem dX7_index_20 : decode cX7_index 20 = .ok (.iload_n 1, 1) := by decide +kernel
theorem dX7_index_21 : decode cX7_index 21 = .ok (.iaload, 1) := by decide +kernel
theorem dX7_index_22 : decode cX7_index 22 = .ok (.if_icmp .ne 7, 3) := by decide +kernel
theorem dX7_index_25 : decode cX7_index 25 = .ok (.iconst 1, 1) := by decide +kernel
theorem dX7_index_26 : decode cX7_index 26 = .ok (.goto 4, 3) := by decide +kernel
theorem dX7_index_29 : decode cX7_index 29 = .ok (.iconst 0, 1) := by decide +kernel
theorem dX7_index_30 : decode cX7_index 30 = .ok (.iadd, 1) := by decide +kernel
theorem dX7_index_31 : decode cX7_index 31 = .ok (.istore_n 2, 1) := by decide +kernel
theorem dX7_index_32 : decode cX7_index 32 = .ok (.iinc 3 1, 3) := by decide +kernel
theorem dX7_index_35 : decode cX7_index 35 = .ok (.goto (-31), 3) := by decide +kernel
theorem dX7_index_38 : decode cX7_index 38 = .ok (.iload_n 2, 1) := by decide +kernel
theorem dX7_index_39 : decode cX7_index 39 = .ok (.ireturn, 1) := by decide +kernel
theorem dX7_indexOf_0 : decode cX7_indexOf 0 = .ok (.aload_n 0, 1) := by decide +kernel
theorem dX7_indexOf_1 : decode cX7_indexOf 1 = .ok (.iload_n 1, 1) := by decide +kernel
theorem dX7_indexOf_2 : decode cX7_indexOf 2 = .ok (.invokevirtual 100, 3) := by decide +kernel
theorem dX7_indexOf_5 : decode cX7_indexOf 5 = .ok (.ifCond .eq 7, 3) := by decide +kernel
theorem dX7_indexOf_8 : decode cX7_indexOf 8 = .ok (.iconst 0, 1) := by decide +kernel
theorem dX7_indexOf_9 : decode cX7_indexOf 9 = .ok (.goto 8, 3) := by decide +kernel
theorem dX7_indexOf_12 : decode cX7_indexOf 12 = .ok (.aload_n 0, 1) := by decide +kernel
theorem dX7_indexOf_13 : decode cX7_indexOf 13 = .ok (.iload_n 1, 1) := by decide +kernel
theorem dX7_indexOf_14 : decode cX7_indexOf 14 = .ok (.invokevirtual 103, 3) := by decide +kernel
theorem dX7_indexOf_17 : decode cX7_indexOf 17 = .ok (.ireturn, 1) := by decide +kernel
theorem dX7_lines_0 : decode cX7_lines 0 = .ok (.aload_n 0, 1) := by decide +kernel
theorem dX7_lines_1 : decode cX7_lines 1 = .ok (.iload_n 1, 1) := by decide +kernel
theorem dX7_lines_2 : decode cX7_lines 2 = .ok (.invokevirtual 96, 3) := by decide +kernel
theorem dX7_lines_5 : decode cX7_lines 5 = .ok (.ifCond .eq 5, 3) := by decide +kernel
theorem dX7_lines_8 : decode cX7_lines 8 = .ok (.iconst 0, 1) := by decide +kernel
theorem dX7_lines_9 : decode cX7_lines 9 = .ok (.ireturn, 1) := by decide +kernel
theorem dX7_lines_10 : decode cX7_lines 10 = .ok (.iconst 0, 1) := by decide +kernel
theorem dX7_lines_11 : decode cX7_lines 11 = .ok (.istore_n 2, 1) := by decide +kernel
theorem dX7_lines_12 : decode cX7_lines 12 = .ok (.iconst 0, 1) := by decide +kernel
theorem dX7_lines_13 : decode cX7_lines 13 = .ok (.istore_n 3, 1) := by decide +kernel
theorem dX7_lines_14 : decode cX7_lines 14 = .ok (.iload_n 3, 1) := by decide +kernel
theorem dX7_lines_15 : decode cX7_lines 15 = .ok (.aload_n 0, 1) := by decide +kernel
theorem dX7_lines_16 : decode cX7_lines 16 = .ok (.getfield 89, 3) := by decide +kernel
theorem dX7_lines_19 : decode cX7_lines 19 = .ok (.if_icmp .ge 27, 3) := by decide +kernel
theorem dX7_lines_22 : decode cX7_lines 22 = .ok (.iload_n 2, 1) := by decide +kernel
theorem dX7_lines_23 : decode cX7_lines 23 = .ok (.aload_n 0, 1) := by decide +kernel
theorem dX7_lines_24 : decode cX7_lines 24 = .ok (.getfield 13, 3) := by decide +kernel
theorem dX7_lines_27 : decode cX7_lines 27 = .ok (.iload_n 3, 1) := by decide +kernel
theorem dX7_lines_28 : decode cX7_lines 28 = .ok (.iaload, 1) := by decide +kernel
theorem dX7_lines_29 : decode cX7_lines 29 = .ok (.iload_n 1, 1) := by decide +kernel
theorem dX7_lines_30 : decode cX7_lines 30 = .ok (.if_icmp .ne 7, 3) := by decide +kernel
theorem dX7_lines_33 : decode cX7_lines 33 = .ok (.iconst 1, 1) := by decide +kernel
theorem dX7_lines_34 : decode cX7_lines 34 = .ok (.goto 4, 3) := by decide +kernel
theorem dX7_lines_37 : decode cX7_lines 37 = .ok (.iconst 0, 1) := by decide +kernel
theorem dX7_lines_38 : decode cX7_lines 38 = .ok (.iadd, 1) := by decide +kernel
theorem dX7_lines_39 : decode cX7_lines 39 = .ok (.istore_n 2, 1) := by decide +kernel
theorem dX7_lines_40 : decode cX7_lines 40 = .ok (.iinc 3 1, 3) := by decide +kernel
theorem dX7_lines_43 : decode cX7_lines 43 = .ok (.goto (-29), 3) := by decide +kernel
theorem dX7_lines_46 : decode cX7_lines 46 = .ok (.iload_n 2, 1) := by decide +kernel
theorem dX7_lines_47 : decode cX7_lines 47 = .ok (.ireturn, 1) := by decide +kernel
theorem dX7_addRule_0 : decode cX7_addRule 0 = .ok (.iload_n 1, 1) := by decide +kernel
theorem dX7_addRule_1 : decode cX7_addRule 1 = .ok (.iconst 0, 1) := by decide +kernel
theorem dX7_addRule_2 : decode cX7_addRule 2 = .ok (.sipush 9999, 3) := by decide +kernel
theorem dX7_addRule_5 : decode cX7_addRule 5 = .ok (.invokestatic 85, 3) := by decide +kernel
theorem dX7_addRule_8 : decode cX7_addRule 8 = .ok (.ifCond .eq 28, 3) := by decide +kernel
theorem dX7_addRule_11 : decode cX7_addRule 11 = .ok (.iload_n 2, 1) := by decide +kernel
theorem dX7_addRule_12 : decode cX7_addRule 12 = .ok (.iload_n 1, 1) := by decide +kernel
theorem dX7_addRule_13 : decode cX7_addRule 13 = .ok (.sipush 9999, 3) := by decide +kernel
theorem dX7_addRule_16 : decode cX7_addRule 16 = .ok (.invokestatic 85, 3) := by decide +kernel
theorem dX7_addRule_19 : decode cX7_addRule 19 = .ok (.ifCond .eq 17, 3) := by decide +kernel
theorem dX7_addRule_22 : decode cX7_addRule 22 = .ok (.iload_n 3, 1) := by decide +kernel
theorem dX7_addRule_23 : decode cX7_addRule 23 = .ok (.aload_n 0, 1) := by decide +kernel
theorem dX7_addRule_24 : decode cX7_addRule 24 = .ok (.getfield 106, 3) := by decide +kernel
theorem dX7_addRule_27 : decode cX7_addRule 27 = .ok (.sipush 9999, 3) := by decide +kernel
theorem dX7_addRule_30 : decode cX7_addRule 30 = .ok (.invokestatic 85, 3) := by decide +kernel
theorem dX7_addRule_33 : decode cX7_addRule 33 = .ok (.ifCond .ne 9, 3) := by decide +kernel
theorem dX7_addRule_36 : decode cX7_addRule 36 = .ok (.aload_n 0, 1) := by decide +kernel
theorem dX7_addRule_37 : decode cX7_addRule 37 = .ok (.iconst 1, 1) := by decide +kernel
theorem dX7_addRule_38 : decode cX7_addRule 38 = .ok (.invokevirtual 92, 3) := by decide +kernel
theorem dX7_addRule_41 : decode cX7_addRule 41 = .ok (.ireturn, 1) := by decide +kernel
theorem dX7_addRule_42 : decode cX7_addRule 42 = .ok (.aload_n 0, 1) := by decide +kernel
theorem dX7_addRule_43 : decode cX7_addRule 43 = .ok (.getfield 109, 3) := by decide +kernel
theorem dX7_addRule_46 : decode cX7_addRule 46 = .ok (.bipush 8, 2) := by decide +kernel
theorem dX7_addRule_48 : decode cX7_addRule 48 = .ok (.if_icmp .ne 9, 3) := by decide +kernel
theorem dX7_addRule_51 : decode cX7_addRule 51 = .ok (.aload_n 0, 1) := by decide +kernel
theorem dX7_addRule_52 : decode cX7_addRule 52 = .ok (.iconst 2, 1) := by decide +kernel
theorem dX7_addRule_53 : decode cX7_addRule 53 = .ok (.invokevirtual 92, 3) := by decide +kernel
theorem dX7_addRule_56 : decode cX7_addRule 56 = .ok (.ireturn, 1) := by decide +kernel
theorem dX7_addRule_57 : decode cX7_addRule 57 = .ok (.aload_n 0, 1) := by decide +kernel
theorem dX7_addRule_58 : decode cX7_addRule 58 = .ok (.iconst 0, 1) := by decide +kernel
theorem dX7_addRule_59 : decode cX7_addRule 59 = .ok (.putfield 79, 3) := by decide +kernel
theorem dX7_addRule_62 : decode cX7_addRule 62 = .ok (.aload_n 0, 1) := by decide +kernel
theorem dX7_addRule_63 : decode cX7_addRule 63 = .ok (.getfield 20, 3) := by decide +kernel
theorem dX7_addRule_66 : decode cX7_addRule 66 = .ok (.aload_n 0, 1) := by decide +kernel
theorem dX7_addRule_67 : decode cX7_addRule 67 = .ok (.getfield 109, 3) := by decide +kernel
theorem dX7_addRule_70 : decode cX7_addRule 70 = .ok (.iload_n 1, 1) := by decide +kernel
theorem dX7_addRule_71 : decode cX7_addRule 71 = .ok (.iastore, 1) := by decide +kernel
theorem dX7_addRule_72 : decode cX7_addRule 72 = .ok (.aload_n 0, 1) := by decide +kernel
theorem dX7_addRule_73 : decode cX7_addRule 73 = .ok (.getfield 23, 3) := by decide +kernel
theorem dX7_addRule_76 : decode cX7_addRule 76 = .ok (.aload_n 0, 1) := by decide +kernel
theorem dX7_addRule_77 : decode cX7_addRule 77 = .ok (.getfield 109, 3) := by decide +kernel
theorem dX7_addRule_80 : decode cX7_addRule 80 = .ok (.iload_n 2, 1) := by decide +kernel
theorem dX7_addRule_81 : decode cX7_addRule 81 = .ok (.iastore, 1) := by decide +kernel
theorem dX7_addRule_82 : decode cX7_addRule 82 = .ok (.aload_n 0, 1) := by decide +kernel
theorem dX7_addRule_83 : decode cX7_addRule 83 = .ok (.getfield 26, 3) := by decide +kernel
theorem dX7_addRule_86 : decode cX7_addRule 86 = .ok (.aload_n 0, 1) := by decide +kernel
theorem dX7_addRule_87 : decode cX7_addRule 87 = .ok (.getfield 109, 3) := by decide +kernel
theorem dX7_addRule_90 : decode cX7_addRule 90 = .ok (.iload_n 3, 1) := by decide +kernel
theorem dX7_addRule_91 : decode cX7_addRule 91 = .ok (.iastore, 1) := by decide +kernel
theorem dX7_addRule_92 : decode cX7_addRule 92 = .ok (.aload_n 0, 1) := by decide +kernel
theorem dX7_addRule_93 : decode cX7_addRule 93 = .ok (.dup, 1) := by decide +kernel
theorem dX7_addRule_94 : decode cX7_addRule 94 = .ok (.getfield 109, 3) := by decide +kernel
theorem dX7_addRule_97 : decode cX7_addRule 97 = .ok (.dup_x1, 1) := by decide +kernel
theorem dX7_addRule_98 : decode cX7_addRule 98 = .ok (.iconst 1, 1) := by decide +kernel
theorem dX7_addRule_99 : decode cX7_addRule 99 = .ok (.iadd, 1) := by decide +kernel
theorem dX7_addRule_100 : decode cX7_addRule 100 = .ok (.putfield 109, 3) := by decide +kernel
theorem dX7_addRule_103 : decode cX7_addRule 103 = .ok (.ireturn, 1) := by decide +kernel
theorem dX7_addSpan_0 : decode cX7_addSpan 0 = .ok (.aload_n 0, 1) := by decide +kernel
theorem dX7_addSpan_1 : decode cX7_addSpan 1 = .ok (.iload_n 1, 1) := by decide +kernel
theorem dX7_addSpan_2 : decode cX7_addSpan 2 = .ok (.invokevirtual 96, 3) := by decide +kernel
theorem dX7_addSpan_5 : decode cX7_addSpan 5 = .ok (.ifCond .eq 5, 3) := by decide +kernel
theorem dX7_addSpan_8 : decode cX7_addSpan 8 = .ok (.iconst 0, 1) := by decide +kernel
theorem dX7_addSpan_9 : decode cX7_addSpan 9 = .ok (.ireturn, 1) := by decide +kernel
theorem dX7_addSpan_10 : decode cX7_addSpan 10 = .ok (.iload_n 2, 1) := by decide +kernel
theorem dX7_addSpan_11 : decode cX7_addSpan 11 = .ok (.iconst 0, 1) := by decide +kernel
theorem dX7_addSpan_12 : decode cX7_addSpan 12 = .ok (.bipush 39, 2) := by decide +kernel
theorem dX7_addSpan_14 : decode cX7_addSpan 14 = .ok (.invokestatic 85, 3) := by decide +kernel
theorem dX7_addSpan_17 : decode cX7_addSpan 17 = .ok (.ifCond .eq 28, 3) := by decide +kernel
theorem dX7_addSpan_20 : decode cX7_addSpan 20 = .ok (.iload_n 3, 1) := by decide +kernel
theorem dX7_addSpan_21 : decode cX7_addSpan 21 = .ok (.iload_n 2, 1) := by decide +kernel
theorem dX7_addSpan_22 : decode cX7_addSpan 22 = .ok (.bipush 39, 2) := by decide +kernel
theorem dX7_addSpan_24 : decode cX7_addSpan 24 = .ok (.invokestatic 85, 3) := by decide +kernel
theorem dX7_addSpan_27 : decode cX7_addSpan 27 = .ok (.ifCond .eq 18, 3) := by decide +kernel
theorem dX7_addSpan_30 : decode cX7_addSpan 30 = .ok (.iload 4, 2) := by decide +kernel
theorem dX7_addSpan_32 : decode cX7_addSpan 32 = .ok (.aload_n 0, 1) := by decide +kernel
theorem dX7_addSpan_33 : decode cX7_addSpan 33 = .ok (.getfield 106, 3) := by decide +kernel
theorem dX7_addSpan_36 : decode cX7_addSpan 36 = .ok (.sipush 9999, 3) := by decide +kernel
theorem dX7_addSpan_39 : decode cX7_addSpan 39 = .ok (.invokestatic 85, 3) := by decide +kernel
theorem dX7_addSpan_42 : decode cX7_addSpan 42 = .ok (.ifCond .ne 9, 3) := by decide +kernel
theorem dX7_addSpan_45 : decode cX7_addSpan 45 = .ok (.aload_n 0, 1) := by decide +kernel
theorem dX7_addSpan_46 : decode cX7_addSpan 46 = .ok (.iconst 2, 1) := by decide +kernel
theorem dX7_addSpan_47 : decode cX7_addSpan 47 = .ok (.invokevirtual 92, 3) := by decide +kernel
theorem dX7_addSpan_50 : decode cX7_addSpan 50 = .ok (.ireturn, 1) := by decide +kernel
theorem dX7_addSpan_51 : decode cX7_addSpan 51 = .ok (.aload_n 0, 1) := by decide +kernel
theorem dX7_addSpan_52 : decode cX7_addSpan 52 = .ok (.getfield 112, 3) := by decide +kernel
theorem dX7_addSpan_55 : decode cX7_addSpan 55 = .ok (.bipush 12, 2) := by decide +kernel
theorem dX7_addSpan_57 : decode cX7_addSpan 57 = .ok (.if_icmp .ne 9, 3) := by decide +kernel
theorem dX7_addSpan_60 : decode cX7_addSpan 60 = .ok (.aload_n 0, 1) := by decide +kernel
theorem dX7_addSpan_61 : decode cX7_addSpan 61 = .ok (.iconst 3, 1) := by decide +kernel
theorem dX7_addSpan_62 : decode cX7_addSpan 62 = .ok (.invokevirtual 92, 3) := by decide +kernel
theorem dX7_addSpan_65 : decode cX7_addSpan 65 = .ok (.ireturn, 1) := by decide +kernel
theorem dX7_addSpan_66 : decode cX7_addSpan 66 = .ok (.aload_n 0, 1) := by decide +kernel
theorem dX7_addSpan_67 : decode cX7_addSpan 67 = .ok (.getfield 29, 3) := by decide +kernel
theorem dX7_addSpan_70 : decode cX7_addSpan 70 = .ok (.aload_n 0, 1) := by decide +kernel
theorem dX7_addSpan_71 : decode cX7_addSpan 71 = .ok (.getfield 112, 3) := by decide +kernel
theorem dX7_addSpan_74 : decode cX7_addSpan 74 = .ok (.iload_n 1, 1) := by decide +kernel
theorem dX7_addSpan_75 : decode cX7_addSpan 75 = .ok (.iastore, 1) := by decide +kernel
theorem dX7_addSpan_76 : decode cX7_addSpan 76 = .ok (.aload_n 0, 1) := by decide +kernel
theorem dX7_addSpan_77 : decode cX7_addSpan 77 = .ok (.getfield 32, 3) := by decide +kernel
theorem dX7_addSpan_80 : decode cX7_addSpan 80 = .ok (.aload_n 0, 1) := by decide +kernel
theorem dX7_addSpan_81 : decode cX7_addSpan 81 = .ok (.getfield 112, 3) := by decide +kernel
theorem dX7_addSpan_84 : decode cX7_addSpan 84 = .ok (.iload_n 2, 1) := by decide +kernel
theorem dX7_addSpan_85 : decode cX7_addSpan 85 = .ok (.iastore, 1) := by decide +kernel
theorem dX7_addSpan_86 : decode cX7_addSpan 86 = .ok (.aload_n 0, 1) := by decide +kernel
theorem dX7_addSpan_87 : decode cX7_addSpan 87 = .ok (.getfield 35, 3) := by decide +kernel
theorem dX7_addSpan_90 : decode cX7_addSpan 90 = .ok (.aload_n 0, 1) := by decide +kernel
theorem dX7_addSpan_91 : decode cX7_addSpan 91 = .ok (.getfield 112, 3) := by decide +kernel
theorem dX7_addSpan_94 : decode cX7_addSpan 94 = .ok (.iload_n 3, 1) := by decide +kernel
theorem dX7_addSpan_95 : decode cX7_addSpan 95 = .ok (.iastore, 1) := by decide +kernel
theorem dX7_addSpan_96 : decode cX7_addSpan 96 = .ok (.aload_n 0, 1) := by decide +kernel
theorem dX7_addSpan_97 : decode cX7_addSpan 97 = .ok (.getfield 38, 3) := by decide +kernel
theorem dX7_addSpan_100 : decode cX7_addSpan 100 = .ok (.aload_n 0, 1) := by decide +kernel
theorem dX7_addSpan_101 : decode cX7_addSpan 101 = .ok (.getfield 112, 3) := by decide +kernel
theorem dX7_addSpan_104 : decode cX7_addSpan 104 = .ok (.iload 4, 2) := by decide +kernel
theorem dX7_addSpan_106 : decode cX7_addSpan 106 = .ok (.iastore, 1) := by decide +kernel
theorem dX7_addSpan_107 : decode cX7_addSpan 107 = .ok (.aload_n 0, 1) := by decide +kernel
theorem dX7_addSpan_108 : decode cX7_addSpan 108 = .ok (.dup, 1) := by decide +kernel
theorem dX7_addSpan_109 : decode cX7_addSpan 109 = .ok (.getfield 112, 3) := by decide +kernel
theorem dX7_addSpan_112 : decode cX7_addSpan 112 = .ok (.dup_x1, 1) := by decide +kernel
theorem dX7_addSpan_113 : decode cX7_addSpan 113 = .ok (.iconst 1, 1) := by decide +kernel
theorem dX7_addSpan_114 : decode cX7_addSpan 114 = .ok (.iadd, 1) := by decide +kernel
theorem dX7_addSpan_115 : decode cX7_addSpan 115 = .ok (.putfield 112, 3) := by decide +kernel
theorem dX7_addSpan_118 : decode cX7_addSpan 118 = .ok (.ireturn, 1) := by decide +kernel
theorem dX7_byRule_0 : decode cX7_byRule 0 = .ok (.iconst 0, 1) := by decide +kernel
theorem dX7_byRule_1 : decode cX7_byRule 1 = .ok (.istore_n 2, 1) := by decide +kernel
theorem dX7_byRule_2 : decode cX7_byRule 2 = .ok (.iload_n 2, 1) := by decide +kernel
theorem dX7_byRule_3 : decode cX7_byRule 3 = .ok (.aload_n 0, 1) := by decide +kernel
theorem dX7_byRule_4 : decode cX7_byRule 4 = .ok (.getfield 109, 3) := by decide +kernel
theorem dX7_byRule_7 : decode cX7_byRule 7 = .ok (.if_icmp .ge 48, 3) := by decide +kernel
theorem dX7_byRule_10 : decode cX7_byRule 10 = .ok (.aload_n 0, 1) := by decide +kernel
theorem dX7_byRule_11 : decode cX7_byRule 11 = .ok (.getfield 106, 3) := by decide +kernel
theorem dX7_byRule_14 : decode cX7_byRule 14 = .ok (.aload_n 0, 1) := by decide +kernel
theorem dX7_byRule_15 : decode cX7_byRule 15 = .ok (.getfield 26, 3) := by decide +kernel
theorem dX7_byRule_18 : decode cX7_byRule 18 = .ok (.iload_n 2, 1) := by decide +kernel
theorem dX7_byRule_19 : decode cX7_byRule 19 = .ok (.iaload, 1) := by decide +kernel
theorem dX7_byRule_20 : decode cX7_byRule 20 = .ok (.if_icmp .gt 29, 3) := by decide +kernel
theorem dX7_byRule_23 : decode cX7_byRule 23 = .ok (.aload_n 0, 1) := by decide +kernel
theorem dX7_byRule_24 : decode cX7_byRule 24 = .ok (.getfield 17, 3) := by decide +kernel
theorem dX7_byRule_27 : decode cX7_byRule 27 = .ok (.iload_n 1, 1) := by decide +kernel
theorem dX7_byRule_28 : decode cX7_byRule 28 = .ok (.iaload, 1) := by decide +kernel
theorem dX7_byRule_29 : decode cX7_byRule 29 = .ok (.aload_n 0, 1) := by decide +kernel
theorem dX7_byRule_30 : decode cX7_byRule 30 = .ok (.getfield 20, 3) := by decide +kernel
theorem dX7_byRule_33 : decode cX7_byRule 33 = .ok (.iload_n 2, 1) := by decide +kernel
theorem dX7_byRule_34 : decode cX7_byRule 34 = .ok (.iaload, 1) := by decide +kernel
theorem dX7_byRule_35 : decode cX7_byRule 35 = .ok (.aload_n 0, 1) := by decide +kernel
theorem dX7_byRule_36 : decode cX7_byRule 36 = .ok (.getfield 23, 3) := by decide +kernel
theorem dX7_byRule_39 : decode cX7_byRule 39 = .ok (.iload_n 2, 1) := by decide +kernel
theorem dX7_byRule_40 : decode cX7_byRule 40 = .ok (.iaload, 1) := by decide +kernel
theorem dX7_byRule_41 : decode cX7_byRule 41 = .ok (.invokestatic 85, 3) := by decide +kernel
theorem dX7_byRule_44 : decode cX7_byRule 44 = .ok (.ifCond .eq 5, 3) := by decide +kernel
theorem dX7_byRule_47 : decode cX7_byRule 47 = .ok (.iconst 1, 1) := by decide +kernel
theorem dX7_byRule_48 : decode cX7_byRule 48 = .ok (.ireturn, 1) := by decide +kernel
theorem dX7_byRule_49 : decode cX7_byRule 49 = .ok (.iinc 2 1, 3) := by decide +kernel
theorem dX7_byRule_52 : decode cX7_byRule 52 = .ok (.goto (-50), 3) := by decide +kernel
theorem dX7_byRule_55 : decode cX7_byRule 55 = .ok (.iconst 0, 1) := by decide +kernel
theorem dX7_byRule_56 : decode cX7_byRule 56 = .ok (.ireturn, 1) := by decide +kernel
theorem dX7_bySpan_0 : decode cX7_bySpan 0 = .ok (.iconst 0, 1) := by decide +kernel
theorem dX7_bySpan_1 : decode cX7_bySpan 1 = .ok (.istore_n 2, 1) := by decide +kernel
theorem dX7_bySpan_2 : decode cX7_bySpan 2 = .ok (.iload_n 2, 1) := by decide +kernel
theorem dX7_bySpan_3 : decode cX7_bySpan 3 = .ok (.aload_n 0, 1) := by decide +kernel
theorem dX7_bySpan_4 : decode cX7_bySpan 4 = .ok (.getfield 112, 3) := by decide +kernel
theorem dX7_bySpan_7 : decode cX7_bySpan 7 = .ok (.if_icmp .ge 71, 3) := by decide +kernel
theorem dX7_bySpan_10 : decode cX7_bySpan 10 = .ok (.aload_n 0, 1) := by decide +kernel
theorem dX7_bySpan_11 : decode cX7_bySpan 11 = .ok (.getfield 106, 3) := by decide +kernel
theorem dX7_bySpan_14 : decode cX7_bySpan 14 = .ok (.aload_n 0, 1) := by decide +kernel
theorem dX7_bySpan_15 : decode cX7_bySpan 15 = .ok (.getfield 38, 3) := by decide +kernel
theorem dX7_bySpan_18 : decode cX7_bySpan 18 = .ok (.iload_n 2, 1) := by decide +kernel
theorem dX7_bySpan_19 : decode cX7_bySpan 19 = .ok (.iaload, 1) := by decide +kernel
theorem dX7_bySpan_20 : decode cX7_bySpan 20 = .ok (.if_icmp .gt 52, 3) := by decide +kernel
theorem dX7_bySpan_23 : decode cX7_bySpan 23 = .ok (.aload_n 0, 1) := by decide +kernel
theorem dX7_bySpan_24 : decode cX7_bySpan 24 = .ok (.getfield 65, 3) := by decide +kernel
theorem dX7_bySpan_27 : decode cX7_bySpan 27 = .ok (.iload_n 2, 1) := by decide +kernel
theorem dX7_bySpan_28 : decode cX7_bySpan 28 = .ok (.baload, 1) := by decide +kernel
theorem dX7_bySpan_29 : decode cX7_bySpan 29 = .ok (.ifCond .ne 43, 3) := by decide +kernel
theorem dX7_bySpan_32 : decode cX7_bySpan 32 = .ok (.aload_n 0, 1) := by decide +kernel
theorem dX7_bySpan_33 : decode cX7_bySpan 33 = .ok (.getfield 29, 3) := by decide +kernel
theorem dX7_bySpan_36 : decode cX7_bySpan 36 = .ok (.iload_n 2, 1) := by decide +kernel
theorem dX7_bySpan_37 : decode cX7_bySpan 37 = .ok (.iaload, 1) := by decide +kernel
theorem dX7_bySpan_38 : decode cX7_bySpan 38 = .ok (.aload_n 0, 1) := by decide +kernel
theorem dX7_bySpan_39 : decode cX7_bySpan 39 = .ok (.getfield 13, 3) := by decide +kernel
theorem dX7_bySpan_42 : decode cX7_bySpan 42 = .ok (.iload_n 1, 1) := by decide +kernel
theorem dX7_bySpan_43 : decode cX7_bySpan 43 = .ok (.iaload, 1) := by decide +kernel
theorem dX7_bySpan_44 : decode cX7_bySpan 44 = .ok (.if_icmp .ne 28, 3) := by decide +kernel
theorem dX7_bySpan_47 : decode cX7_bySpan 47 = .ok (.aload_n 0, 1) := by decide +kernel
theorem dX7_bySpan_48 : decode cX7_bySpan 48 = .ok (.iload_n 1, 1) := by decide +kernel
theorem dX7_bySpan_49 : decode cX7_bySpan 49 = .ok (.invokevirtual 103, 3) := by decide +kernel
theorem dX7_bySpan_52 : decode cX7_bySpan 52 = .ok (.aload_n 0, 1) := by decide +kernel
theorem dX7_bySpan_53 : decode cX7_bySpan 53 = .ok (.getfield 32, 3) := by decide +kernel
theorem dX7_bySpan_56 : decode cX7_bySpan 56 = .ok (.iload_n 2, 1) := by decide +kernel
theorem dX7_bySpan_57 : decode cX7_bySpan 57 = .ok (.iaload, 1) := by decide +kernel
theorem dX7_bySpan_58 : decode cX7_bySpan 58 = .ok (.aload_n 0, 1) := by decide +kernel
theorem dX7_bySpan_59 : decode cX7_bySpan 59 = .ok (.getfield 35, 3) := by decide +kernel
theorem dX7_bySpan_62 : decode cX7_bySpan 62 = .ok (.iload_n 2, 1) := by decide +kernel
theorem dX7_bySpan_63 : decode cX7_bySpan 63 = .ok (.iaload, 1) := by decide +kernel
theorem dX7_bySpan_64 : decode cX7_bySpan 64 = .ok (.invokestatic 85, 3) := by decide +kernel
theorem dX7_bySpan_67 : decode cX7_bySpan 67 = .ok (.ifCond .eq 5, 3) := by decide +kernel
theorem dX7_bySpan_70 : decode cX7_bySpan 70 = .ok (.iconst 1, 1) := by decide +kernel
theorem dX7_bySpan_71 : decode cX7_bySpan 71 = .ok (.ireturn, 1) := by decide +kernel
theorem dX7_bySpan_72 : decode cX7_bySpan 72 = .ok (.iinc 2 1, 3) := by decide +kernel
theorem dX7_bySpan_75 : decode cX7_bySpan 75 = .ok (.goto (-73), 3) := by decide +kernel
theorem dX7_bySpan_78 : decode cX7_bySpan 78 = .ok (.iconst 0, 1) := by decide +kernel
theorem dX7_bySpan_79 : decode cX7_bySpan 79 = .ok (.ireturn, 1) := by decide +kernel
theorem dX7_hides_0 : decode cX7_hides 0 = .ok (.aload_n 0, 1) := by decide +kernel
theorem dX7_hides_1 : decode cX7_hides 1 = .ok (.iload_n 1, 1) := by decide +kernel
theorem dX7_hides_2 : decode cX7_hides 2 = .ok (.invokevirtual 115, 3) := by decide +kernel
theorem dX7_hides_5 : decode cX7_hides 5 = .ok (.ifCond .ne 11, 3) := by decide +kernel
theorem dX7_hides_8 : decode cX7_hides 8 = .ok (.aload_n 0, 1) := by decide +kernel
theorem dX7_hides_9 : decode cX7_hides 9 = .ok (.iload_n 1, 1) := by decide +kernel
theorem dX7_hides_10 : decode cX7_hides 10 = .ok (.invokevirtual 118, 3) := by decide +kernel
theorem dX7_hides_13 : decode cX7_hides 13 = .ok (.ifCond .eq 7, 3) := by decide +kernel
theorem dX7_hides_16 : decode cX7_hides 16 = .ok (.iconst 1, 1) := by decide +kernel
theorem dX7_hides_17 : decode cX7_hides 17 = .ok (.goto 4, 3) := by decide +kernel
theorem dX7_hides_20 : decode cX7_hides 20 = .ok (.iconst 0, 1) := by decide +kernel
theorem dX7_hides_21 : decode cX7_hides 21 = .ok (.ireturn, 1) := by decide +kernel
theorem dX7_hiddenLines_0 : decode cX7_hiddenLines 0 = .ok (.iconst 0, 1) := by decide +kernel
theorem dX7_hiddenLines_1 : decode cX7_hiddenLines 1 = .ok (.istore_n 1, 1) := by decide +kernel
theorem dX7_hiddenLines_2 : decode cX7_hiddenLines 2 = .ok (.iconst 0, 1) := by decide +kernel
theorem dX7_hiddenLines_3 : decode cX7_hiddenLines 3 = .ok (.istore_n 2, 1) := by decide +kernel
theorem dX7_hiddenLines_4 : decode cX7_hiddenLines 4 = .ok (.iload_n 2, 1) := by decide +kernel
theorem dX7_hiddenLines_5 : decode cX7_hiddenLines 5 = .ok (.aload_n 0, 1) := by decide +kernel
theorem dX7_hiddenLines_6 : decode cX7_hiddenLines 6 = .ok (.getfield 89, 3) := by decide +kernel
theorem dX7_hiddenLines_9 : decode cX7_hiddenLines 9 = .ok (.if_icmp .ge 25, 3) := by decide +kernel
theorem dX7_hiddenLines_12 : decode cX7_hiddenLines 12 = .ok (.iload_n 1, 1) := by decide +kernel
theorem dX7_hiddenLines_13 : decode cX7_hiddenLines 13 = .ok (.aload_n 0, 1) := by decide +kernel
theorem dX7_hiddenLines_14 : decode cX7_hiddenLines 14 = .ok (.iload_n 2, 1) := by decide +kernel
theorem dX7_hiddenLines_15 : decode cX7_hiddenLines 15 = .ok (.invokevirtual 121, 3) := by decide +kernel
theorem dX7_hiddenLines_18 : decode cX7_hiddenLines 18 = .ok (.ifCond .eq 7, 3) := by decide +kernel
theorem dX7_hiddenLines_21 : decode cX7_hiddenLines 21 = .ok (.iconst 1, 1) := by decide +kernel
theorem dX7_hiddenLines_22 : decode cX7_hiddenLines 22 = .ok (.goto 4, 3) := by decide +kernel
theorem dX7_hiddenLines_25 : decode cX7_hiddenLines 25 = .ok (.iconst 0, 1) := by decide +kernel
theorem dX7_hiddenLines_26 : decode cX7_hiddenLines 26 = .ok (.iadd, 1) := by decide +kernel
theorem dX7_hiddenLines_27 : decode cX7_hiddenLines 27 = .ok (.istore_n 1, 1) := by decide +kernel
theorem dX7_hiddenLines_28 : decode cX7_hiddenLines 28 = .ok (.iinc 2 1, 3) := by decide +kernel
theorem dX7_hiddenLines_31 : decode cX7_hiddenLines 31 = .ok (.goto (-27), 3) := by decide +kernel
theorem dX7_hiddenLines_34 : decode cX7_hiddenLines 34 = .ok (.iload_n 1, 1) := by decide +kernel
theorem dX7_hiddenLines_35 : decode cX7_hiddenLines 35 = .ok (.ireturn, 1) := by decide +kernel
theorem dX7_lift_0 : decode cX7_lift 0 = .ok (.iload_n 1, 1) := by decide +kernel
theorem dX7_lift_1 : decode cX7_lift 1 = .ok (.iconst 0, 1) := by decide +kernel
theorem dX7_lift_2 : decode cX7_lift 2 = .ok (.aload_n 0, 1) := by decide +kernel
theorem dX7_lift_3 : decode cX7_lift 3 = .ok (.getfield 112, 3) := by decide +kernel
theorem dX7_lift_6 : decode cX7_lift 6 = .ok (.iconst 1, 1) := by decide +kernel
theorem dX7_lift_7 : decode cX7_lift 7 = .ok (.isub, 1) := by decide +kernel
theorem dX7_lift_8 : decode cX7_lift 8 = .ok (.invokestatic 85, 3) := by decide +kernel
theorem dX7_lift_11 : decode cX7_lift 11 = .ok (.ifCond .ne 9, 3) := by decide +kernel
theorem dX7_lift_14 : decode cX7_lift 14 = .ok (.aload_n 0, 1) := by decide +kernel
theorem dX7_lift_15 : decode cX7_lift 15 = .ok (.iconst 1, 1) := by decide +kernel
theorem dX7_lift_16 : decode cX7_lift 16 = .ok (.invokevirtual 92, 3) := by decide +kernel
theorem dX7_lift_19 : decode cX7_lift 19 = .ok (.ireturn, 1) := by decide +kernel
theorem dX7_lift_20 : decode cX7_lift 20 = .ok (.aload_n 0, 1) := by decide +kernel
theorem dX7_lift_21 : decode cX7_lift 21 = .ok (.getfield 65, 3) := by decide +kernel
theorem dX7_lift_24 : decode cX7_lift 24 = .ok (.iload_n 1, 1) := by decide +kernel
theorem dX7_lift_25 : decode cX7_lift 25 = .ok (.baload, 1) := by decide +kernel
theorem dX7_lift_26 : decode cX7_lift 26 = .ok (.ifCond .ne 16, 3) := by decide +kernel
theorem dX7_lift_29 : decode cX7_lift 29 = .ok (.aload_n 0, 1) := by decide +kernel
theorem dX7_lift_30 : decode cX7_lift 30 = .ok (.getfield 106, 3) := by decide +kernel
theorem dX7_lift_33 : decode cX7_lift 33 = .ok (.aload_n 0, 1) := by decide +kernel
theorem dX7_lift_34 : decode cX7_lift 34 = .ok (.getfield 38, 3) := by decide +kernel
theorem dX7_lift_37 : decode cX7_lift 37 = .ok (.iload_n 1, 1) := by decide +kernel
theorem dX7_lift_38 : decode cX7_lift 38 = .ok (.iaload, 1) := by decide +kernel
theorem dX7_lift_39 : decode cX7_lift 39 = .ok (.if_icmp .le 9, 3) := by decide +kernel
theorem dX7_lift_42 : decode cX7_lift 42 = .ok (.aload_n 0, 1) := by decide +kernel
theorem dX7_lift_43 : decode cX7_lift 43 = .ok (.iconst 2, 1) := by decide +kernel
theorem dX7_lift_44 : decode cX7_lift 44 = .ok (.invokevirtual 92, 3) := by decide +kernel
theorem dX7_lift_47 : decode cX7_lift 47 = .ok (.ireturn, 1) := by decide +kernel
theorem dX7_lift_48 : decode cX7_lift 48 = .ok (.aload_n 0, 1) := by decide +kernel
theorem dX7_lift_49 : decode cX7_lift 49 = .ok (.iconst 0, 1) := by decide +kernel
theorem dX7_lift_50 : decode cX7_lift 50 = .ok (.putfield 79, 3) := by decide +kernel
theorem dX7_lift_53 : decode cX7_lift 53 = .ok (.aload_n 0, 1) := by decide +kernel
theorem dX7_lift_54 : decode cX7_lift 54 = .ok (.invokevirtual 124, 3) := by decide +kernel
theorem dX7_lift_57 : decode cX7_lift 57 = .ok (.istore_n 2, 1) := by decide +kernel
theorem dX7_lift_58 : decode cX7_lift 58 = .ok (.aload_n 0, 1) := by decide +kernel
theorem dX7_lift_59 : decode cX7_lift 59 = .ok (.getfield 65, 3) := by decide +kernel
theorem dX7_lift_62 : decode cX7_lift 62 = .ok (.iload_n 1, 1) := by decide +kernel
theorem dX7_lift_63 : decode cX7_lift 63 = .ok (.iconst 1, 1) := by decide +kernel
theorem dX7_lift_64 : decode cX7_lift 64 = .ok (.bastore, 1) := by decide +kernel
theorem dX7_lift_65 : decode cX7_lift 65 = .ok (.iload_n 2, 1) := by decide +kernel
theorem dX7_lift_66 : decode cX7_lift 66 = .ok (.aload_n 0, 1) := by decide +kernel
theorem dX7_lift_67 : decode cX7_lift 67 = .ok (.invokevirtual 124, 3) := by decide +kernel
theorem dX7_lift_70 : decode cX7_lift 70 = .ok (.isub, 1) := by decide +kernel
theorem dX7_lift_71 : decode cX7_lift 71 = .ok (.ireturn, 1) := by decide +kernel
theorem dX7_isHidden_0 : decode cX7_isHidden 0 = .ok (.aload_n 0, 1) := by decide +kernel
theorem dX7_isHidden_1 : decode cX7_isHidden 1 = .ok (.iload_n 1, 1) := by decide +kernel
theorem dX7_isHidden_2 : decode cX7_isHidden 2 = .ok (.invokevirtual 100, 3) := by decide +kernel
theorem dX7_isHidden_5 : decode cX7_isHidden 5 = .ok (.ifCond .ne 15, 3) := by decide +kernel
theorem dX7_isHidden_8 : decode cX7_isHidden 8 = .ok (.aload_n 0, 1) := by decide +kernel
theorem dX7_isHidden_9 : decode cX7_isHidden 9 = .ok (.iload_n 1, 1) := by decide +kernel
theorem dX7_isHidden_10 : decode cX7_isHidden 10 = .ok (.invokevirtual 121, 3) := by decide +kernel
theorem dX7_isHidden_13 : decode cX7_isHidden 13 = .ok (.ifCond .eq 7, 3) := by decide +kernel
theorem dX7_isHidden_16 : decode cX7_isHidden 16 = .ok (.iconst 1, 1) := by decide +kernel
theorem dX7_isHidden_17 : decode cX7_isHidden 17 = .ok (.goto 4, 3) := by decide +kernel
theorem dX7_isHidden_20 : decode cX7_isHidden 20 = .ok (.iconst 0, 1) := by decide +kernel
theorem dX7_isHidden_21 : decode cX7_isHidden 21 = .ok (.ireturn, 1) := by decide +kernel
theorem dX7_hidden_0 : decode cX7_hidden 0 = .ok (.aload_n 0, 1) := by decide +kernel
theorem dX7_hidden_1 : decode cX7_hidden 1 = .ok (.invokevirtual 124, 3) := by decide +kernel
theorem dX7_hidden_4 : decode cX7_hidden 4 = .ok (.ireturn, 1) := by decide +kernel
theorem dX7_grows_0 : decode cX7_grows 0 = .ok (.iconst 1, 1) := by decide +kernel
theorem dX7_grows_1 : decode cX7_grows 1 = .ok (.istore_n 2, 1) := by decide +kernel
theorem dX7_grows_2 : decode cX7_grows 2 = .ok (.iload_n 2, 1) := by decide +kernel
theorem dX7_grows_3 : decode cX7_grows 3 = .ok (.ifCond .eq 103, 3) := by decide +kernel
theorem dX7_grows_6 : decode cX7_grows 6 = .ok (.iconst 0, 1) := by decide +kernel
theorem dX7_grows_7 : decode cX7_grows 7 = .ok (.istore_n 2, 1) := by decide +kernel
theorem dX7_grows_8 : decode cX7_grows 8 = .ok (.iconst 0, 1) := by decide +kernel
theorem dX7_grows_9 : decode cX7_grows 9 = .ok (.istore_n 3, 1) := by decide +kernel
theorem dX7_grows_10 : decode cX7_grows 10 = .ok (.iload_n 3, 1) := by decide +kernel
theorem dX7_grows_11 : decode cX7_grows 11 = .ok (.aload_n 0, 1) := by decide +kernel
theorem dX7_grows_12 : decode cX7_grows 12 = .ok (.getfield 128, 3) := by decide +kernel
theorem dX7_grows_15 : decode cX7_grows 15 = .ok (.if_icmp .ge 88, 3) := by decide +kernel
theorem dX7_grows_18 : decode cX7_grows 18 = .ok (.aload_n 0, 1) := by decide +kernel
theorem dX7_grows_19 : decode cX7_grows 19 = .ok (.getfield 69, 3) := by decide +kernel
theorem dX7_grows_22 : decode cX7_grows 22 = .ok (.bipush 40, 2) := by decide +kernel
theorem dX7_grows_24 : decode cX7_grows 24 = .ok (.iload_n 1, 1) := by decide +kernel
theorem dX7_grows_25 : decode cX7_grows 25 = .ok (.imul, 1) := by decide +kernel
theorem dX7_grows_26 : decode cX7_grows 26 = .ok (.aload_n 0, 1) := by decide +kernel
theorem dX7_grows_27 : decode cX7_grows 27 = .ok (.getfield 41, 3) := by decide +kernel
theorem dX7_grows_30 : decode cX7_grows 30 = .ok (.iload_n 3, 1) := by decide +kernel
theorem dX7_grows_31 : decode cX7_grows 31 = .ok (.iaload, 1) := by decide +kernel
theorem dX7_grows_32 : decode cX7_grows 32 = .ok (.iadd, 1) := by decide +kernel
theorem dX7_grows_33 : decode cX7_grows 33 = .ok (.baload, 1) := by decide +kernel
theorem dX7_grows_34 : decode cX7_grows 34 = .ok (.ifCond .eq 63, 3) := by decide +kernel
theorem dX7_grows_37 : decode cX7_grows 37 = .ok (.aload_n 0, 1) := by decide +kernel
theorem dX7_grows_38 : decode cX7_grows 38 = .ok (.getfield 69, 3) := by decide +kernel
theorem dX7_grows_41 : decode cX7_grows 41 = .ok (.bipush 40, 2) := by decide +kernel
theorem dX7_grows_43 : decode cX7_grows 43 = .ok (.iload_n 1, 1) := by decide +kernel
theorem dX7_grows_44 : decode cX7_grows 44 = .ok (.imul, 1) := by decide +kernel
theorem dX7_grows_45 : decode cX7_grows 45 = .ok (.aload_n 0, 1) := by decide +kernel
theorem dX7_grows_46 : decode cX7_grows 46 = .ok (.getfield 44, 3) := by decide +kernel
theorem dX7_grows_49 : decode cX7_grows 49 = .ok (.iload_n 3, 1) := by decide +kernel
theorem dX7_grows_50 : decode cX7_grows 50 = .ok (.iaload, 1) := by decide +kernel
theorem dX7_grows_51 : decode cX7_grows 51 = .ok (.iadd, 1) := by decide +kernel
theorem dX7_grows_52 : decode cX7_grows 52 = .ok (.baload, 1) := by decide +kernel
theorem dX7_grows_53 : decode cX7_grows 53 = .ok (.ifCond .eq 44, 3) := by decide +kernel
theorem dX7_grows_56 : decode cX7_grows 56 = .ok (.aload_n 0, 1) := by decide +kernel
theorem dX7_grows_57 : decode cX7_grows 57 = .ok (.getfield 69, 3) := by decide +kernel
theorem dX7_grows_60 : decode cX7_grows 60 = .ok (.bipush 40, 2) := by decide +kernel
theorem dX7_grows_62 : decode cX7_grows 62 = .ok (.iload_n 1, 1) := by decide +kernel
theorem dX7_grows_63 : decode cX7_grows 63 = .ok (.imul, 1) := by decide +kernel
theorem dX7_grows_64 : decode cX7_grows 64 = .ok (.aload_n 0, 1) := by decide +kernel
theorem dX7_grows_65 : decode cX7_grows 65 = .ok (.getfield 47, 3) := by decide +kernel
theorem dX7_grows_68 : decode cX7_grows 68 = .ok (.iload_n 3, 1) := by decide +kernel
theorem dX7_grows_69 : decode cX7_grows 69 = .ok (.iaload, 1) := by decide +kernel
theorem dX7_grows_70 : decode cX7_grows 70 = .ok (.iadd, 1) := by decide +kernel
theorem dX7_grows_71 : decode cX7_grows 71 = .ok (.baload, 1) := by decide +kernel
theorem dX7_grows_72 : decode cX7_grows 72 = .ok (.ifCond .eq 6, 3) := by decide +kernel
theorem dX7_grows_75 : decode cX7_grows 75 = .ok (.goto 22, 3) := by decide +kernel
theorem dX7_grows_78 : decode cX7_grows 78 = .ok (.aload_n 0, 1) := by decide +kernel
theorem dX7_grows_79 : decode cX7_grows 79 = .ok (.getfield 69, 3) := by decide +kernel
theorem dX7_grows_82 : decode cX7_grows 82 = .ok (.bipush 40, 2) := by decide +kernel
theorem dX7_grows_84 : decode cX7_grows 84 = .ok (.iload_n 1, 1) := by decide +kernel
theorem dX7_grows_85 : decode cX7_grows 85 = .ok (.imul, 1) := by decide +kernel
theorem dX7_grows_86 : decode cX7_grows 86 = .ok (.aload_n 0, 1) := by decide +kernel
theorem dX7_grows_87 : decode cX7_grows 87 = .ok (.getfield 47, 3) := by decide +kernel
theorem dX7_grows_90 : decode cX7_grows 90 = .ok (.iload_n 3, 1) := by decide +kernel
theorem dX7_grows_91 : decode cX7_grows 91 = .ok (.iaload, 1) := by decide +kernel
theorem dX7_grows_92 : decode cX7_grows 92 = .ok (.iadd, 1) := by decide +kernel
theorem dX7_grows_93 : decode cX7_grows 93 = .ok (.iconst 1, 1) := by decide +kernel
theorem dX7_grows_94 : decode cX7_grows 94 = .ok (.bastore, 1) := by decide +kernel
theorem dX7_grows_95 : decode cX7_grows 95 = .ok (.iconst 1, 1) := by decide +kernel
theorem dX7_grows_96 : decode cX7_grows 96 = .ok (.istore_n 2, 1) := by decide +kernel
theorem dX7_grows_97 : decode cX7_grows 97 = .ok (.iinc 3 1, 3) := by decide +kernel
theorem dX7_grows_100 : decode cX7_grows 100 = .ok (.goto (-90), 3) := by decide +kernel
theorem dX7_grows_103 : decode cX7_grows 103 = .ok (.goto (-101), 3) := by decide +kernel
theorem dX7_grows_106 : decode cX7_grows 106 = .ok (.return_, 1) := by decide +kernel
theorem dX7_addJoin_0 : decode cX7_addJoin 0 = .ok (.aload_n 0, 1) := by decide +kernel
theorem dX7_addJoin_1 : decode cX7_addJoin 1 = .ok (.iload_n 1, 1) := by decide +kernel
theorem dX7_addJoin_2 : decode cX7_addJoin 2 = .ok (.invokevirtual 100, 3) := by decide +kernel
theorem dX7_addJoin_5 : decode cX7_addJoin 5 = .ok (.ifCond .ne 19, 3) := by decide +kernel
theorem dX7_addJoin_8 : decode cX7_addJoin 8 = .ok (.aload_n 0, 1) := by decide +kernel
theorem dX7_addJoin_9 : decode cX7_addJoin 9 = .ok (.iload_n 2, 1) := by decide +kernel
theorem dX7_addJoin_10 : decode cX7_addJoin 10 = .ok (.invokevirtual 100, 3) := by decide +kernel
theorem dX7_addJoin_13 : decode cX7_addJoin 13 = .ok (.ifCond .ne 11, 3) := by decide +kernel
theorem dX7_addJoin_16 : decode cX7_addJoin 16 = .ok (.aload_n 0, 1) := by decide +kernel
theorem dX7_addJoin_17 : decode cX7_addJoin 17 = .ok (.iload_n 3, 1) := by decide +kernel
theorem dX7_addJoin_18 : decode cX7_addJoin 18 = .ok (.invokevirtual 100, 3) := by decide +kernel
theorem dX7_addJoin_21 : decode cX7_addJoin 21 = .ok (.ifCond .eq 5, 3) := by decide +kernel
theorem dX7_addJoin_24 : decode cX7_addJoin 24 = .ok (.iconst 0, 1) := by decide +kernel
theorem dX7_addJoin_25 : decode cX7_addJoin 25 = .ok (.ireturn, 1) := by decide +kernel
theorem dX7_addJoin_26 : decode cX7_addJoin 26 = .ok (.iload_n 1, 1) := by decide +kernel
theorem dX7_addJoin_27 : decode cX7_addJoin 27 = .ok (.iload_n 2, 1) := by decide +kernel
theorem dX7_addJoin_28 : decode cX7_addJoin 28 = .ok (.if_icmp .eq 13, 3) := by decide +kernel
theorem dX7_addJoin_31 : decode cX7_addJoin 31 = .ok (.iload_n 1, 1) := by decide +kernel
theorem dX7_addJoin_32 : decode cX7_addJoin 32 = .ok (.iload_n 3, 1) := by decide +kernel
theorem dX7_addJoin_33 : decode cX7_addJoin 33 = .ok (.if_icmp .eq 8, 3) := by decide +kernel
theorem dX7_addJoin_36 : decode cX7_addJoin 36 = .ok (.iload_n 2, 1) := by decide +kernel
theorem dX7_addJoin_37 : decode cX7_addJoin 37 = .ok (.iload_n 3, 1) := by decide +kernel
theorem dX7_addJoin_38 : decode cX7_addJoin 38 = .ok (.if_icmp .ne 9, 3) := by decide +kernel
theorem dX7_addJoin_41 : decode cX7_addJoin 41 = .ok (.aload_n 0, 1) := by decide +kernel
theorem dX7_addJoin_42 : decode cX7_addJoin 42 = .ok (.iconst 2, 1) := by decide +kernel
theorem dX7_addJoin_43 : decode cX7_addJoin 43 = .ok (.invokevirtual 92, 3) := by decide +kernel
theorem dX7_addJoin_46 : decode cX7_addJoin 46 = .ok (.ireturn, 1) := by decide +kernel
theorem dX7_addJoin_47 : decode cX7_addJoin 47 = .ok (.aload_n 0, 1) := by decide +kernel
theorem dX7_addJoin_48 : decode cX7_addJoin 48 = .ok (.getfield 128, 3) := by decide +kernel
theorem dX7_addJoin_51 : decode cX7_addJoin 51 = .ok (.bipush 10, 2) := by decide +kernel
theorem dX7_addJoin_53 : decode cX7_addJoin 53 = .ok (.if_icmp .ne 9, 3) := by decide +kernel
theorem dX7_addJoin_56 : decode cX7_addJoin 56 = .ok (.aload_n 0, 1) := by decide +kernel
theorem dX7_addJoin_57 : decode cX7_addJoin 57 = .ok (.iconst 3, 1) := by decide +kernel
theorem dX7_addJoin_58 : decode cX7_addJoin 58 = .ok (.invokevirtual 92, 3) := by decide +kernel
theorem dX7_addJoin_61 : decode cX7_addJoin 61 = .ok (.ireturn, 1) := by decide +kernel
theorem dX7_addJoin_62 : decode cX7_addJoin 62 = .ok (.aload_n 0, 1) := by decide +kernel
theorem dX7_addJoin_63 : decode cX7_addJoin 63 = .ok (.getfield 41, 3) := by decide +kernel
theorem dX7_addJoin_66 : decode cX7_addJoin 66 = .ok (.aload_n 0, 1) := by decide +kernel
theorem dX7_addJoin_67 : decode cX7_addJoin 67 = .ok (.getfield 128, 3) := by decide +kernel
theorem dX7_addJoin_70 : decode cX7_addJoin 70 = .ok (.iload_n 1, 1) := by decide +kernel
theorem dX7_addJoin_71 : decode cX7_addJoin 71 = .ok (.iastore, 1) := by decide +kernel
theorem dX7_addJoin_72 : decode cX7_addJoin 72 = .ok (.aload_n 0, 1) := by decide +kernel
theorem dX7_addJoin_73 : decode cX7_addJoin 73 = .ok (.getfield 44, 3) := by decide +kernel
theorem dX7_addJoin_76 : decode cX7_addJoin 76 = .ok (.aload_n 0, 1) := by decide +kernel
theorem dX7_addJoin_77 : decode cX7_addJoin 77 = .ok (.getfield 128, 3) := by decide +kernel
theorem dX7_addJoin_80 : decode cX7_addJoin 80 = .ok (.iload_n 2, 1) := by decide +kernel
theorem dX7_addJoin_81 : decode cX7_addJoin 81 = .ok (.iastore, 1) := by decide +kernel
theorem dX7_addJoin_82 : decode cX7_addJoin 82 = .ok (.aload_n 0, 1) := by decide +kernel
theorem dX7_addJoin_83 : decode cX7_addJoin 83 = .ok (.getfield 47, 3) := by decide +kernel
theorem dX7_addJoin_86 : decode cX7_addJoin 86 = .ok (.aload_n 0, 1) := by decide +kernel
theorem dX7_addJoin_87 : decode cX7_addJoin 87 = .ok (.getfield 128, 3) := by decide +kernel
theorem dX7_addJoin_90 : decode cX7_addJoin 90 = .ok (.iload_n 3, 1) := by decide +kernel
theorem dX7_addJoin_91 : decode cX7_addJoin 91 = .ok (.iastore, 1) := by decide +kernel
theorem dX7_addJoin_92 : decode cX7_addJoin 92 = .ok (.aload_n 0, 1) := by decide +kernel
theorem dX7_addJoin_93 : decode cX7_addJoin 93 = .ok (.dup, 1) := by decide +kernel
theorem dX7_addJoin_94 : decode cX7_addJoin 94 = .ok (.getfield 128, 3) := by decide +kernel
theorem dX7_addJoin_97 : decode cX7_addJoin 97 = .ok (.iconst 1, 1) := by decide +kernel
theorem dX7_addJoin_98 : decode cX7_addJoin 98 = .ok (.iadd, 1) := by decide +kernel
theorem dX7_addJoin_99 : decode cX7_addJoin 99 = .ok (.putfield 128, 3) := by decide +kernel
theorem dX7_addJoin_102 : decode cX7_addJoin 102 = .ok (.iconst 0, 1) := by decide +kernel
theorem dX7_addJoin_103 : decode cX7_addJoin 103 = .ok (.istore 4, 2) := by decide +kernel
theorem dX7_addJoin_105 : decode cX7_addJoin 105 = .ok (.iload 4, 2) := by decide +kernel
theorem dX7_addJoin_107 : decode cX7_addJoin 107 = .ok (.iconst 5, 1) := by decide +kernel
theorem dX7_addJoin_108 : decode cX7_addJoin 108 = .ok (.if_icmp .ge 15, 3) := by decide +kernel
theorem dX7_addJoin_111 : decode cX7_addJoin 111 = .ok (.aload_n 0, 1) := by decide +kernel
theorem dX7_addJoin_112 : decode cX7_addJoin 112 = .ok (.iload 4, 2) := by decide +kernel
theorem dX7_addJoin_114 : decode cX7_addJoin 114 = .ok (.invokevirtual 131, 3) := by decide +kernel
theorem dX7_addJoin_117 : decode cX7_addJoin 117 = .ok (.iinc 4 1, 3) := by decide +kernel
theorem dX7_addJoin_120 : decode cX7_addJoin 120 = .ok (.goto (-15), 3) := by decide +kernel
theorem dX7_addJoin_123 : decode cX7_addJoin 123 = .ok (.aload_n 0, 1) := by decide +kernel
theorem dX7_addJoin_124 : decode cX7_addJoin 124 = .ok (.getfield 128, 3) := by decide +kernel
theorem dX7_addJoin_127 : decode cX7_addJoin 127 = .ok (.iconst 1, 1) := by decide +kernel
theorem dX7_addJoin_128 : decode cX7_addJoin 128 = .ok (.isub, 1) := by decide +kernel
theorem dX7_addJoin_129 : decode cX7_addJoin 129 = .ok (.ireturn, 1) := by decide +kernel
theorem dX7_holds_0 : decode cX7_holds 0 = .ok (.aload_n 0, 1) := by decide +kernel
theorem dX7_holds_1 : decode cX7_holds 1 = .ok (.iload_n 1, 1) := by decide +kernel
theorem dX7_holds_2 : decode cX7_holds 2 = .ok (.invokevirtual 135, 3) := by decide +kernel
theorem dX7_holds_5 : decode cX7_holds 5 = .ok (.ifCond .eq 5, 3) := by decide +kernel
theorem dX7_holds_8 : decode cX7_holds 8 = .ok (.iconst 0, 1) := by decide +kernel
theorem dX7_holds_9 : decode cX7_holds 9 = .ok (.ireturn, 1) := by decide +kernel
theorem dX7_holds_10 : decode cX7_holds 10 = .ok (.aload_n 0, 1) := by decide +kernel
theorem dX7_holds_11 : decode cX7_holds 11 = .ok (.iload_n 2, 1) := by decide +kernel
theorem dX7_holds_12 : decode cX7_holds 12 = .ok (.iconst 0, 1) := by decide +kernel
theorem dX7_holds_13 : decode cX7_holds 13 = .ok (.aload_n 0, 1) := by decide +kernel
theorem dX7_holds_14 : decode cX7_holds 14 = .ok (.getfield 89, 3) := by decide +kernel
theorem dX7_holds_17 : decode cX7_holds 17 = .ok (.iconst 1, 1) := by decide +kernel
theorem dX7_holds_18 : decode cX7_holds 18 = .ok (.isub, 1) := by decide +kernel
theorem dX7_holds_19 : decode cX7_holds 19 = .ok (.invokestatic 85, 3) := by decide +kernel
theorem dX7_holds_22 : decode cX7_holds 22 = .ok (.ifCond .eq 7, 3) := by decide +kernel
theorem dX7_holds_25 : decode cX7_holds 25 = .ok (.iconst 0, 1) := by decide +kernel
theorem dX7_holds_26 : decode cX7_holds 26 = .ok (.goto 4, 3) := by decide +kernel
theorem dX7_holds_29 : decode cX7_holds 29 = .ok (.iconst 2, 1) := by decide +kernel
theorem dX7_holds_30 : decode cX7_holds 30 = .ok (.putfield 79, 3) := by decide +kernel
theorem dX7_holds_33 : decode cX7_holds 33 = .ok (.aload_n 0, 1) := by decide +kernel
theorem dX7_holds_34 : decode cX7_holds 34 = .ok (.getfield 79, 3) := by decide +kernel
theorem dX7_holds_37 : decode cX7_holds 37 = .ok (.ifCond .ne 21, 3) := by decide +kernel
theorem dX7_holds_40 : decode cX7_holds 40 = .ok (.aload_n 0, 1) := by decide +kernel
theorem dX7_holds_41 : decode cX7_holds 41 = .ok (.getfield 69, 3) := by decide +kernel
theorem dX7_holds_44 : decode cX7_holds 44 = .ok (.bipush 40, 2) := by decide +kernel
theorem dX7_holds_46 : decode cX7_holds 46 = .ok (.iload_n 1, 1) := by decide +kernel
theorem dX7_holds_47 : decode cX7_holds 47 = .ok (.imul, 1) := by decide +kernel
theorem dX7_holds_48 : decode cX7_holds 48 = .ok (.iload_n 2, 1) := by decide +kernel
theorem dX7_holds_49 : decode cX7_holds 49 = .ok (.iadd, 1) := by decide +kernel
theorem dX7_holds_50 : decode cX7_holds 50 = .ok (.baload, 1) := by decide +kernel
theorem dX7_holds_51 : decode cX7_holds 51 = .ok (.ifCond .eq 7, 3) := by decide +kernel
theorem dX7_holds_54 : decode cX7_holds 54 = .ok (.iconst 1, 1) := by decide +kernel
theorem dX7_holds_55 : decode cX7_holds 55 = .ok (.goto 4, 3) := by decide +kernel
theorem dX7_holds_58 : decode cX7_holds 58 = .ok (.iconst 0, 1) := by decide +kernel
theorem dX7_holds_59 : decode cX7_holds 59 = .ok (.ireturn, 1) := by decide +kernel
theorem dX7_holdsByLog_0 : decode cX7_holdsByLog 0 = .ok (.aload_n 0, 1) := by decide +kernel
theorem dX7_holdsByLog_1 : decode cX7_holdsByLog 1 = .ok (.iload_n 1, 1) := by decide +kernel
theorem dX7_holdsByLog_2 : decode cX7_holdsByLog 2 = .ok (.iload_n 2, 1) := by decide +kernel
theorem dX7_holdsByLog_3 : decode cX7_holdsByLog 3 = .ok (.invokevirtual 138, 3) := by decide +kernel
theorem dX7_holdsByLog_6 : decode cX7_holdsByLog 6 = .ok (.ireturn, 1) := by decide +kernel
theorem dX7_held_0 : decode cX7_held 0 = .ok (.aload_n 0, 1) := by decide +kernel
theorem dX7_held_1 : decode cX7_held 1 = .ok (.iload_n 1, 1) := by decide +kernel
theorem dX7_held_2 : decode cX7_held 2 = .ok (.invokevirtual 135, 3) := by decide +kernel
theorem dX7_held_5 : decode cX7_held 5 = .ok (.ifCond .eq 5, 3) := by decide +kernel
theorem dX7_held_8 : decode cX7_held 8 = .ok (.iconst 0, 1) := by decide +kernel
theorem dX7_held_9 : decode cX7_held 9 = .ok (.ireturn, 1) := by decide +kernel
theorem dX7_held_10 : decode cX7_held 10 = .ok (.iconst 0, 1) := by decide +kernel
theorem dX7_held_11 : decode cX7_held 11 = .ok (.istore_n 2, 1) := by decide +kernel
theorem dX7_held_12 : decode cX7_held 12 = .ok (.iconst 0, 1) := by decide +kernel
theorem dX7_held_13 : decode cX7_held 13 = .ok (.istore_n 3, 1) := by decide +kernel
theorem dX7_held_14 : decode cX7_held 14 = .ok (.iload_n 3, 1) := by decide +kernel
theorem dX7_held_15 : decode cX7_held 15 = .ok (.aload_n 0, 1) := by decide +kernel
theorem dX7_held_16 : decode cX7_held 16 = .ok (.getfield 89, 3) := by decide +kernel
theorem dX7_held_19 : decode cX7_held 19 = .ok (.if_icmp .ge 31, 3) := by decide +kernel
theorem dX7_held_22 : decode cX7_held 22 = .ok (.iload_n 2, 1) := by decide +kernel
theorem dX7_held_23 : decode cX7_held 23 = .ok (.aload_n 0, 1) := by decide +kernel
theorem dX7_held_24 : decode cX7_held 24 = .ok (.getfield 69, 3) := by decide +kernel
theorem dX7_held_27 : decode cX7_held 27 = .ok (.bipush 40, 2) := by decide +kernel
theorem dX7_held_29 : decode cX7_held 29 = .ok (.iload_n 1, 1) := by decide +kernel
theorem dX7_held_30 : decode cX7_held 30 = .ok (.imul, 1) := by decide +kernel
theorem dX7_held_31 : decode cX7_held 31 = .ok (.iload_n 3, 1) := by decide +kernel
theorem dX7_held_32 : decode cX7_held 32 = .ok (.iadd, 1) := by decide +kernel
theorem dX7_held_33 : decode cX7_held 33 = .ok (.baload, 1) := by decide +kernel
theorem dX7_held_34 : decode cX7_held 34 = .ok (.ifCond .eq 7, 3) := by decide +kernel
theorem dX7_held_37 : decode cX7_held 37 = .ok (.iconst 1, 1) := by decide +kernel
theorem dX7_held_38 : decode cX7_held 38 = .ok (.goto 4, 3) := by decide +kernel
theorem dX7_held_41 : decode cX7_held 41 = .ok (.iconst 0, 1) := by decide +kernel
theorem dX7_held_42 : decode cX7_held 42 = .ok (.iadd, 1) := by decide +kernel
theorem dX7_held_43 : decode cX7_held 43 = .ok (.istore_n 2, 1) := by decide +kernel
theorem dX7_held_44 : decode cX7_held 44 = .ok (.iinc 3 1, 3) := by decide +kernel
theorem dX7_held_47 : decode cX7_held 47 = .ok (.goto (-33), 3) := by decide +kernel
theorem dX7_held_50 : decode cX7_held 50 = .ok (.iload_n 2, 1) := by decide +kernel
theorem dX7_held_51 : decode cX7_held 51 = .ok (.ireturn, 1) := by decide +kernel
theorem dX7_given_0 : decode cX7_given 0 = .ok (.aload_n 0, 1) := by decide +kernel
theorem dX7_given_1 : decode cX7_given 1 = .ok (.iload_n 1, 1) := by decide +kernel
theorem dX7_given_2 : decode cX7_given 2 = .ok (.invokevirtual 135, 3) := by decide +kernel
theorem dX7_given_5 : decode cX7_given 5 = .ok (.ifCond .eq 7, 3) := by decide +kernel
theorem dX7_given_8 : decode cX7_given 8 = .ok (.iconst 0, 1) := by decide +kernel
theorem dX7_given_9 : decode cX7_given 9 = .ok (.goto 9, 3) := by decide +kernel
theorem dX7_given_12 : decode cX7_given 12 = .ok (.aload_n 0, 1) := by decide +kernel
theorem dX7_given_13 : decode cX7_given 13 = .ok (.getfield 62, 3) := by decide +kernel
theorem dX7_given_16 : decode cX7_given 16 = .ok (.iload_n 1, 1) := by decide +kernel
theorem dX7_given_17 : decode cX7_given 17 = .ok (.iaload, 1) := by decide +kernel
theorem dX7_given_18 : decode cX7_given 18 = .ok (.ireturn, 1) := by decide +kernel
theorem dX7_holders_0 : decode cX7_holders 0 = .ok (.aload_n 0, 1) := by decide +kernel
theorem dX7_holders_1 : decode cX7_holders 1 = .ok (.iload_n 1, 1) := by decide +kernel
theorem dX7_holders_2 : decode cX7_holders 2 = .ok (.invokevirtual 100, 3) := by decide +kernel
theorem dX7_holders_5 : decode cX7_holders 5 = .ok (.ifCond .eq 5, 3) := by decide +kernel
theorem dX7_holders_8 : decode cX7_holders 8 = .ok (.iconst 0, 1) := by decide +kernel
theorem dX7_holders_9 : decode cX7_holders 9 = .ok (.ireturn, 1) := by decide +kernel
theorem dX7_holders_10 : decode cX7_holders 10 = .ok (.iconst 0, 1) := by decide +kernel
theorem dX7_holders_11 : decode cX7_holders 11 = .ok (.istore_n 2, 1) := by decide +kernel
theorem dX7_holders_12 : decode cX7_holders 12 = .ok (.iconst 0, 1) := by decide +kernel
theorem dX7_holders_13 : decode cX7_holders 13 = .ok (.istore_n 3, 1) := by decide +kernel
theorem dX7_holders_14 : decode cX7_holders 14 = .ok (.iload_n 3, 1) := by decide +kernel
theorem dX7_holders_15 : decode cX7_holders 15 = .ok (.iconst 5, 1) := by decide +kernel
theorem dX7_holders_16 : decode cX7_holders 16 = .ok (.if_icmp .ge 31, 3) := by decide +kernel
theorem dX7_holders_19 : decode cX7_holders 19 = .ok (.iload_n 2, 1) := by decide +kernel
theorem dX7_holders_20 : decode cX7_holders 20 = .ok (.aload_n 0, 1) := by decide +kernel
theorem dX7_holders_21 : decode cX7_holders 21 = .ok (.getfield 69, 3) := by decide +kernel
theorem dX7_holders_24 : decode cX7_holders 24 = .ok (.bipush 40, 2) := by decide +kernel
theorem dX7_holders_26 : decode cX7_holders 26 = .ok (.iload_n 3, 1) := by decide +kernel
theorem dX7_holders_27 : decode cX7_holders 27 = .ok (.imul, 1) := by decide +kernel
theorem dX7_holders_28 : decode cX7_holders 28 = .ok (.iload_n 1, 1) := by decide +kernel
theorem dX7_holders_29 : decode cX7_holders 29 = .ok (.iadd, 1) := by decide +kernel
theorem dX7_holders_30 : decode cX7_holders 30 = .ok (.baload, 1) := by decide +kernel
theorem dX7_holders_31 : decode cX7_holders 31 = .ok (.ifCond .eq 7, 3) := by decide +kernel
theorem dX7_holders_34 : decode cX7_holders 34 = .ok (.iconst 1, 1) := by decide +kernel
theorem dX7_holders_35 : decode cX7_holders 35 = .ok (.goto 4, 3) := by decide +kernel
theorem dX7_holders_38 : decode cX7_holders 38 = .ok (.iconst 0, 1) := by decide +kernel
theorem dX7_holders_39 : decode cX7_holders 39 = .ok (.iadd, 1) := by decide +kernel
theorem dX7_holders_40 : decode cX7_holders 40 = .ok (.istore_n 2, 1) := by decide +kernel
theorem dX7_holders_41 : decode cX7_holders 41 = .ok (.iinc 3 1, 3) := by decide +kernel
theorem dX7_holders_44 : decode cX7_holders 44 = .ok (.goto (-30), 3) := by decide +kernel
theorem dX7_holders_47 : decode cX7_holders 47 = .ok (.iload_n 2, 1) := by decide +kernel
theorem dX7_holders_48 : decode cX7_holders 48 = .ok (.ireturn, 1) := by decide +kernel
theorem dX7_betrayed_0 : decode cX7_betrayed 0 = .ok (.iconst 0, 1) := by decide +kernel
theorem dX7_betrayed_1 : decode cX7_betrayed 1 = .ok (.istore_n 3, 1) := by decide +kernel
theorem dX7_betrayed_2 : decode cX7_betrayed 2 = .ok (.iload_n 3, 1) := by decide +kernel
theorem dX7_betrayed_3 : decode cX7_betrayed 3 = .ok (.aload_n 0, 1) := by decide +kernel
theorem dX7_betrayed_4 : decode cX7_betrayed 4 = .ok (.getfield 89, 3) := by decide +kernel
theorem dX7_betrayed_7 : decode cX7_betrayed 7 = .ok (.if_icmp .ge 39, 3) := by decide +kernel
theorem dX7_betrayed_10 : decode cX7_betrayed 10 = .ok (.aload_n 0, 1) := by decide +kernel
theorem dX7_betrayed_11 : decode cX7_betrayed 11 = .ok (.getfield 72, 3) := by decide +kernel
theorem dX7_betrayed_14 : decode cX7_betrayed 14 = .ok (.iload_n 3, 1) := by decide +kernel
theorem dX7_betrayed_15 : decode cX7_betrayed 15 = .ok (.iload_n 3, 1) := by decide +kernel
theorem dX7_betrayed_16 : decode cX7_betrayed 16 = .ok (.iload_n 2, 1) := by decide +kernel
theorem dX7_betrayed_17 : decode cX7_betrayed 17 = .ok (.if_icmp .eq 17, 3) := by decide +kernel
theorem dX7_betrayed_20 : decode cX7_betrayed 20 = .ok (.aload_n 0, 1) := by decide +kernel
theorem dX7_betrayed_21 : decode cX7_betrayed 21 = .ok (.getfield 69, 3) := by decide +kernel
theorem dX7_betrayed_24 : decode cX7_betrayed 24 = .ok (.bipush 40, 2) := by decide +kernel
theorem dX7_betrayed_26 : decode cX7_betrayed 26 = .ok (.iload_n 1, 1) := by decide +kernel
theorem dX7_betrayed_27 : decode cX7_betrayed 27 = .ok (.imul, 1) := by decide +kernel
theorem dX7_betrayed_28 : decode cX7_betrayed 28 = .ok (.iload_n 3, 1) := by decide +kernel
theorem dX7_betrayed_29 : decode cX7_betrayed 29 = .ok (.iadd, 1) := by decide +kernel
theorem dX7_betrayed_30 : decode cX7_betrayed 30 = .ok (.baload, 1) := by decide +kernel
theorem dX7_betrayed_31 : decode cX7_betrayed 31 = .ok (.ifCond .eq 7, 3) := by decide +kernel
theorem dX7_betrayed_34 : decode cX7_betrayed 34 = .ok (.iconst 1, 1) := by decide +kernel
theorem dX7_betrayed_35 : decode cX7_betrayed 35 = .ok (.goto 4, 3) := by decide +kernel
theorem dX7_betrayed_38 : decode cX7_betrayed 38 = .ok (.iconst 0, 1) := by decide +kernel
theorem dX7_betrayed_39 : decode cX7_betrayed 39 = .ok (.bastore, 1) := by decide +kernel
theorem dX7_betrayed_40 : decode cX7_betrayed 40 = .ok (.iinc 3 1, 3) := by decide +kernel
theorem dX7_betrayed_43 : decode cX7_betrayed 43 = .ok (.goto (-41), 3) := by decide +kernel
theorem dX7_betrayed_46 : decode cX7_betrayed 46 = .ok (.iconst 1, 1) := by decide +kernel
theorem dX7_betrayed_47 : decode cX7_betrayed 47 = .ok (.istore_n 3, 1) := by decide +kernel
theorem dX7_betrayed_48 : decode cX7_betrayed 48 = .ok (.iload_n 3, 1) := by decide +kernel
theorem dX7_betrayed_49 : decode cX7_betrayed 49 = .ok (.ifCond .eq 89, 3) := by decide +kernel
theorem dX7_betrayed_52 : decode cX7_betrayed 52 = .ok (.iconst 0, 1) := by decide +kernel
theorem dX7_betrayed_53 : decode cX7_betrayed 53 = .ok (.istore_n 3, 1) := by decide +kernel
theorem dX7_betrayed_54 : decode cX7_betrayed 54 = .ok (.iconst 0, 1) := by decide +kernel
theorem dX7_betrayed_55 : decode cX7_betrayed 55 = .ok (.istore 4, 2) := by decide +kernel
theorem dX7_betrayed_57 : decode cX7_betrayed 57 = .ok (.iload 4, 2) := by decide +kernel
theorem dX7_betrayed_59 : decode cX7_betrayed 59 = .ok (.aload_n 0, 1) := by decide +kernel
theorem dX7_betrayed_60 : decode cX7_betrayed 60 = .ok (.getfield 128, 3) := by decide +kernel
theorem dX7_betrayed_63 : decode cX7_betrayed 63 = .ok (.if_icmp .ge 72, 3) := by decide +kernel
theorem dX7_betrayed_66 : decode cX7_betrayed 66 = .ok (.aload_n 0, 1) := by decide +kernel
theorem dX7_betrayed_67 : decode cX7_betrayed 67 = .ok (.getfield 72, 3) := by decide +kernel
theorem dX7_betrayed_70 : decode cX7_betrayed 70 = .ok (.aload_n 0, 1) := by decide +kernel
theorem dX7_betrayed_71 : decode cX7_betrayed 71 = .ok (.getfield 41, 3) := by decide +kernel
theorem dX7_betrayed_74 : decode cX7_betrayed 74 = .ok (.iload 4, 2) := by decide +kernel
theorem dX7_betrayed_76 : decode cX7_betrayed 76 = .ok (.iaload, 1) := by decide +kernel
theorem dX7_betrayed_77 : decode cX7_betrayed 77 = .ok (.baload, 1) := by decide +kernel
theorem dX7_betrayed_78 : decode cX7_betrayed 78 = .ok (.ifCond .eq 51, 3) := by decide +kernel
theorem dX7_betrayed_81 : decode cX7_betrayed 81 = .ok (.aload_n 0, 1) := by decide +kernel
theorem dX7_betrayed_82 : decode cX7_betrayed 82 = .ok (.getfield 72, 3) := by decide +kernel
theorem dX7_betrayed_85 : decode cX7_betrayed 85 = .ok (.aload_n 0, 1) := by decide +kernel
theorem dX7_betrayed_86 : decode cX7_betrayed 86 = .ok (.getfield 44, 3) := by decide +kernel
theorem dX7_betrayed_89 : decode cX7_betrayed 89 = .ok (.iload 4, 2) := by decide +kernel
theorem dX7_betrayed_91 : decode cX7_betrayed 91 = .ok (.iaload, 1) := by decide +kernel
theorem dX7_betrayed_92 : decode cX7_betrayed 92 = .ok (.baload, 1) := by decide +kernel
theorem dX7_betrayed_93 : decode cX7_betrayed 93 = .ok (.ifCond .eq 36, 3) := by decide +kernel
theorem dX7_betrayed_96 : decode cX7_betrayed 96 = .ok (.aload_n 0, 1) := by decide +kernel
theorem dX7_betrayed_97 : decode cX7_betrayed 97 = .ok (.getfield 72, 3) := by decide +kernel
theorem dX7_betrayed_100 : decode cX7_betrayed 100 = .ok (.aload_n 0, 1) := by decide +kernel
theorem dX7_betrayed_101 : decode cX7_betrayed 101 = .ok (.getfield 47, 3) := by decide +kernel
theorem dX7_betrayed_104 : decode cX7_betrayed 104 = .ok (.iload 4, 2) := by decide +kernel
theorem dX7_betrayed_106 : decode cX7_betrayed 106 = .ok (.iaload, 1) := by decide +kernel
theorem dX7_betrayed_107 : decode cX7_betrayed 107 = .ok (.baload, 1) := by decide +kernel
theorem dX7_betrayed_108 : decode cX7_betrayed 108 = .ok (.ifCond .eq 6, 3) := by decide +kernel
theorem dX7_betrayed_111 : decode cX7_betrayed 111 = .ok (.goto 18, 3) := by decide +kernel
theorem dX7_betrayed_114 : decode cX7_betrayed 114 = .ok (.aload_n 0, 1) := by decide +kernel
theorem dX7_betrayed_115 : decode cX7_betrayed 115 = .ok (.getfield 72, 3) := by decide +kernel
theorem dX7_betrayed_118 : decode cX7_betrayed 118 = .ok (.aload_n 0, 1) := by decide +kernel
theorem dX7_betrayed_119 : decode cX7_betrayed 119 = .ok (.getfield 47, 3) := by decide +kernel
theorem dX7_betrayed_122 : decode cX7_betrayed 122 = .ok (.iload 4, 2) := by decide +kernel
theorem dX7_betrayed_124 : decode cX7_betrayed 124 = .ok (.iaload, 1) := by decide +kernel
theorem dX7_betrayed_125 : decode cX7_betrayed 125 = .ok (.iconst 1, 1) := by decide +kernel
theorem dX7_betrayed_126 : decode cX7_betrayed 126 = .ok (.bastore, 1) := by decide +kernel
theorem dX7_betrayed_127 : decode cX7_betrayed 127 = .ok (.iconst 1, 1) := by decide +kernel
theorem dX7_betrayed_128 : decode cX7_betrayed 128 = .ok (.istore_n 3, 1) := by decide +kernel
theorem dX7_betrayed_129 : decode cX7_betrayed 129 = .ok (.iinc 4 1, 3) := by decide +kernel
theorem dX7_betrayed_132 : decode cX7_betrayed 132 = .ok (.goto (-75), 3) := by decide +kernel
theorem dX7_betrayed_135 : decode cX7_betrayed 135 = .ok (.goto (-87), 3) := by decide +kernel
theorem dX7_betrayed_138 : decode cX7_betrayed 138 = .ok (.iconst 0, 1) := by decide +kernel
theorem dX7_betrayed_139 : decode cX7_betrayed 139 = .ok (.istore 4, 2) := by decide +kernel
theorem dX7_betrayed_141 : decode cX7_betrayed 141 = .ok (.iload 4, 2) := by decide +kernel
theorem dX7_betrayed_143 : decode cX7_betrayed 143 = .ok (.aload_n 0, 1) := by decide +kernel
theorem dX7_betrayed_144 : decode cX7_betrayed 144 = .ok (.getfield 89, 3) := by decide +kernel
theorem dX7_betrayed_147 : decode cX7_betrayed 147 = .ok (.if_icmp .ge 46, 3) := by decide +kernel
theorem dX7_betrayed_150 : decode cX7_betrayed 150 = .ok (.aload_n 0, 1) := by decide +kernel
theorem dX7_betrayed_151 : decode cX7_betrayed 151 = .ok (.getfield 72, 3) := by decide +kernel
theorem dX7_betrayed_154 : decode cX7_betrayed 154 = .ok (.iload 4, 2) := by decide +kernel
theorem dX7_betrayed_156 : decode cX7_betrayed 156 = .ok (.baload, 1) := by decide +kernel
theorem dX7_betrayed_157 : decode cX7_betrayed 157 = .ok (.ifCond .eq 30, 3) := by decide +kernel
theorem dX7_betrayed_160 : decode cX7_betrayed 160 = .ok (.aload_n 0, 1) := by decide +kernel
theorem dX7_betrayed_161 : decode cX7_betrayed 161 = .ok (.getfield 69, 3) := by decide +kernel
theorem dX7_betrayed_164 : decode cX7_betrayed 164 = .ok (.bipush 40, 2) := by decide +kernel
theorem dX7_betrayed_166 : decode cX7_betrayed 166 = .ok (.iload_n 1, 1) := by decide +kernel
theorem dX7_betrayed_167 : decode cX7_betrayed 167 = .ok (.imul, 1) := by decide +kernel
theorem dX7_betrayed_168 : decode cX7_betrayed 168 = .ok (.iload 4, 2) := by decide +kernel
theorem dX7_betrayed_170 : decode cX7_betrayed 170 = .ok (.iadd, 1) := by decide +kernel
theorem dX7_betrayed_171 : decode cX7_betrayed 171 = .ok (.baload, 1) := by decide +kernel
theorem dX7_betrayed_172 : decode cX7_betrayed 172 = .ok (.ifCond .ne 15, 3) := by decide +kernel
theorem dX7_betrayed_175 : decode cX7_betrayed 175 = .ok (.aload_n 0, 1) := by decide +kernel
theorem dX7_betrayed_176 : decode cX7_betrayed 176 = .ok (.iload 4, 2) := by decide +kernel
theorem dX7_betrayed_178 : decode cX7_betrayed 178 = .ok (.invokevirtual 121, 3) := by decide +kernel
theorem dX7_betrayed_181 : decode cX7_betrayed 181 = .ok (.ifCond .eq 6, 3) := by decide +kernel
theorem dX7_betrayed_184 : decode cX7_betrayed 184 = .ok (.iload 4, 2) := by decide +kernel
theorem dX7_betrayed_186 : decode cX7_betrayed 186 = .ok (.ireturn, 1) := by decide +kernel
theorem dX7_betrayed_187 : decode cX7_betrayed 187 = .ok (.iinc 4 1, 3) := by decide +kernel
theorem dX7_betrayed_190 : decode cX7_betrayed 190 = .ok (.goto (-49), 3) := by decide +kernel
theorem dX7_betrayed_193 : decode cX7_betrayed 193 = .ok (.iconst (-1), 1) := by decide +kernel
theorem dX7_betrayed_194 : decode cX7_betrayed 194 = .ok (.ireturn, 1) := by decide +kernel
theorem dX7_first_0 : decode cX7_first 0 = .ok (.aload_n 0, 1) := by decide +kernel
theorem dX7_first_1 : decode cX7_first 1 = .ok (.iload_n 2, 1) := by decide +kernel
theorem dX7_first_2 : decode cX7_first 2 = .ok (.invokevirtual 115, 3) := by decide +kernel
theorem dX7_first_5 : decode cX7_first 5 = .ok (.ifCond .eq 6, 3) := by decide +kernel
theorem dX7_first_8 : decode cX7_first 8 = .ok (.bipush 114, 2) := by decide +kernel
theorem dX7_first_10 : decode cX7_first 10 = .ok (.ireturn, 1) := by decide +kernel
theorem dX7_first_11 : decode cX7_first 11 = .ok (.aload_n 0, 1) := by decide +kernel
theorem dX7_first_12 : decode cX7_first 12 = .ok (.iload_n 2, 1) := by decide +kernel
theorem dX7_first_13 : decode cX7_first 13 = .ok (.invokevirtual 118, 3) := by decide +kernel
theorem dX7_first_16 : decode cX7_first 16 = .ok (.ifCond .eq 6, 3) := by decide +kernel
theorem dX7_first_19 : decode cX7_first 19 = .ok (.bipush 115, 2) := by decide +kernel
theorem dX7_first_21 : decode cX7_first 21 = .ok (.ireturn, 1) := by decide +kernel
theorem dX7_first_22 : decode cX7_first 22 = .ok (.aload_n 0, 1) := by decide +kernel
theorem dX7_first_23 : decode cX7_first 23 = .ok (.iload_n 1, 1) := by decide +kernel
theorem dX7_first_24 : decode cX7_first 24 = .ok (.iload_n 2, 1) := by decide +kernel
theorem dX7_first_25 : decode cX7_first 25 = .ok (.invokevirtual 141, 3) := by decide +kernel
theorem dX7_first_28 : decode cX7_first 28 = .ok (.ifCond .ge 8, 3) := by decide +kernel
theorem dX7_first_31 : decode cX7_first 31 = .ok (.bipush 45, 2) := by decide +kernel
theorem dX7_first_33 : decode cX7_first 33 = .ok (.goto 5, 3) := by decide +kernel
theorem dX7_first_36 : decode cX7_first 36 = .ok (.bipush 106, 2) := by decide +kernel
theorem dX7_first_38 : decode cX7_first 38 = .ok (.ireturn, 1) := by decide +kernel
theorem dX7_noReasons_0 : decode cX7_noReasons 0 = .ok (.aload_n 0, 1) := by decide +kernel
theorem dX7_noReasons_1 : decode cX7_noReasons 1 = .ok (.iload_n 1, 1) := by decide +kernel
theorem dX7_noReasons_2 : decode cX7_noReasons 2 = .ok (.invokevirtual 135, 3) := by decide +kernel
theorem dX7_noReasons_5 : decode cX7_noReasons 5 = .ok (.ifCond .eq 5, 3) := by decide +kernel
theorem dX7_noReasons_8 : decode cX7_noReasons 8 = .ok (.iconst 1, 1) := by decide +kernel
theorem dX7_noReasons_9 : decode cX7_noReasons 9 = .ok (.ireturn, 1) := by decide +kernel
theorem dX7_noReasons_10 : decode cX7_noReasons 10 = .ok (.aload_n 0, 1) := by decide +kernel
theorem dX7_noReasons_11 : decode cX7_noReasons 11 = .ok (.iload_n 2, 1) := by decide +kernel
theorem dX7_noReasons_12 : decode cX7_noReasons 12 = .ok (.iconst 0, 1) := by decide +kernel
theorem dX7_noReasons_13 : decode cX7_noReasons 13 = .ok (.aload_n 0, 1) := by decide +kernel
theorem dX7_noReasons_14 : decode cX7_noReasons 14 = .ok (.getfield 89, 3) := by decide +kernel
theorem dX7_noReasons_17 : decode cX7_noReasons 17 = .ok (.iconst 1, 1) := by decide +kernel
theorem dX7_noReasons_18 : decode cX7_noReasons 18 = .ok (.isub, 1) := by decide +kernel
theorem dX7_noReasons_19 : decode cX7_noReasons 19 = .ok (.invokestatic 85, 3) := by decide +kernel
theorem dX7_noReasons_22 : decode cX7_noReasons 22 = .ok (.ifCond .ne 7, 3) := by decide +kernel
theorem dX7_noReasons_25 : decode cX7_noReasons 25 = .ok (.iconst 2, 1) := by decide +kernel
theorem dX7_noReasons_26 : decode cX7_noReasons 26 = .ok (.goto 22, 3) := by decide +kernel
theorem dX7_noReasons_29 : decode cX7_noReasons 29 = .ok (.aload_n 0, 1) := by decide +kernel
theorem dX7_noReasons_30 : decode cX7_noReasons 30 = .ok (.getfield 69, 3) := by decide +kernel
theorem dX7_noReasons_33 : decode cX7_noReasons 33 = .ok (.bipush 40, 2) := by decide +kernel
theorem dX7_noReasons_35 : decode cX7_noReasons 35 = .ok (.iload_n 1, 1) := by decide +kernel
theorem dX7_noReasons_36 : decode cX7_noReasons 36 = .ok (.imul, 1) := by decide +kernel
theorem dX7_noReasons_37 : decode cX7_noReasons 37 = .ok (.iload_n 2, 1) := by decide +kernel
theorem dX7_noReasons_38 : decode cX7_noReasons 38 = .ok (.iadd, 1) := by decide +kernel
theorem dX7_noReasons_39 : decode cX7_noReasons 39 = .ok (.baload, 1) := by decide +kernel
theorem dX7_noReasons_40 : decode cX7_noReasons 40 = .ok (.ifCond .eq 7, 3) := by decide +kernel
theorem dX7_noReasons_43 : decode cX7_noReasons 43 = .ok (.iconst 3, 1) := by decide +kernel
theorem dX7_noReasons_44 : decode cX7_noReasons 44 = .ok (.goto 4, 3) := by decide +kernel
theorem dX7_noReasons_47 : decode cX7_noReasons 47 = .ok (.iconst 0, 1) := by decide +kernel
theorem dX7_noReasons_48 : decode cX7_noReasons 48 = .ok (.putfield 79, 3) := by decide +kernel
theorem dX7_noReasons_51 : decode cX7_noReasons 51 = .ok (.aload_n 0, 1) := by decide +kernel
theorem dX7_noReasons_52 : decode cX7_noReasons 52 = .ok (.getfield 79, 3) := by decide +kernel
theorem dX7_noReasons_55 : decode cX7_noReasons 55 = .ok (.ifCond .eq 7, 3) := by decide +kernel
theorem dX7_noReasons_58 : decode cX7_noReasons 58 = .ok (.iconst 1, 1) := by decide +kernel
theorem dX7_noReasons_59 : decode cX7_noReasons 59 = .ok (.goto 4, 3) := by decide +kernel
theorem dX7_noReasons_62 : decode cX7_noReasons 62 = .ok (.iconst 0, 1) := by decide +kernel
theorem dX7_noReasons_63 : decode cX7_noReasons 63 = .ok (.ireturn, 1) := by decide +kernel
theorem dX7_why_0 : decode cX7_why 0 = .ok (.aload_n 0, 1) := by decide +kernel
theorem dX7_why_1 : decode cX7_why 1 = .ok (.iload_n 1, 1) := by decide +kernel
theorem dX7_why_2 : decode cX7_why 2 = .ok (.iload_n 2, 1) := by decide +kernel
theorem dX7_why_3 : decode cX7_why 3 = .ok (.invokevirtual 145, 3) := by decide +kernel
theorem dX7_why_6 : decode cX7_why 6 = .ok (.ifCond .eq 8, 3) := by decide +kernel
theorem dX7_why_9 : decode cX7_why 9 = .ok (.bipush 45, 2) := by decide +kernel
theorem dX7_why_11 : decode cX7_why 11 = .ok (.goto 9, 3) := by decide +kernel
theorem dX7_why_14 : decode cX7_why 14 = .ok (.aload_n 0, 1) := by decide +kernel
theorem dX7_why_15 : decode cX7_why 15 = .ok (.iload_n 1, 1) := by decide +kernel
theorem dX7_why_16 : decode cX7_why 16 = .ok (.iload_n 2, 1) := by decide +kernel
theorem dX7_why_17 : decode cX7_why 17 = .ok (.invokevirtual 148, 3) := by decide +kernel
theorem dX7_why_20 : decode cX7_why 20 = .ok (.ireturn, 1) := by decide +kernel
theorem dX7_cause_0 : decode cX7_cause 0 = .ok (.aload_n 0, 1) := by decide +kernel
theorem dX7_cause_1 : decode cX7_cause 1 = .ok (.iload_n 2, 1) := by decide +kernel
theorem dX7_cause_2 : decode cX7_cause 2 = .ok (.invokevirtual 121, 3) := by decide +kernel
theorem dX7_cause_5 : decode cX7_cause 5 = .ok (.ifCond .eq 7, 3) := by decide +kernel
theorem dX7_cause_8 : decode cX7_cause 8 = .ok (.iload_n 2, 1) := by decide +kernel
theorem dX7_cause_9 : decode cX7_cause 9 = .ok (.goto 9, 3) := by decide +kernel
theorem dX7_cause_12 : decode cX7_cause 12 = .ok (.aload_n 0, 1) := by decide +kernel
theorem dX7_cause_13 : decode cX7_cause 13 = .ok (.iload_n 1, 1) := by decide +kernel
theorem dX7_cause_14 : decode cX7_cause 14 = .ok (.iload_n 2, 1) := by decide +kernel
theorem dX7_cause_15 : decode cX7_cause 15 = .ok (.invokevirtual 141, 3) := by decide +kernel
theorem dX7_cause_18 : decode cX7_cause 18 = .ok (.ireturn, 1) := by decide +kernel
theorem dX7_root_0 : decode cX7_root 0 = .ok (.aload_n 0, 1) := by decide +kernel
theorem dX7_root_1 : decode cX7_root 1 = .ok (.iload_n 1, 1) := by decide +kernel
theorem dX7_root_2 : decode cX7_root 2 = .ok (.iload_n 2, 1) := by decide +kernel
theorem dX7_root_3 : decode cX7_root 3 = .ok (.invokevirtual 145, 3) := by decide +kernel
theorem dX7_root_6 : decode cX7_root 6 = .ok (.ifCond .eq 6, 3) := by decide +kernel
theorem dX7_root_9 : decode cX7_root 9 = .ok (.bipush 45, 2) := by decide +kernel
theorem dX7_root_11 : decode cX7_root 11 = .ok (.ireturn, 1) := by decide +kernel
theorem dX7_root_12 : decode cX7_root 12 = .ok (.aload_n 0, 1) := by decide +kernel
theorem dX7_root_13 : decode cX7_root 13 = .ok (.iload_n 1, 1) := by decide +kernel
theorem dX7_root_14 : decode cX7_root 14 = .ok (.iload_n 2, 1) := by decide +kernel
theorem dX7_root_15 : decode cX7_root 15 = .ok (.invokevirtual 148, 3) := by decide +kernel
theorem dX7_root_18 : decode cX7_root 18 = .ok (.bipush 45, 2) := by decide +kernel
theorem dX7_root_20 : decode cX7_root 20 = .ok (.if_icmp .ne 11, 3) := by decide +kernel
theorem dX7_root_23 : decode cX7_root 23 = .ok (.aload_n 0, 1) := by decide +kernel
theorem dX7_root_24 : decode cX7_root 24 = .ok (.iconst 4, 1) := by decide +kernel
theorem dX7_root_25 : decode cX7_root 25 = .ok (.putfield 79, 3) := by decide +kernel
theorem dX7_root_28 : decode cX7_root 28 = .ok (.bipush 45, 2) := by decide +kernel
theorem dX7_root_30 : decode cX7_root 30 = .ok (.ireturn, 1) := by decide +kernel
theorem dX7_root_31 : decode cX7_root 31 = .ok (.aload_n 0, 1) := by decide +kernel
theorem dX7_root_32 : decode cX7_root 32 = .ok (.aload_n 0, 1) := by decide +kernel
theorem dX7_root_33 : decode cX7_root 33 = .ok (.iload_n 1, 1) := by decide +kernel
theorem dX7_root_34 : decode cX7_root 34 = .ok (.iload_n 2, 1) := by decide +kernel
theorem dX7_root_35 : decode cX7_root 35 = .ok (.invokevirtual 152, 3) := by decide +kernel
theorem dX7_root_38 : decode cX7_root 38 = .ok (.invokevirtual 118, 3) := by decide +kernel
theorem dX7_root_41 : decode cX7_root 41 = .ok (.ifCond .eq 8, 3) := by decide +kernel
theorem dX7_root_44 : decode cX7_root 44 = .ok (.bipush 115, 2) := by decide +kernel
theorem dX7_root_46 : decode cX7_root 46 = .ok (.goto 5, 3) := by decide +kernel
theorem dX7_root_49 : decode cX7_root 49 = .ok (.bipush 114, 2) := by decide +kernel
theorem dX7_root_51 : decode cX7_root 51 = .ok (.ireturn, 1) := by decide +kernel
theorem dX7_causes_0 : decode cX7_causes 0 = .ok (.aload_n 0, 1) := by decide +kernel
theorem dX7_causes_1 : decode cX7_causes 1 = .ok (.iload_n 1, 1) := by decide +kernel
theorem dX7_causes_2 : decode cX7_causes 2 = .ok (.iload_n 2, 1) := by decide +kernel
theorem dX7_causes_3 : decode cX7_causes 3 = .ok (.invokevirtual 145, 3) := by decide +kernel
theorem dX7_causes_6 : decode cX7_causes 6 = .ok (.ifCond .eq 5, 3) := by decide +kernel
theorem dX7_causes_9 : decode cX7_causes 9 = .ok (.iconst 0, 1) := by decide +kernel
theorem dX7_causes_10 : decode cX7_causes 10 = .ok (.ireturn, 1) := by decide +kernel
theorem dX7_causes_11 : decode cX7_causes 11 = .ok (.aload_n 0, 1) := by decide +kernel
theorem dX7_causes_12 : decode cX7_causes 12 = .ok (.iload_n 1, 1) := by decide +kernel
theorem dX7_causes_13 : decode cX7_causes 13 = .ok (.iload_n 2, 1) := by decide +kernel
theorem dX7_causes_14 : decode cX7_causes 14 = .ok (.invokevirtual 148, 3) := by decide +kernel
theorem dX7_causes_17 : decode cX7_causes 17 = .ok (.istore_n 3, 1) := by decide +kernel
theorem dX7_causes_18 : decode cX7_causes 18 = .ok (.iload_n 3, 1) := by decide +kernel
theorem dX7_causes_19 : decode cX7_causes 19 = .ok (.bipush 45, 2) := by decide +kernel
theorem dX7_causes_21 : decode cX7_causes 21 = .ok (.if_icmp .ne 5, 3) := by decide +kernel
theorem dX7_causes_24 : decode cX7_causes 24 = .ok (.iconst 0, 1) := by decide +kernel
theorem dX7_causes_25 : decode cX7_causes 25 = .ok (.ireturn, 1) := by decide +kernel
theorem dX7_causes_26 : decode cX7_causes 26 = .ok (.aload_n 0, 1) := by decide +kernel
theorem dX7_causes_27 : decode cX7_causes 27 = .ok (.iload_n 1, 1) := by decide +kernel
theorem dX7_causes_28 : decode cX7_causes 28 = .ok (.iload_n 2, 1) := by decide +kernel
theorem dX7_causes_29 : decode cX7_causes 29 = .ok (.invokevirtual 152, 3) := by decide +kernel
theorem dX7_causes_32 : decode cX7_causes 32 = .ok (.istore 4, 2) := by decide +kernel
theorem dX7_causes_34 : decode cX7_causes 34 = .ok (.iload_n 3, 1) := by decide +kernel
theorem dX7_causes_35 : decode cX7_causes 35 = .ok (.bipush 106, 2) := by decide +kernel
theorem dX7_causes_37 : decode cX7_causes 37 = .ok (.if_icmp .ne 7, 3) := by decide +kernel
theorem dX7_causes_40 : decode cX7_causes 40 = .ok (.iconst 1, 1) := by decide +kernel
theorem dX7_causes_41 : decode cX7_causes 41 = .ok (.goto 4, 3) := by decide +kernel
theorem dX7_causes_44 : decode cX7_causes 44 = .ok (.iconst 0, 1) := by decide +kernel
theorem dX7_causes_45 : decode cX7_causes 45 = .ok (.aload_n 0, 1) := by decide +kernel
theorem dX7_causes_46 : decode cX7_causes 46 = .ok (.iload 4, 2) := by decide +kernel
theorem dX7_causes_48 : decode cX7_causes 48 = .ok (.invokevirtual 115, 3) := by decide +kernel
theorem dX7_causes_51 : decode cX7_causes 51 = .ok (.ifCond .eq 7, 3) := by decide +kernel
theorem dX7_causes_54 : decode cX7_causes 54 = .ok (.iconst 1, 1) := by decide +kernel
theorem dX7_causes_55 : decode cX7_causes 55 = .ok (.goto 4, 3) := by decide +kernel
theorem dX7_causes_58 : decode cX7_causes 58 = .ok (.iconst 0, 1) := by decide +kernel
theorem dX7_causes_59 : decode cX7_causes 59 = .ok (.iadd, 1) := by decide +kernel
theorem dX7_causes_60 : decode cX7_causes 60 = .ok (.aload_n 0, 1) := by decide +kernel
theorem dX7_causes_61 : decode cX7_causes 61 = .ok (.iload 4, 2) := by decide +kernel
theorem dX7_causes_63 : decode cX7_causes 63 = .ok (.invokevirtual 118, 3) := by decide +kernel
theorem dX7_causes_66 : decode cX7_causes 66 = .ok (.ifCond .eq 7, 3) := by decide +kernel
theorem dX7_causes_69 : decode cX7_causes 69 = .ok (.iconst 1, 1) := by decide +kernel
theorem dX7_causes_70 : decode cX7_causes 70 = .ok (.goto 4, 3) := by decide +kernel
theorem dX7_causes_73 : decode cX7_causes 73 = .ok (.iconst 0, 1) := by decide +kernel
theorem dX7_causes_74 : decode cX7_causes 74 = .ok (.iadd, 1) := by decide +kernel
theorem dX7_causes_75 : decode cX7_causes 75 = .ok (.ireturn, 1) := by decide +kernel
theorem dX7_request_0 : decode cX7_request 0 = .ok (.aload_n 0, 1) := by decide +kernel
theorem dX7_request_1 : decode cX7_request 1 = .ok (.iload_n 1, 1) := by decide +kernel
theorem dX7_request_2 : decode cX7_request 2 = .ok (.invokevirtual 135, 3) := by decide +kernel
theorem dX7_request_5 : decode cX7_request 5 = .ok (.ifCond .eq 5, 3) := by decide +kernel
theorem dX7_request_8 : decode cX7_request 8 = .ok (.iconst 0, 1) := by decide +kernel
theorem dX7_request_9 : decode cX7_request 9 = .ok (.ireturn, 1) := by decide +kernel
theorem dX7_request_10 : decode cX7_request 10 = .ok (.iload_n 2, 1) := by decide +kernel
theorem dX7_request_11 : decode cX7_request 11 = .ok (.iconst 0, 1) := by decide +kernel
theorem dX7_request_12 : decode cX7_request 12 = .ok (.aload_n 0, 1) := by decide +kernel
theorem dX7_request_13 : decode cX7_request 13 = .ok (.getfield 82, 3) := by decide +kernel
theorem dX7_request_16 : decode cX7_request 16 = .ok (.iconst 1, 1) := by decide +kernel
theorem dX7_request_17 : decode cX7_request 17 = .ok (.isub, 1) := by decide +kernel
theorem dX7_request_18 : decode cX7_request 18 = .ok (.invokestatic 85, 3) := by decide +kernel
theorem dX7_request_21 : decode cX7_request 21 = .ok (.ifCond .ne 9, 3) := by decide +kernel
theorem dX7_request_24 : decode cX7_request 24 = .ok (.aload_n 0, 1) := by decide +kernel
theorem dX7_request_25 : decode cX7_request 25 = .ok (.iconst 2, 1) := by decide +kernel
theorem dX7_request_26 : decode cX7_request 26 = .ok (.invokevirtual 92, 3) := by decide +kernel
theorem dX7_request_29 : decode cX7_request 29 = .ok (.ireturn, 1) := by decide +kernel
theorem dX7_request_30 : decode cX7_request 30 = .ok (.aload_n 0, 1) := by decide +kernel
theorem dX7_request_31 : decode cX7_request 31 = .ok (.getfield 59, 3) := by decide +kernel
theorem dX7_request_34 : decode cX7_request 34 = .ok (.iload_n 1, 1) := by decide +kernel
theorem dX7_request_35 : decode cX7_request 35 = .ok (.iaload, 1) := by decide +kernel
theorem dX7_request_36 : decode cX7_request 36 = .ok (.bipush 100, 2) := by decide +kernel
theorem dX7_request_38 : decode cX7_request 38 = .ok (.if_icmp .le 9, 3) := by decide +kernel
theorem dX7_request_41 : decode cX7_request 41 = .ok (.aload_n 0, 1) := by decide +kernel
theorem dX7_request_42 : decode cX7_request 42 = .ok (.iconst 3, 1) := by decide +kernel
theorem dX7_request_43 : decode cX7_request 43 = .ok (.invokevirtual 92, 3) := by decide +kernel
theorem dX7_request_46 : decode cX7_request 46 = .ok (.ireturn, 1) := by decide +kernel
theorem dX7_request_47 : decode cX7_request 47 = .ok (.aload_n 0, 1) := by decide +kernel
theorem dX7_request_48 : decode cX7_request 48 = .ok (.getfield 155, 3) := by decide +kernel
theorem dX7_request_51 : decode cX7_request 51 = .ok (.bipush 20, 2) := by decide +kernel
theorem dX7_request_53 : decode cX7_request 53 = .ok (.if_icmp .ne 9, 3) := by decide +kernel
theorem dX7_request_56 : decode cX7_request 56 = .ok (.aload_n 0, 1) := by decide +kernel
theorem dX7_request_57 : decode cX7_request 57 = .ok (.iconst 4, 1) := by decide +kernel
theorem dX7_request_58 : decode cX7_request 58 = .ok (.invokevirtual 92, 3) := by decide +kernel
theorem dX7_request_61 : decode cX7_request 61 = .ok (.ireturn, 1) := by decide +kernel
theorem dX7_request_62 : decode cX7_request 62 = .ok (.iconst 0, 1) := by decide +kernel
theorem dX7_request_63 : decode cX7_request 63 = .ok (.istore_n 3, 1) := by decide +kernel
theorem dX7_request_64 : decode cX7_request 64 = .ok (.iload_n 3, 1) := by decide +kernel
theorem dX7_request_65 : decode cX7_request 65 = .ok (.aload_n 0, 1) := by decide +kernel
theorem dX7_request_66 : decode cX7_request 66 = .ok (.getfield 155, 3) := by decide +kernel
theorem dX7_request_69 : decode cX7_request 69 = .ok (.if_icmp .ge 46, 3) := by decide +kernel
theorem dX7_request_72 : decode cX7_request 72 = .ok (.aload_n 0, 1) := by decide +kernel
theorem dX7_request_73 : decode cX7_request 73 = .ok (.getfield 50, 3) := by decide +kernel
theorem dX7_request_76 : decode cX7_request 76 = .ok (.iload_n 3, 1) := by decide +kernel
theorem dX7_request_77 : decode cX7_request 77 = .ok (.iaload, 1) := by decide +kernel
theorem dX7_request_78 : decode cX7_request 78 = .ok (.iload_n 1, 1) := by decide +kernel
theorem dX7_request_79 : decode cX7_request 79 = .ok (.if_icmp .ne 30, 3) := by decide +kernel
theorem dX7_request_82 : decode cX7_request 82 = .ok (.aload_n 0, 1) := by decide +kernel
theorem dX7_request_83 : decode cX7_request 83 = .ok (.getfield 53, 3) := by decide +kernel
theorem dX7_request_86 : decode cX7_request 86 = .ok (.iload_n 3, 1) := by decide +kernel
theorem dX7_request_87 : decode cX7_request 87 = .ok (.iaload, 1) := by decide +kernel
theorem dX7_request_88 : decode cX7_request 88 = .ok (.iload_n 2, 1) := by decide +kernel
theorem dX7_request_89 : decode cX7_request 89 = .ok (.if_icmp .ne 20, 3) := by decide +kernel
theorem dX7_request_92 : decode cX7_request 92 = .ok (.aload_n 0, 1) := by decide +kernel
theorem dX7_request_93 : decode cX7_request 93 = .ok (.getfield 75, 3) := by decide +kernel
theorem dX7_request_96 : decode cX7_request 96 = .ok (.iload_n 3, 1) := by decide +kernel
theorem dX7_request_97 : decode cX7_request 97 = .ok (.caload, 1) := by decide +kernel
theorem dX7_request_98 : decode cX7_request 98 = .ok (.bipush 119, 2) := by decide +kernel
theorem dX7_request_100 : decode cX7_request 100 = .ok (.if_icmp .ne 9, 3) := by decide +kernel
theorem dX7_request_103 : decode cX7_request 103 = .ok (.aload_n 0, 1) := by decide +kernel
theorem dX7_request_104 : decode cX7_request 104 = .ok (.iconst 4, 1) := by decide +kernel
theorem dX7_request_105 : decode cX7_request 105 = .ok (.invokevirtual 92, 3) := by decide +kernel
theorem dX7_request_108 : decode cX7_request 108 = .ok (.ireturn, 1) := by decide +kernel
theorem dX7_request_109 : decode cX7_request 109 = .ok (.iinc 3 1, 3) := by decide +kernel
theorem dX7_request_112 : decode cX7_request 112 = .ok (.goto (-48), 3) := by decide +kernel
theorem dX7_request_115 : decode cX7_request 115 = .ok (.aload_n 0, 1) := by decide +kernel
theorem dX7_request_116 : decode cX7_request 116 = .ok (.getfield 50, 3) := by decide +kernel
theorem dX7_request_119 : decode cX7_request 119 = .ok (.aload_n 0, 1) := by decide +kernel
theorem dX7_request_120 : decode cX7_request 120 = .ok (.getfield 155, 3) := by decide +kernel
theorem dX7_request_123 : decode cX7_request 123 = .ok (.iload_n 1, 1) := by decide +kernel
theorem dX7_request_124 : decode cX7_request 124 = .ok (.iastore, 1) := by decide +kernel
theorem dX7_request_125 : decode cX7_request 125 = .ok (.aload_n 0, 1) := by decide +kernel
theorem dX7_request_126 : decode cX7_request 126 = .ok (.getfield 53, 3) := by decide +kernel
theorem dX7_request_129 : decode cX7_request 129 = .ok (.aload_n 0, 1) := by decide +kernel
theorem dX7_request_130 : decode cX7_request 130 = .ok (.getfield 155, 3) := by decide +kernel
theorem dX7_request_133 : decode cX7_request 133 = .ok (.iload_n 2, 1) := by decide +kernel
theorem dX7_request_134 : decode cX7_request 134 = .ok (.iastore, 1) := by decide +kernel
theorem dX7_request_135 : decode cX7_request 135 = .ok (.aload_n 0, 1) := by decide +kernel
theorem dX7_request_136 : decode cX7_request 136 = .ok (.getfield 56, 3) := by decide +kernel
theorem dX7_request_139 : decode cX7_request 139 = .ok (.aload_n 0, 1) := by decide +kernel
theorem dX7_request_140 : decode cX7_request 140 = .ok (.getfield 155, 3) := by decide +kernel
theorem dX7_request_143 : decode cX7_request 143 = .ok (.aload_n 0, 1) := by decide +kernel
theorem dX7_request_144 : decode cX7_request 144 = .ok (.getfield 106, 3) := by decide +kernel
theorem dX7_request_147 : decode cX7_request 147 = .ok (.iastore, 1) := by decide +kernel
theorem dX7_request_148 : decode cX7_request 148 = .ok (.aload_n 0, 1) := by decide +kernel
theorem dX7_request_149 : decode cX7_request 149 = .ok (.getfield 75, 3) := by decide +kernel
theorem dX7_request_152 : decode cX7_request 152 = .ok (.aload_n 0, 1) := by decide +kernel
theorem dX7_request_153 : decode cX7_request 153 = .ok (.getfield 155, 3) := by decide +kernel
theorem dX7_request_156 : decode cX7_request 156 = .ok (.bipush 119, 2) := by decide +kernel
theorem dX7_request_158 : decode cX7_request 158 = .ok (.castore, 1) := by decide +kernel
theorem dX7_request_159 : decode cX7_request 159 = .ok (.aload_n 0, 1) := by decide +kernel
theorem dX7_request_160 : decode cX7_request 160 = .ok (.dup, 1) := by decide +kernel
theorem dX7_request_161 : decode cX7_request 161 = .ok (.getfield 155, 3) := by decide +kernel
theorem dX7_request_164 : decode cX7_request 164 = .ok (.dup_x1, 1) := by decide +kernel
theorem dX7_request_165 : decode cX7_request 165 = .ok (.iconst 1, 1) := by decide +kernel
theorem dX7_request_166 : decode cX7_request 166 = .ok (.iadd, 1) := by decide +kernel
theorem dX7_request_167 : decode cX7_request 167 = .ok (.putfield 155, 3) := by decide +kernel
theorem dX7_request_170 : decode cX7_request 170 = .ok (.ireturn, 1) := by decide +kernel
theorem dX7_noRequest_0 : decode cX7_noRequest 0 = .ok (.aload_n 0, 1) := by decide +kernel
theorem dX7_noRequest_1 : decode cX7_noRequest 1 = .ok (.iload_n 1, 1) := by decide +kernel
theorem dX7_noRequest_2 : decode cX7_noRequest 2 = .ok (.iconst 0, 1) := by decide +kernel
theorem dX7_noRequest_3 : decode cX7_noRequest 3 = .ok (.aload_n 0, 1) := by decide +kernel
theorem dX7_noRequest_4 : decode cX7_noRequest 4 = .ok (.getfield 155, 3) := by decide +kernel
theorem dX7_noRequest_7 : decode cX7_noRequest 7 = .ok (.iconst 1, 1) := by decide +kernel
theorem dX7_noRequest_8 : decode cX7_noRequest 8 = .ok (.isub, 1) := by decide +kernel
theorem dX7_noRequest_9 : decode cX7_noRequest 9 = .ok (.invokestatic 85, 3) := by decide +kernel
theorem dX7_noRequest_12 : decode cX7_noRequest 12 = .ok (.ifCond .eq 7, 3) := by decide +kernel
theorem dX7_noRequest_15 : decode cX7_noRequest 15 = .ok (.iconst 0, 1) := by decide +kernel
theorem dX7_noRequest_16 : decode cX7_noRequest 16 = .ok (.goto 4, 3) := by decide +kernel
theorem dX7_noRequest_19 : decode cX7_noRequest 19 = .ok (.iconst 1, 1) := by decide +kernel
theorem dX7_noRequest_20 : decode cX7_noRequest 20 = .ok (.putfield 79, 3) := by decide +kernel
theorem dX7_noRequest_23 : decode cX7_noRequest 23 = .ok (.aload_n 0, 1) := by decide +kernel
theorem dX7_noRequest_24 : decode cX7_noRequest 24 = .ok (.getfield 79, 3) := by decide +kernel
theorem dX7_noRequest_27 : decode cX7_noRequest 27 = .ok (.ifCond .eq 7, 3) := by decide +kernel
theorem dX7_noRequest_30 : decode cX7_noRequest 30 = .ok (.iconst 1, 1) := by decide +kernel
theorem dX7_noRequest_31 : decode cX7_noRequest 31 = .ok (.goto 4, 3) := by decide +kernel
theorem dX7_noRequest_34 : decode cX7_noRequest 34 = .ok (.iconst 0, 1) := by decide +kernel
theorem dX7_noRequest_35 : decode cX7_noRequest 35 = .ok (.ireturn, 1) := by decide +kernel
theorem dX7_state_0 : decode cX7_state 0 = .ok (.aload_n 0, 1) := by decide +kernel
theorem dX7_state_1 : decode cX7_state 1 = .ok (.iload_n 1, 1) := by decide +kernel
theorem dX7_state_2 : decode cX7_state 2 = .ok (.invokevirtual 158, 3) := by decide +kernel
theorem dX7_state_5 : decode cX7_state 5 = .ok (.ifCond .eq 8, 3) := by decide +kernel
theorem dX7_state_8 : decode cX7_state 8 = .ok (.bipush 119, 2) := by decide +kernel
theorem dX7_state_10 : decode cX7_state 10 = .ok (.goto 9, 3) := by decide +kernel
theorem dX7_state_13 : decode cX7_state 13 = .ok (.aload_n 0, 1) := by decide +kernel
theorem dX7_state_14 : decode cX7_state 14 = .ok (.getfield 75, 3) := by decide +kernel
theorem dX7_state_17 : decode cX7_state 17 = .ok (.iload_n 1, 1) := by decide +kernel
theorem dX7_state_18 : decode cX7_state 18 = .ok (.caload, 1) := by decide +kernel
theorem dX7_state_19 : decode cX7_state 19 = .ok (.ireturn, 1) := by decide +kernel
theorem dX7_answer_0 : decode cX7_answer 0 = .ok (.aload_n 0, 1) := by decide +kernel
theorem dX7_answer_1 : decode cX7_answer 1 = .ok (.iload_n 1, 1) := by decide +kernel
theorem dX7_answer_2 : decode cX7_answer 2 = .ok (.invokevirtual 158, 3) := by decide +kernel
theorem dX7_answer_5 : decode cX7_answer 5 = .ok (.ifCond .eq 5, 3) := by decide +kernel
theorem dX7_answer_8 : decode cX7_answer 8 = .ok (.iconst 0, 1) := by decide +kernel
theorem dX7_answer_9 : decode cX7_answer 9 = .ok (.ireturn, 1) := by decide +kernel
theorem dX7_answer_10 : decode cX7_answer 10 = .ok (.aload_n 0, 1) := by decide +kernel
theorem dX7_answer_11 : decode cX7_answer 11 = .ok (.getfield 75, 3) := by decide +kernel
theorem dX7_answer_14 : decode cX7_answer 14 = .ok (.iload_n 1, 1) := by decide +kernel
theorem dX7_answer_15 : decode cX7_answer 15 = .ok (.caload, 1) := by decide +kernel
theorem dX7_answer_16 : decode cX7_answer 16 = .ok (.bipush 119, 2) := by decide +kernel
theorem dX7_answer_18 : decode cX7_answer 18 = .ok (.if_icmp .eq 9, 3) := by decide +kernel
theorem dX7_answer_21 : decode cX7_answer 21 = .ok (.aload_n 0, 1) := by decide +kernel
theorem dX7_answer_22 : decode cX7_answer 22 = .ok (.iconst 2, 1) := by decide +kernel
theorem dX7_answer_23 : decode cX7_answer 23 = .ok (.invokevirtual 92, 3) := by decide +kernel
theorem dX7_answer_26 : decode cX7_answer 26 = .ok (.ireturn, 1) := by decide +kernel
theorem dX7_answer_27 : decode cX7_answer 27 = .ok (.aload_n 0, 1) := by decide +kernel
theorem dX7_answer_28 : decode cX7_answer 28 = .ok (.getfield 50, 3) := by decide +kernel
theorem dX7_answer_31 : decode cX7_answer 31 = .ok (.iload_n 1, 1) := by decide +kernel
theorem dX7_answer_32 : decode cX7_answer 32 = .ok (.iaload, 1) := by decide +kernel
theorem dX7_answer_33 : decode cX7_answer 33 = .ok (.istore_n 2, 1) := by decide +kernel
theorem dX7_answer_34 : decode cX7_answer 34 = .ok (.iconst 0, 1) := by decide +kernel
theorem dX7_answer_35 : decode cX7_answer 35 = .ok (.istore_n 3, 1) := by decide +kernel
theorem dX7_answer_36 : decode cX7_answer 36 = .ok (.iconst 0, 1) := by decide +kernel
theorem dX7_answer_37 : decode cX7_answer 37 = .ok (.istore 4, 2) := by decide +kernel
theorem dX7_answer_39 : decode cX7_answer 39 = .ok (.iload 4, 2) := by decide +kernel
theorem dX7_answer_41 : decode cX7_answer 41 = .ok (.aload_n 0, 1) := by decide +kernel
theorem dX7_answer_42 : decode cX7_answer 42 = .ok (.getfield 89, 3) := by decide +kernel
theorem dX7_answer_45 : decode cX7_answer 45 = .ok (.if_icmp .ge 76, 3) := by decide +kernel
theorem dX7_answer_48 : decode cX7_answer 48 = .ok (.aload_n 0, 1) := by decide +kernel
theorem dX7_answer_49 : decode cX7_answer 49 = .ok (.getfield 13, 3) := by decide +kernel
theorem dX7_answer_52 : decode cX7_answer 52 = .ok (.iload 4, 2) := by decide +kernel
theorem dX7_answer_54 : decode cX7_answer 54 = .ok (.iaload, 1) := by decide +kernel
theorem dX7_answer_55 : decode cX7_answer 55 = .ok (.aload_n 0, 1) := by decide +kernel
theorem dX7_answer_56 : decode cX7_answer 56 = .ok (.getfield 53, 3) := by decide +kernel
theorem dX7_answer_59 : decode cX7_answer 59 = .ok (.iload_n 1, 1) := by decide +kernel
theorem dX7_answer_60 : decode cX7_answer 60 = .ok (.iaload, 1) := by decide +kernel
theorem dX7_answer_61 : decode cX7_answer 61 = .ok (.if_icmp .ne 54, 3) := by decide +kernel
theorem dX7_answer_64 : decode cX7_answer 64 = .ok (.aload_n 0, 1) := by decide +kernel
theorem dX7_answer_65 : decode cX7_answer 65 = .ok (.getfield 69, 3) := by decide +kernel
theorem dX7_answer_68 : decode cX7_answer 68 = .ok (.bipush 40, 2) := by decide +kernel
theorem dX7_answer_70 : decode cX7_answer 70 = .ok (.iload_n 2, 1) := by decide +kernel
theorem dX7_answer_71 : decode cX7_answer 71 = .ok (.imul, 1) := by decide +kernel
theorem dX7_answer_72 : decode cX7_answer 72 = .ok (.iload 4, 2) := by decide +kernel
theorem dX7_answer_74 : decode cX7_answer 74 = .ok (.iadd, 1) := by decide +kernel
theorem dX7_answer_75 : decode cX7_answer 75 = .ok (.baload, 1) := by decide +kernel
theorem dX7_answer_76 : decode cX7_answer 76 = .ok (.ifCond .ne 39, 3) := by decide +kernel
theorem dX7_answer_79 : decode cX7_answer 79 = .ok (.aload_n 0, 1) := by decide +kernel
theorem dX7_answer_80 : decode cX7_answer 80 = .ok (.iload_n 2, 1) := by decide +kernel
theorem dX7_answer_81 : decode cX7_answer 81 = .ok (.iload 4, 2) := by decide +kernel
theorem dX7_answer_83 : decode cX7_answer 83 = .ok (.invokevirtual 148, 3) := by decide +kernel
theorem dX7_answer_86 : decode cX7_answer 86 = .ok (.bipush 45, 2) := by decide +kernel
theorem dX7_answer_88 : decode cX7_answer 88 = .ok (.if_icmp .eq 6, 3) := by decide +kernel
theorem dX7_answer_91 : decode cX7_answer 91 = .ok (.goto 24, 3) := by decide +kernel
theorem dX7_answer_94 : decode cX7_answer 94 = .ok (.aload_n 0, 1) := by decide +kernel
theorem dX7_answer_95 : decode cX7_answer 95 = .ok (.getfield 69, 3) := by decide +kernel
theorem dX7_answer_98 : decode cX7_answer 98 = .ok (.bipush 40, 2) := by decide +kernel
theorem dX7_answer_100 : decode cX7_answer 100 = .ok (.iload_n 2, 1) := by decide +kernel
theorem dX7_answer_101 : decode cX7_answer 101 = .ok (.imul, 1) := by decide +kernel
theorem dX7_answer_102 : decode cX7_answer 102 = .ok (.iload 4, 2) := by decide +kernel
theorem dX7_answer_104 : decode cX7_answer 104 = .ok (.iadd, 1) := by decide +kernel
theorem dX7_answer_105 : decode cX7_answer 105 = .ok (.iconst 1, 1) := by decide +kernel
theorem dX7_answer_106 : decode cX7_answer 106 = .ok (.bastore, 1) := by decide +kernel
theorem dX7_answer_107 : decode cX7_answer 107 = .ok (.aload_n 0, 1) := by decide +kernel
theorem dX7_answer_108 : decode cX7_answer 108 = .ok (.iload_n 2, 1) := by decide +kernel
theorem dX7_answer_109 : decode cX7_answer 109 = .ok (.invokevirtual 131, 3) := by decide +kernel
theorem dX7_answer_112 : decode cX7_answer 112 = .ok (.iinc 3 1, 3) := by decide +kernel
theorem dX7_answer_115 : decode cX7_answer 115 = .ok (.iinc 4 1, 3) := by decide +kernel
theorem dX7_answer_118 : decode cX7_answer 118 = .ok (.goto (-79), 3) := by decide +kernel
theorem dX7_answer_121 : decode cX7_answer 121 = .ok (.aload_n 0, 1) := by decide +kernel
theorem dX7_answer_122 : decode cX7_answer 122 = .ok (.getfield 75, 3) := by decide +kernel
theorem dX7_answer_125 : decode cX7_answer 125 = .ok (.iload_n 1, 1) := by decide +kernel
theorem dX7_answer_126 : decode cX7_answer 126 = .ok (.bipush 97, 2) := by decide +kernel
theorem dX7_answer_128 : decode cX7_answer 128 = .ok (.castore, 1) := by decide +kernel
theorem dX7_answer_129 : decode cX7_answer 129 = .ok (.aload_n 0, 1) := by decide +kernel
theorem dX7_answer_130 : decode cX7_answer 130 = .ok (.getfield 62, 3) := by decide +kernel
theorem dX7_answer_133 : decode cX7_answer 133 = .ok (.iload_n 2, 1) := by decide +kernel
theorem dX7_answer_134 : decode cX7_answer 134 = .ok (.dup2, 1) := by decide +kernel
theorem dX7_answer_135 : decode cX7_answer 135 = .ok (.iaload, 1) := by decide +kernel
theorem dX7_answer_136 : decode cX7_answer 136 = .ok (.iload_n 3, 1) := by decide +kernel
theorem dX7_answer_137 : decode cX7_answer 137 = .ok (.iadd, 1) := by decide +kernel
theorem dX7_answer_138 : decode cX7_answer 138 = .ok (.iastore, 1) := by decide +kernel
theorem dX7_answer_139 : decode cX7_answer 139 = .ok (.aload_n 0, 1) := by decide +kernel
theorem dX7_answer_140 : decode cX7_answer 140 = .ok (.getfield 59, 3) := by decide +kernel
theorem dX7_answer_143 : decode cX7_answer 143 = .ok (.iload_n 2, 1) := by decide +kernel
theorem dX7_answer_144 : decode cX7_answer 144 = .ok (.dup2, 1) := by decide +kernel
theorem dX7_answer_145 : decode cX7_answer 145 = .ok (.iaload, 1) := by decide +kernel
theorem dX7_answer_146 : decode cX7_answer 146 = .ok (.aload_n 0, 1) := by decide +kernel
theorem dX7_answer_147 : decode cX7_answer 147 = .ok (.getfield 7, 3) := by decide +kernel
theorem dX7_answer_150 : decode cX7_answer 150 = .ok (.iload_n 3, 1) := by decide +kernel
theorem dX7_answer_151 : decode cX7_answer 151 = .ok (.imul, 1) := by decide +kernel
theorem dX7_answer_152 : decode cX7_answer 152 = .ok (.iadd, 1) := by decide +kernel
theorem dX7_answer_153 : decode cX7_answer 153 = .ok (.iastore, 1) := by decide +kernel
theorem dX7_answer_154 : decode cX7_answer 154 = .ok (.aload_n 0, 1) := by decide +kernel
theorem dX7_answer_155 : decode cX7_answer 155 = .ok (.dup, 1) := by decide +kernel
theorem dX7_answer_156 : decode cX7_answer 156 = .ok (.getfield 161, 3) := by decide +kernel
theorem dX7_answer_159 : decode cX7_answer 159 = .ok (.aload_n 0, 1) := by decide +kernel
theorem dX7_answer_160 : decode cX7_answer 160 = .ok (.getfield 7, 3) := by decide +kernel
theorem dX7_answer_163 : decode cX7_answer 163 = .ok (.iload_n 3, 1) := by decide +kernel
theorem dX7_answer_164 : decode cX7_answer 164 = .ok (.imul, 1) := by decide +kernel
theorem dX7_answer_165 : decode cX7_answer 165 = .ok (.i2l, 1) := by decide +kernel
theorem dX7_answer_166 : decode cX7_answer 166 = .ok (.ladd, 1) := by decide +kernel
theorem dX7_answer_167 : decode cX7_answer 167 = .ok (.putfield 161, 3) := by decide +kernel
theorem dX7_answer_170 : decode cX7_answer 170 = .ok (.iload_n 3, 1) := by decide +kernel
theorem dX7_answer_171 : decode cX7_answer 171 = .ok (.ireturn, 1) := by decide +kernel
theorem dX7_withdraw_0 : decode cX7_withdraw 0 = .ok (.aload_n 0, 1) := by decide +kernel
theorem dX7_withdraw_1 : decode cX7_withdraw 1 = .ok (.iload_n 1, 1) := by decide +kernel
theorem dX7_withdraw_2 : decode cX7_withdraw 2 = .ok (.invokevirtual 158, 3) := by decide +kernel
theorem dX7_withdraw_5 : decode cX7_withdraw 5 = .ok (.ifCond .eq 5, 3) := by decide +kernel
theorem dX7_withdraw_8 : decode cX7_withdraw 8 = .ok (.iconst 0, 1) := by decide +kernel
theorem dX7_withdraw_9 : decode cX7_withdraw 9 = .ok (.ireturn, 1) := by decide +kernel
theorem dX7_withdraw_10 : decode cX7_withdraw 10 = .ok (.aload_n 0, 1) := by decide +kernel
theorem dX7_withdraw_11 : decode cX7_withdraw 11 = .ok (.getfield 75, 3) := by decide +kernel
theorem dX7_withdraw_14 : decode cX7_withdraw 14 = .ok (.iload_n 1, 1) := by decide +kernel
theorem dX7_withdraw_15 : decode cX7_withdraw 15 = .ok (.caload, 1) := by decide +kernel
theorem dX7_withdraw_16 : decode cX7_withdraw 16 = .ok (.bipush 119, 2) := by decide +kernel
theorem dX7_withdraw_18 : decode cX7_withdraw 18 = .ok (.if_icmp .eq 9, 3) := by decide +kernel
theorem dX7_withdraw_21 : decode cX7_withdraw 21 = .ok (.aload_n 0, 1) := by decide +kernel
theorem dX7_withdraw_22 : decode cX7_withdraw 22 = .ok (.iconst 2, 1) := by decide +kernel
theorem dX7_withdraw_23 : decode cX7_withdraw 23 = .ok (.invokevirtual 92, 3) := by decide +kernel
theorem dX7_withdraw_26 : decode cX7_withdraw 26 = .ok (.ireturn, 1) := by decide +kernel
theorem dX7_withdraw_27 : decode cX7_withdraw 27 = .ok (.aload_n 0, 1) := by decide +kernel
theorem dX7_withdraw_28 : decode cX7_withdraw 28 = .ok (.getfield 75, 3) := by decide +kernel
theorem dX7_withdraw_31 : decode cX7_withdraw 31 = .ok (.iload_n 1, 1) := by decide +kernel
theorem dX7_withdraw_32 : decode cX7_withdraw 32 = .ok (.bipush 120, 2) := by decide +kernel
theorem dX7_withdraw_34 : decode cX7_withdraw 34 = .ok (.castore, 1) := by decide +kernel
theorem dX7_withdraw_35 : decode cX7_withdraw 35 = .ok (.iconst 0, 1) := by decide +kernel
theorem dX7_withdraw_36 : decode cX7_withdraw 36 = .ok (.istore_n 2, 1) := by decide +kernel
theorem dX7_withdraw_37 : decode cX7_withdraw 37 = .ok (.iconst 0, 1) := by decide +kernel
theorem dX7_withdraw_38 : decode cX7_withdraw 38 = .ok (.istore_n 3, 1) := by decide +kernel
theorem dX7_withdraw_39 : decode cX7_withdraw 39 = .ok (.iload_n 3, 1) := by decide +kernel
theorem dX7_withdraw_40 : decode cX7_withdraw 40 = .ok (.aload_n 0, 1) := by decide +kernel
theorem dX7_withdraw_41 : decode cX7_withdraw 41 = .ok (.getfield 155, 3) := by decide +kernel
theorem dX7_withdraw_44 : decode cX7_withdraw 44 = .ok (.if_icmp .ge 28, 3) := by decide +kernel
theorem dX7_withdraw_47 : decode cX7_withdraw 47 = .ok (.iload_n 2, 1) := by decide +kernel
theorem dX7_withdraw_48 : decode cX7_withdraw 48 = .ok (.aload_n 0, 1) := by decide +kernel
theorem dX7_withdraw_49 : decode cX7_withdraw 49 = .ok (.getfield 75, 3) := by decide +kernel
theorem dX7_withdraw_52 : decode cX7_withdraw 52 = .ok (.iload_n 3, 1) := by decide +kernel
theorem dX7_withdraw_53 : decode cX7_withdraw 53 = .ok (.caload, 1) := by decide +kernel
theorem dX7_withdraw_54 : decode cX7_withdraw 54 = .ok (.bipush 119, 2) := by decide +kernel
theorem dX7_withdraw_56 : decode cX7_withdraw 56 = .ok (.if_icmp .ne 7, 3) := by decide +kernel
theorem dX7_withdraw_59 : decode cX7_withdraw 59 = .ok (.iconst 1, 1) := by decide +kernel
theorem dX7_withdraw_60 : decode cX7_withdraw 60 = .ok (.goto 4, 3) := by decide +kernel
theorem dX7_withdraw_63 : decode cX7_withdraw 63 = .ok (.iconst 0, 1) := by decide +kernel
theorem dX7_withdraw_64 : decode cX7_withdraw 64 = .ok (.iadd, 1) := by decide +kernel
theorem dX7_withdraw_65 : decode cX7_withdraw 65 = .ok (.istore_n 2, 1) := by decide +kernel
theorem dX7_withdraw_66 : decode cX7_withdraw 66 = .ok (.iinc 3 1, 3) := by decide +kernel
theorem dX7_withdraw_69 : decode cX7_withdraw 69 = .ok (.goto (-30), 3) := by decide +kernel
theorem dX7_withdraw_72 : decode cX7_withdraw 72 = .ok (.iload_n 2, 1) := by decide +kernel
theorem dX7_withdraw_73 : decode cX7_withdraw 73 = .ok (.ireturn, 1) := by decide +kernel
theorem dX7_setPrice_0 : decode cX7_setPrice 0 = .ok (.iload_n 1, 1) := by decide +kernel
theorem dX7_setPrice_1 : decode cX7_setPrice 1 = .ok (.iconst 0, 1) := by decide +kernel
theorem dX7_setPrice_2 : decode cX7_setPrice 2 = .ok (.bipush 99, 2) := by decide +kernel
theorem dX7_setPrice_4 : decode cX7_setPrice 4 = .ok (.invokestatic 85, 3) := by decide +kernel
theorem dX7_setPrice_7 : decode cX7_setPrice 7 = .ok (.ifCond .ne 9, 3) := by decide +kernel
theorem dX7_setPrice_10 : decode cX7_setPrice 10 = .ok (.aload_n 0, 1) := by decide +kernel
theorem dX7_setPrice_11 : decode cX7_setPrice 11 = .ok (.iconst 1, 1) := by decide +kernel
theorem dX7_setPrice_12 : decode cX7_setPrice 12 = .ok (.invokevirtual 92, 3) := by decide +kernel
theorem dX7_setPrice_15 : decode cX7_setPrice 15 = .ok (.ireturn, 1) := by decide +kernel
theorem dX7_setPrice_16 : decode cX7_setPrice 16 = .ok (.aload_n 0, 1) := by decide +kernel
theorem dX7_setPrice_17 : decode cX7_setPrice 17 = .ok (.iconst 0, 1) := by decide +kernel
theorem dX7_setPrice_18 : decode cX7_setPrice 18 = .ok (.putfield 79, 3) := by decide +kernel
theorem dX7_setPrice_21 : decode cX7_setPrice 21 = .ok (.aload_n 0, 1) := by decide +kernel
theorem dX7_setPrice_22 : decode cX7_setPrice 22 = .ok (.getfield 7, 3) := by decide +kernel
theorem dX7_setPrice_25 : decode cX7_setPrice 25 = .ok (.istore_n 2, 1) := by decide +kernel
theorem dX7_setPrice_26 : decode cX7_setPrice 26 = .ok (.aload_n 0, 1) := by decide +kernel
theorem dX7_setPrice_27 : decode cX7_setPrice 27 = .ok (.iload_n 1, 1) := by decide +kernel
theorem dX7_setPrice_28 : decode cX7_setPrice 28 = .ok (.putfield 7, 3) := by decide +kernel
theorem dX7_setPrice_31 : decode cX7_setPrice 31 = .ok (.iload_n 2, 1) := by decide +kernel
theorem dX7_setPrice_32 : decode cX7_setPrice 32 = .ok (.ireturn, 1) := by decide +kernel
theorem dX7_owed_0 : decode cX7_owed 0 = .ok (.aload_n 0, 1) := by decide +kernel
theorem dX7_owed_1 : decode cX7_owed 1 = .ok (.iload_n 1, 1) := by decide +kernel
theorem dX7_owed_2 : decode cX7_owed 2 = .ok (.invokevirtual 135, 3) := by decide +kernel
theorem dX7_owed_5 : decode cX7_owed 5 = .ok (.ifCond .eq 7, 3) := by decide +kernel
theorem dX7_owed_8 : decode cX7_owed 8 = .ok (.iconst 0, 1) := by decide +kernel
theorem dX7_owed_9 : decode cX7_owed 9 = .ok (.goto 9, 3) := by decide +kernel
theorem dX7_owed_12 : decode cX7_owed 12 = .ok (.aload_n 0, 1) := by decide +kernel
theorem dX7_owed_13 : decode cX7_owed 13 = .ok (.getfield 59, 3) := by decide +kernel
theorem dX7_owed_16 : decode cX7_owed 16 = .ok (.iload_n 1, 1) := by decide +kernel
theorem dX7_owed_17 : decode cX7_owed 17 = .ok (.iaload, 1) := by decide +kernel
theorem dX7_owed_18 : decode cX7_owed 18 = .ok (.ireturn, 1) := by decide +kernel
theorem dX7_pay_0 : decode cX7_pay 0 = .ok (.aload_n 0, 1) := by decide +kernel
theorem dX7_pay_1 : decode cX7_pay 1 = .ok (.iload_n 1, 1) := by decide +kernel
theorem dX7_pay_2 : decode cX7_pay 2 = .ok (.invokevirtual 135, 3) := by decide +kernel
theorem dX7_pay_5 : decode cX7_pay 5 = .ok (.ifCond .eq 5, 3) := by decide +kernel
theorem dX7_pay_8 : decode cX7_pay 8 = .ok (.iconst 0, 1) := by decide +kernel
theorem dX7_pay_9 : decode cX7_pay 9 = .ok (.ireturn, 1) := by decide +kernel
theorem dX7_pay_10 : decode cX7_pay 10 = .ok (.iload_n 2, 1) := by decide +kernel
theorem dX7_pay_11 : decode cX7_pay 11 = .ok (.iconst 1, 1) := by decide +kernel
theorem dX7_pay_12 : decode cX7_pay 12 = .ok (.aload_n 0, 1) := by decide +kernel
theorem dX7_pay_13 : decode cX7_pay 13 = .ok (.getfield 59, 3) := by decide +kernel
theorem dX7_pay_16 : decode cX7_pay 16 = .ok (.iload_n 1, 1) := by decide +kernel
theorem dX7_pay_17 : decode cX7_pay 17 = .ok (.iaload, 1) := by decide +kernel
theorem dX7_pay_18 : decode cX7_pay 18 = .ok (.invokestatic 85, 3) := by decide +kernel
theorem dX7_pay_21 : decode cX7_pay 21 = .ok (.ifCond .ne 9, 3) := by decide +kernel
theorem dX7_pay_24 : decode cX7_pay 24 = .ok (.aload_n 0, 1) := by decide +kernel
theorem dX7_pay_25 : decode cX7_pay 25 = .ok (.iconst 1, 1) := by decide +kernel
theorem dX7_pay_26 : decode cX7_pay 26 = .ok (.invokevirtual 92, 3) := by decide +kernel
theorem dX7_pay_29 : decode cX7_pay 29 = .ok (.ireturn, 1) := by decide +kernel
theorem dX7_pay_30 : decode cX7_pay 30 = .ok (.aload_n 0, 1) := by decide +kernel
theorem dX7_pay_31 : decode cX7_pay 31 = .ok (.getfield 59, 3) := by decide +kernel
theorem dX7_pay_34 : decode cX7_pay 34 = .ok (.iload_n 1, 1) := by decide +kernel
theorem dX7_pay_35 : decode cX7_pay 35 = .ok (.dup2, 1) := by decide +kernel
theorem dX7_pay_36 : decode cX7_pay 36 = .ok (.iaload, 1) := by decide +kernel
theorem dX7_pay_37 : decode cX7_pay 37 = .ok (.iload_n 2, 1) := by decide +kernel
theorem dX7_pay_38 : decode cX7_pay 38 = .ok (.isub, 1) := by decide +kernel
theorem dX7_pay_39 : decode cX7_pay 39 = .ok (.iastore, 1) := by decide +kernel
theorem dX7_pay_40 : decode cX7_pay 40 = .ok (.aload_n 0, 1) := by decide +kernel
theorem dX7_pay_41 : decode cX7_pay 41 = .ok (.getfield 59, 3) := by decide +kernel
theorem dX7_pay_44 : decode cX7_pay 44 = .ok (.iload_n 1, 1) := by decide +kernel
theorem dX7_pay_45 : decode cX7_pay 45 = .ok (.iaload, 1) := by decide +kernel
theorem dX7_pay_46 : decode cX7_pay 46 = .ok (.ireturn, 1) := by decide +kernel
theorem dX7_lateOnes_0 : decode cX7_lateOnes 0 = .ok (.iconst 0, 1) := by decide +kernel
theorem dX7_lateOnes_1 : decode cX7_lateOnes 1 = .ok (.istore_n 1, 1) := by decide +kernel
theorem dX7_lateOnes_2 : decode cX7_lateOnes 2 = .ok (.iconst 0, 1) := by decide +kernel
theorem dX7_lateOnes_3 : decode cX7_lateOnes 3 = .ok (.istore_n 2, 1) := by decide +kernel
theorem dX7_lateOnes_4 : decode cX7_lateOnes 4 = .ok (.iload_n 2, 1) := by decide +kernel
theorem dX7_lateOnes_5 : decode cX7_lateOnes 5 = .ok (.aload_n 0, 1) := by decide +kernel
theorem dX7_lateOnes_6 : decode cX7_lateOnes 6 = .ok (.getfield 155, 3) := by decide +kernel
theorem dX7_lateOnes_9 : decode cX7_lateOnes 9 = .ok (.if_icmp .ge 44, 3) := by decide +kernel
theorem dX7_lateOnes_12 : decode cX7_lateOnes 12 = .ok (.iload_n 1, 1) := by decide +kernel
theorem dX7_lateOnes_13 : decode cX7_lateOnes 13 = .ok (.aload_n 0, 1) := by decide +kernel
theorem dX7_lateOnes_14 : decode cX7_lateOnes 14 = .ok (.getfield 75, 3) := by decide +kernel
theorem dX7_lateOnes_17 : decode cX7_lateOnes 17 = .ok (.iload_n 2, 1) := by decide +kernel
theorem dX7_lateOnes_18 : decode cX7_lateOnes 18 = .ok (.caload, 1) := by decide +kernel
theorem dX7_lateOnes_19 : decode cX7_lateOnes 19 = .ok (.bipush 119, 2) := by decide +kernel
theorem dX7_lateOnes_21 : decode cX7_lateOnes 21 = .ok (.if_icmp .ne 23, 3) := by decide +kernel
theorem dX7_lateOnes_24 : decode cX7_lateOnes 24 = .ok (.aload_n 0, 1) := by decide +kernel
theorem dX7_lateOnes_25 : decode cX7_lateOnes 25 = .ok (.getfield 106, 3) := by decide +kernel
theorem dX7_lateOnes_28 : decode cX7_lateOnes 28 = .ok (.aload_n 0, 1) := by decide +kernel
theorem dX7_lateOnes_29 : decode cX7_lateOnes 29 = .ok (.getfield 56, 3) := by decide +kernel
theorem dX7_lateOnes_32 : decode cX7_lateOnes 32 = .ok (.iload_n 2, 1) := by decide +kernel
theorem dX7_lateOnes_33 : decode cX7_lateOnes 33 = .ok (.iaload, 1) := by decide +kernel
theorem dX7_lateOnes_34 : decode cX7_lateOnes 34 = .ok (.isub, 1) := by decide +kernel
theorem dX7_lateOnes_35 : decode cX7_lateOnes 35 = .ok (.bipush 20, 2) := by decide +kernel
theorem dX7_lateOnes_37 : decode cX7_lateOnes 37 = .ok (.if_icmp .le 7, 3) := by decide +kernel
theorem dX7_lateOnes_40 : decode cX7_lateOnes 40 = .ok (.iconst 1, 1) := by decide +kernel
theorem dX7_lateOnes_41 : decode cX7_lateOnes 41 = .ok (.goto 4, 3) := by decide +kernel
theorem dX7_lateOnes_44 : decode cX7_lateOnes 44 = .ok (.iconst 0, 1) := by decide +kernel
theorem dX7_lateOnes_45 : decode cX7_lateOnes 45 = .ok (.iadd, 1) := by decide +kernel
theorem dX7_lateOnes_46 : decode cX7_lateOnes 46 = .ok (.istore_n 1, 1) := by decide +kernel
theorem dX7_lateOnes_47 : decode cX7_lateOnes 47 = .ok (.iinc 2 1, 3) := by decide +kernel
theorem dX7_lateOnes_50 : decode cX7_lateOnes 50 = .ok (.goto (-46), 3) := by decide +kernel
theorem dX7_lateOnes_53 : decode cX7_lateOnes 53 = .ok (.iload_n 1, 1) := by decide +kernel
theorem dX7_lateOnes_54 : decode cX7_lateOnes 54 = .ok (.ireturn, 1) := by decide +kernel
theorem dX7_pass_0 : decode cX7_pass 0 = .ok (.iload_n 1, 1) := by decide +kernel
theorem dX7_pass_1 : decode cX7_pass 1 = .ok (.iconst 1, 1) := by decide +kernel
theorem dX7_pass_2 : decode cX7_pass 2 = .ok (.bipush 90, 2) := by decide +kernel
theorem dX7_pass_4 : decode cX7_pass 4 = .ok (.invokestatic 85, 3) := by decide +kernel
theorem dX7_pass_7 : decode cX7_pass 7 = .ok (.ifCond .eq 15, 3) := by decide +kernel
theorem dX7_pass_10 : decode cX7_pass 10 = .ok (.aload_n 0, 1) := by decide +kernel
theorem dX7_pass_11 : decode cX7_pass 11 = .ok (.getfield 106, 3) := by decide +kernel
theorem dX7_pass_14 : decode cX7_pass 14 = .ok (.iload_n 1, 1) := by decide +kernel
theorem dX7_pass_15 : decode cX7_pass 15 = .ok (.iadd, 1) := by decide +kernel
theorem dX7_pass_16 : decode cX7_pass 16 = .ok (.sipush 9999, 3) := by decide +kernel
theorem dX7_pass_19 : decode cX7_pass 19 = .ok (.if_icmp .le 9, 3) := by decide +kernel
theorem dX7_pass_22 : decode cX7_pass 22 = .ok (.aload_n 0, 1) := by decide +kernel
theorem dX7_pass_23 : decode cX7_pass 23 = .ok (.iconst 1, 1) := by decide +kernel
theorem dX7_pass_24 : decode cX7_pass 24 = .ok (.invokevirtual 92, 3) := by decide +kernel
theorem dX7_pass_27 : decode cX7_pass 27 = .ok (.ireturn, 1) := by decide +kernel
theorem dX7_pass_28 : decode cX7_pass 28 = .ok (.aload_n 0, 1) := by decide +kernel
theorem dX7_pass_29 : decode cX7_pass 29 = .ok (.iconst 0, 1) := by decide +kernel
theorem dX7_pass_30 : decode cX7_pass 30 = .ok (.putfield 79, 3) := by decide +kernel
theorem dX7_pass_33 : decode cX7_pass 33 = .ok (.aload_n 0, 1) := by decide +kernel
theorem dX7_pass_34 : decode cX7_pass 34 = .ok (.invokevirtual 165, 3) := by decide +kernel
theorem dX7_pass_37 : decode cX7_pass 37 = .ok (.istore_n 2, 1) := by decide +kernel
theorem dX7_pass_38 : decode cX7_pass 38 = .ok (.aload_n 0, 1) := by decide +kernel
theorem dX7_pass_39 : decode cX7_pass 39 = .ok (.dup, 1) := by decide +kernel
theorem dX7_pass_40 : decode cX7_pass 40 = .ok (.getfield 106, 3) := by decide +kernel
theorem dX7_pass_43 : decode cX7_pass 43 = .ok (.iload_n 1, 1) := by decide +kernel
theorem dX7_pass_44 : decode cX7_pass 44 = .ok (.iadd, 1) := by decide +kernel
theorem dX7_pass_45 : decode cX7_pass 45 = .ok (.putfield 106, 3) := by decide +kernel
theorem dX7_pass_48 : decode cX7_pass 48 = .ok (.aload_n 0, 1) := by decide +kernel
theorem dX7_pass_49 : decode cX7_pass 49 = .ok (.invokevirtual 165, 3) := by decide +kernel
theorem dX7_pass_52 : decode cX7_pass 52 = .ok (.iload_n 2, 1) := by decide +kernel
theorem dX7_pass_53 : decode cX7_pass 53 = .ok (.isub, 1) := by decide +kernel
theorem dX7_pass_54 : decode cX7_pass 54 = .ok (.ireturn, 1) := by decide +kernel
theorem dX7_day_0 : decode cX7_day 0 = .ok (.aload_n 0, 1) := by decide +kernel
theorem dX7_day_1 : decode cX7_day 1 = .ok (.getfield 106, 3) := by decide +kernel
theorem dX7_day_4 : decode cX7_day 4 = .ok (.ireturn, 1) := by decide +kernel
theorem dX7_late_0 : decode cX7_late 0 = .ok (.aload_n 0, 1) := by decide +kernel
theorem dX7_late_1 : decode cX7_late 1 = .ok (.invokevirtual 165, 3) := by decide +kernel
theorem dX7_late_4 : decode cX7_late 4 = .ok (.ireturn, 1) := by decide +kernel
theorem dX7_fees_0 : decode cX7_fees 0 = .ok (.aload_n 0, 1) := by decide +kernel
theorem dX7_fees_1 : decode cX7_fees 1 = .ok (.getfield 161, 3) := by decide +kernel
theorem dX7_fees_4 : decode cX7_fees 4 = .ok (.lreturn, 1) := by decide +kernel
theorem dX7_answeredShare_0 : decode cX7_answeredShare 0 = .ok (.iconst 0, 1) := by decide +kernel
theorem dX7_answeredShare_1 : decode cX7_answeredShare 1 = .ok (.istore_n 1, 1) := by decide +kernel
theorem dX7_answeredShare_2 : decode cX7_answeredShare 2 = .ok (.iconst 0, 1) := by decide +kernel
theorem dX7_answeredShare_3 : decode cX7_answeredShare 3 = .ok (.istore_n 2, 1) := by decide +kernel
theorem dX7_answeredShare_4 : decode cX7_answeredShare 4 = .ok (.iload_n 2, 1) := by decide +kernel
theorem dX7_answeredShare_5 : decode cX7_answeredShare 5 = .ok (.aload_n 0, 1) := by decide +kernel
theorem dX7_answeredShare_6 : decode cX7_answeredShare 6 = .ok (.getfield 155, 3) := by decide +kernel
theorem dX7_answeredShare_9 : decode cX7_answeredShare 9 = .ok (.if_icmp .ge 28, 3) := by decide +kernel
theorem dX7_answeredShare_12 : decode cX7_answeredShare 12 = .ok (.iload_n 1, 1) := by decide +kernel
theorem dX7_answeredShare_13 : decode cX7_answeredShare 13 = .ok (.aload_n 0, 1) := by decide +kernel
theorem dX7_answeredShare_14 : decode cX7_answeredShare 14 = .ok (.getfield 75, 3) := by decide +kernel
theorem dX7_answeredShare_17 : decode cX7_answeredShare 17 = .ok (.iload_n 2, 1) := by decide +kernel
theorem dX7_answeredShare_18 : decode cX7_answeredShare 18 = .ok (.caload, 1) := by decide +kernel
theorem dX7_answeredShare_19 : decode cX7_answeredShare 19 = .ok (.bipush 97, 2) := by decide +kernel
theorem dX7_answeredShare_21 : decode cX7_answeredShare 21 = .ok (.if_icmp .ne 7, 3) := by decide +kernel
theorem dX7_answeredShare_24 : decode cX7_answeredShare 24 = .ok (.iconst 1, 1) := by decide +kernel
theorem dX7_answeredShare_25 : decode cX7_answeredShare 25 = .ok (.goto 4, 3) := by decide +kernel
theorem dX7_answeredShare_28 : decode cX7_answeredShare 28 = .ok (.iconst 0, 1) := by decide +kernel
theorem dX7_answeredShare_29 : decode cX7_answeredShare 29 = .ok (.iadd, 1) := by decide +kernel
theorem dX7_answeredShare_30 : decode cX7_answeredShare 30 = .ok (.istore_n 1, 1) := by decide +kernel
theorem dX7_answeredShare_31 : decode cX7_answeredShare 31 = .ok (.iinc 2 1, 3) := by decide +kernel
theorem dX7_answeredShare_34 : decode cX7_answeredShare 34 = .ok (.goto (-30), 3) := by decide +kernel
theorem dX7_answeredShare_37 : decode cX7_answeredShare 37 = .ok (.aload_n 0, 1) := by decide +kernel
theorem dX7_answeredShare_38 : decode cX7_answeredShare 38 = .ok (.aload_n 0, 1) := by decide +kernel
theorem dX7_answeredShare_39 : decode cX7_answeredShare 39 = .ok (.getfield 155, 3) := by decide +kernel
theorem dX7_answeredShare_42 : decode cX7_answeredShare 42 = .ok (.ifCond .ne 7, 3) := by decide +kernel
theorem dX7_answeredShare_45 : decode cX7_answeredShare 45 = .ok (.iconst 1, 1) := by decide +kernel
theorem dX7_answeredShare_46 : decode cX7_answeredShare 46 = .ok (.goto 4, 3) := by decide +kernel
theorem dX7_answeredShare_49 : decode cX7_answeredShare 49 = .ok (.iconst 0, 1) := by decide +kernel
theorem dX7_answeredShare_50 : decode cX7_answeredShare 50 = .ok (.putfield 79, 3) := by decide +kernel
theorem dX7_answeredShare_53 : decode cX7_answeredShare 53 = .ok (.aload_n 0, 1) := by decide +kernel
theorem dX7_answeredShare_54 : decode cX7_answeredShare 54 = .ok (.getfield 155, 3) := by decide +kernel
theorem dX7_answeredShare_57 : decode cX7_answeredShare 57 = .ok (.ifCond .ne 7, 3) := by decide +kernel
theorem dX7_answeredShare_60 : decode cX7_answeredShare 60 = .ok (.fconst 0, 1) := by decide +kernel
theorem dX7_answeredShare_61 : decode cX7_answeredShare 61 = .ok (.goto 11, 3) := by decide +kernel
theorem dX7_answeredShare_64 : decode cX7_answeredShare 64 = .ok (.iload_n 1, 1) := by decide +kernel
theorem dX7_answeredShare_65 : decode cX7_answeredShare 65 = .ok (.i2f, 1) := by decide +kernel
theorem dX7_answeredShare_66 : decode cX7_answeredShare 66 = .ok (.aload_n 0, 1) := by decide +kernel
theorem dX7_answeredShare_67 : decode cX7_answeredShare 67 = .ok (.getfield 155, 3) := by decide +kernel
theorem dX7_answeredShare_70 : decode cX7_answeredShare 70 = .ok (.i2f, 1) := by decide +kernel
theorem dX7_answeredShare_71 : decode cX7_answeredShare 71 = .ok (.fdiv, 1) := by decide +kernel
theorem dX7_answeredShare_72 : decode cX7_answeredShare 72 = .ok (.freturn, 1) := by decide +kernel
