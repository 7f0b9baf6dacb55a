theorem dX0_init_0 : decode cX0_init 0 = .ok (.aload_n 0, 1) := by decide +kernel
theorem dX0_init_1 : decode cX0_init 1 = .ok (.invokespecial 3, 3) := by decide +kernel
theorem dX0_init_4 : decode cX0_init 4 = .ok (.aload_n 0, 1) := by decide +kernel
theorem dX0_init_5 : decode cX0_init 5 = .ok (.bipush 10, 2) := by decide +kernel
theorem dX0_init_7 : decode cX0_init 7 = .ok (.newarray .long, 2) := by decide +kernel
theorem dX0_init_9 : decode cX0_init 9 = .ok (.putfield 9, 3) := by decide +kernel
theorem dX0_init_12 : decode cX0_init 12 = .ok (.aload_n 0, 1) := by decide +kernel
theorem dX0_init_13 : decode cX0_init 13 = .ok (.bipush 10, 2) := by decide +kernel
theorem dX0_init_15 : decode cX0_init 15 = .ok (.newarray .long, 2) := by decide +kernel
theorem dX0_init_17 : decode cX0_init 17 = .ok (.putfield 15, 3) := by decide +kernel
theorem dX0_init_20 : decode cX0_init 20 = .ok (.return_, 1) := by decide +kernel
theorem dX0_append_0 : decode cX0_append 0 = .ok (.aload_n 0, 1) := by decide +kernel
theorem dX0_append_1 : decode cX0_append 1 = .ok (.getfield 18, 3) := by decide +kernel
theorem dX0_append_4 : decode cX0_append 4 = .ok (.bipush 10, 2) := by decide +kernel
theorem dX0_append_6 : decode cX0_append 6 = .ok (.if_icmp .lt 13, 3) := by decide +kernel
theorem dX0_append_9 : decode cX0_append 9 = .ok (.new 22, 3) := by decide +kernel
theorem dX0_append_12 : decode cX0_append 12 = .ok (.dup, 1) := by decide +kernel
theorem dX0_append_13 : decode cX0_append 13 = .ok (.ldc 24, 2) := by decide +kernel
theorem dX0_append_15 : decode cX0_append 15 = .ok (.invokespecial 26, 3) := by decide +kernel
theorem dX0_append_18 : decode cX0_append 18 = .ok (.athrow, 1) := by decide +kernel
theorem dX0_append_19 : decode cX0_append 19 = .ok (.aload_n 0, 1) := by decide +kernel
theorem dX0_append_20 : decode cX0_append 20 = .ok (.getfield 9, 3) := by decide +kernel
theorem dX0_append_23 : decode cX0_append 23 = .ok (.aload_n 0, 1) := by decide +kernel
theorem dX0_append_24 : decode cX0_append 24 = .ok (.getfield 18, 3) := by decide +kernel
theorem dX0_append_27 : decode cX0_append 27 = .ok (.iload_n 1, 1) := by decide +kernel
theorem dX0_append_28 : decode cX0_append 28 = .ok (.invokestatic 29, 3) := by decide +kernel
theorem dX0_append_31 : decode cX0_append 31 = .ok (.iload_n 2, 1) := by decide +kernel
theorem dX0_append_32 : decode cX0_append 32 = .ok (.invokestatic 29, 3) := by decide +kernel
theorem dX0_append_35 : decode cX0_append 35 = .ok (.lor, 1) := by decide +kernel
theorem dX0_append_36 : decode cX0_append 36 = .ok (.lastore, 1) := by decide +kernel
theorem dX0_append_37 : decode cX0_append 37 = .ok (.aload_n 0, 1) := by decide +kernel
theorem dX0_append_38 : decode cX0_append 38 = .ok (.getfield 15, 3) := by decide +kernel
theorem dX0_append_41 : decode cX0_append 41 = .ok (.aload_n 0, 1) := by decide +kernel
theorem dX0_append_42 : decode cX0_append 42 = .ok (.getfield 18, 3) := by decide +kernel
theorem dX0_append_45 : decode cX0_append 45 = .ok (.iload_n 3, 1) := by decide +kernel
theorem dX0_append_46 : decode cX0_append 46 = .ok (.invokestatic 29, 3) := by decide +kernel
theorem dX0_append_49 : decode cX0_append 49 = .ok (.lastore, 1) := by decide +kernel
theorem dX0_append_50 : decode cX0_append 50 = .ok (.aload_n 0, 1) := by decide +kernel
theorem dX0_append_51 : decode cX0_append 51 = .ok (.dup, 1) := by decide +kernel
theorem dX0_append_52 : decode cX0_append 52 = .ok (.getfield 18, 3) := by decide +kernel
theorem dX0_append_55 : decode cX0_append 55 = .ok (.iconst 1, 1) := by decide +kernel
theorem dX0_append_56 : decode cX0_append 56 = .ok (.iadd, 1) := by decide +kernel
theorem dX0_append_57 : decode cX0_append 57 = .ok (.putfield 18, 3) := by decide +kernel
theorem dX0_append_60 : decode cX0_append 60 = .ok (.aload_n 0, 1) := by decide +kernel
theorem dX0_append_61 : decode cX0_append 61 = .ok (.getfield 18, 3) := by decide +kernel
theorem dX0_append_64 : decode cX0_append 64 = .ok (.iconst 1, 1) := by decide +kernel
theorem dX0_append_65 : decode cX0_append 65 = .ok (.isub, 1) := by decide +kernel
theorem dX0_append_66 : decode cX0_append 66 = .ok (.ireturn, 1) := by decide +kernel
theorem dX0_closure_0 : decode cX0_closure 0 = .ok (.lload_n 1, 1) := by decide +kernel
theorem dX0_closure_1 : decode cX0_closure 1 = .ok (.lstore_n 3, 1) := by decide +kernel
theorem dX0_closure_2 : decode cX0_closure 2 = .ok (.iconst 0, 1) := by decide +kernel
theorem dX0_closure_3 : decode cX0_closure 3 = .ok (.istore 5, 2) := by decide +kernel
theorem dX0_closure_5 : decode cX0_closure 5 = .ok (.iload 5, 2) := by decide +kernel
theorem dX0_closure_7 : decode cX0_closure 7 = .ok (.aload_n 0, 1) := by decide +kernel
theorem dX0_closure_8 : decode cX0_closure 8 = .ok (.getfield 18, 3) := by decide +kernel
theorem dX0_closure_11 : decode cX0_closure 11 = .ok (.if_icmp .ge 27, 3) := by decide +kernel
theorem dX0_closure_14 : decode cX0_closure 14 = .ok (.lload_n 3, 1) := by decide +kernel
theorem dX0_closure_15 : decode cX0_closure 15 = .ok (.lstore 6, 2) := by decide +kernel
theorem dX0_closure_17 : decode cX0_closure 17 = .ok (.aload_n 0, 1) := by decide +kernel
theorem dX0_closure_18 : decode cX0_closure 18 = .ok (.lload_n 3, 1) := by decide +kernel
theorem dX0_closure_19 : decode cX0_closure 19 = .ok (.invokevirtual 33, 3) := by decide +kernel
theorem dX0_closure_22 : decode cX0_closure 22 = .ok (.lstore_n 3, 1) := by decide +kernel
theorem dX0_closure_23 : decode cX0_closure 23 = .ok (.lload_n 3, 1) := by decide +kernel
theorem dX0_closure_24 : decode cX0_closure 24 = .ok (.lload 6, 2) := by decide +kernel
theorem dX0_closure_26 : decode cX0_closure 26 = .ok (.lcmp, 1) := by decide +kernel
theorem dX0_closure_27 : decode cX0_closure 27 = .ok (.ifCond .ne 5, 3) := by decide +kernel
theorem dX0_closure_30 : decode cX0_closure 30 = .ok (.lload_n 3, 1) := by decide +kernel
theorem dX0_closure_31 : decode cX0_closure 31 = .ok (.lreturn, 1) := by decide +kernel
theorem dX0_closure_32 : decode cX0_closure 32 = .ok (.iinc 5 1, 3) := by decide +kernel
theorem dX0_closure_35 : decode cX0_closure 35 = .ok (.goto (-30), 3) := by decide +kernel
theorem dX0_closure_38 : decode cX0_closure 38 = .ok (.lload_n 3, 1) := by decide +kernel
theorem dX0_closure_39 : decode cX0_closure 39 = .ok (.lreturn, 1) := by decide +kernel
theorem dX0_addTold_0 : decode cX0_addTold 0 = .ok (.lload_n 1, 1) := by decide +kernel
theorem dX0_addTold_1 : decode cX0_addTold 1 = .ok (.lstore_n 3, 1) := by decide +kernel
theorem dX0_addTold_2 : decode cX0_addTold 2 = .ok (.iconst 0, 1) := by decide +kernel
theorem dX0_addTold_3 : decode cX0_addTold 3 = .ok (.istore 5, 2) := by decide +kernel
theorem dX0_addTold_5 : decode cX0_addTold 5 = .ok (.iload 5, 2) := by decide +kernel
theorem dX0_addTold_7 : decode cX0_addTold 7 = .ok (.aload_n 0, 1) := by decide +kernel
theorem dX0_addTold_8 : decode cX0_addTold 8 = .ok (.getfield 18, 3) := by decide +kernel
theorem dX0_addTold_11 : decode cX0_addTold 11 = .ok (.if_icmp .ge 39, 3) := by decide +kernel
theorem dX0_addTold_14 : decode cX0_addTold 14 = .ok (.lload_n 3, 1) := by decide +kernel
theorem dX0_addTold_15 : decode cX0_addTold 15 = .ok (.aload_n 0, 1) := by decide +kernel
theorem dX0_addTold_16 : decode cX0_addTold 16 = .ok (.getfield 9, 3) := by decide +kernel
theorem dX0_addTold_19 : decode cX0_addTold 19 = .ok (.iload 5, 2) := by decide +kernel
theorem dX0_addTold_21 : decode cX0_addTold 21 = .ok (.laload, 1) := by decide +kernel
theorem dX0_addTold_22 : decode cX0_addTold 22 = .ok (.land, 1) := by decide +kernel
theorem dX0_addTold_23 : decode cX0_addTold 23 = .ok (.aload_n 0, 1) := by decide +kernel
theorem dX0_addTold_24 : decode cX0_addTold 24 = .ok (.getfield 9, 3) := by decide +kernel
theorem dX0_addTold_27 : decode cX0_addTold 27 = .ok (.iload 5, 2) := by decide +kernel
theorem dX0_addTold_29 : decode cX0_addTold 29 = .ok (.laload, 1) := by decide +kernel
theorem dX0_addTold_30 : decode cX0_addTold 30 = .ok (.lcmp, 1) := by decide +kernel
theorem dX0_addTold_31 : decode cX0_addTold 31 = .ok (.ifCond .ne 13, 3) := by decide +kernel
theorem dX0_addTold_34 : decode cX0_addTold 34 = .ok (.lload_n 3, 1) := by decide +kernel
theorem dX0_addTold_35 : decode cX0_addTold 35 = .ok (.aload_n 0, 1) := by decide +kernel
theorem dX0_addTold_36 : decode cX0_addTold 36 = .ok (.getfield 15, 3) := by decide +kernel
theorem dX0_addTold_39 : decode cX0_addTold 39 = .ok (.iload 5, 2) := by decide +kernel
theorem dX0_addTold_41 : decode cX0_addTold 41 = .ok (.laload, 1) := by decide +kernel
theorem dX0_addTold_42 : decode cX0_addTold 42 = .ok (.lor, 1) := by decide +kernel
theorem dX0_addTold_43 : decode cX0_addTold 43 = .ok (.lstore_n 3, 1) := by decide +kernel
theorem dX0_addTold_44 : decode cX0_addTold 44 = .ok (.iinc 5 1, 3) := by decide +kernel
theorem dX0_addTold_47 : decode cX0_addTold 47 = .ok (.goto (-42), 3) := by decide +kernel
theorem dX0_addTold_50 : decode cX0_addTold 50 = .ok (.lload_n 3, 1) := by decide +kernel
theorem dX0_addTold_51 : decode cX0_addTold 51 = .ok (.lreturn, 1) := by decide +kernel
