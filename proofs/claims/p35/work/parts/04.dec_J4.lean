theorem dJ4_init_da8c8_0 : decode cJ4_init_da8c8 0 = .ok (.aload_n 0, 1) := by decide +kernel
theorem dJ4_init_da8c8_1 : decode cJ4_init_da8c8 1 = .ok (.bipush 16, 2) := by decide +kernel
theorem dJ4_init_da8c8_3 : decode cJ4_init_da8c8 3 = .ok (.invokespecial 1, 3) := by decide +kernel
theorem dJ4_init_da8c8_6 : decode cJ4_init_da8c8 6 = .ok (.return_, 1) := by decide +kernel
theorem dJ4_append_15ec4_0 : decode cJ4_append_15ec4 0 = .ok (.aload_n 0, 1) := by decide +kernel
theorem dJ4_append_15ec4_1 : decode cJ4_append_15ec4 1 = .ok (.aload_n 1, 1) := by decide +kernel
theorem dJ4_append_15ec4_2 : decode cJ4_append_15ec4 2 = .ok (.invokespecial 29, 3) := by decide +kernel
theorem dJ4_append_15ec4_5 : decode cJ4_append_15ec4 5 = .ok (.pop, 1) := by decide +kernel
theorem dJ4_append_15ec4_6 : decode cJ4_append_15ec4 6 = .ok (.aload_n 0, 1) := by decide +kernel
theorem dJ4_append_15ec4_7 : decode cJ4_append_15ec4 7 = .ok (.areturn, 1) := by decide +kernel
theorem dJ4_append_1fab5_0 : decode cJ4_append_1fab5 0 = .ok (.aload_n 0, 1) := by decide +kernel
theorem dJ4_append_1fab5_1 : decode cJ4_append_1fab5 1 = .ok (.aload_n 1, 1) := by decide +kernel
theorem dJ4_append_1fab5_2 : decode cJ4_append_1fab5 2 = .ok (.invokespecial 35, 3) := by decide +kernel
theorem dJ4_append_1fab5_5 : decode cJ4_append_1fab5 5 = .ok (.pop, 1) := by decide +kernel
theorem dJ4_append_1fab5_6 : decode cJ4_append_1fab5 6 = .ok (.aload_n 0, 1) := by decide +kernel
theorem dJ4_append_1fab5_7 : decode cJ4_append_1fab5 7 = .ok (.areturn, 1) := by decide +kernel
theorem dJ4_append_69d29_0 : decode cJ4_append_69d29 0 = .ok (.aload_n 0, 1) := by decide +kernel
theorem dJ4_append_69d29_1 : decode cJ4_append_69d29 1 = .ok (.aload_n 1, 1) := by decide +kernel
theorem dJ4_append_69d29_2 : decode cJ4_append_69d29 2 = .ok (.iload_n 2, 1) := by decide +kernel
theorem dJ4_append_69d29_3 : decode cJ4_append_69d29 3 = .ok (.iload_n 3, 1) := by decide +kernel
theorem dJ4_append_69d29_4 : decode cJ4_append_69d29 4 = .ok (.invokespecial 38, 3) := by decide +kernel
theorem dJ4_append_69d29_7 : decode cJ4_append_69d29 7 = .ok (.pop, 1) := by decide +kernel
theorem dJ4_append_69d29_8 : decode cJ4_append_69d29 8 = .ok (.aload_n 0, 1) := by decide +kernel
theorem dJ4_append_69d29_9 : decode cJ4_append_69d29 9 = .ok (.areturn, 1) := by decide +kernel
theorem dJ4_append_37e8c_0 : decode cJ4_append_37e8c 0 = .ok (.aload_n 0, 1) := by decide +kernel
theorem dJ4_append_37e8c_1 : decode cJ4_append_37e8c 1 = .ok (.aload_n 1, 1) := by decide +kernel
theorem dJ4_append_37e8c_2 : decode cJ4_append_37e8c 2 = .ok (.invokespecial 41, 3) := by decide +kernel
theorem dJ4_append_37e8c_5 : decode cJ4_append_37e8c 5 = .ok (.pop, 1) := by decide +kernel
theorem dJ4_append_37e8c_6 : decode cJ4_append_37e8c 6 = .ok (.aload_n 0, 1) := by decide +kernel
theorem dJ4_append_37e8c_7 : decode cJ4_append_37e8c 7 = .ok (.areturn, 1) := by decide +kernel
theorem dJ4_append_cf468_0 : decode cJ4_append_cf468 0 = .ok (.aload_n 0, 1) := by decide +kernel
theorem dJ4_append_cf468_1 : decode cJ4_append_cf468 1 = .ok (.iload_n 1, 1) := by decide +kernel
theorem dJ4_append_cf468_2 : decode cJ4_append_cf468 2 = .ok (.invokespecial 50, 3) := by decide +kernel
theorem dJ4_append_cf468_5 : decode cJ4_append_cf468 5 = .ok (.pop, 1) := by decide +kernel
theorem dJ4_append_cf468_6 : decode cJ4_append_cf468 6 = .ok (.aload_n 0, 1) := by decide +kernel
theorem dJ4_append_cf468_7 : decode cJ4_append_cf468 7 = .ok (.areturn, 1) := by decide +kernel
theorem dJ4_append_bf812_0 : decode cJ4_append_bf812 0 = .ok (.aload_n 0, 1) := by decide +kernel
theorem dJ4_append_bf812_1 : decode cJ4_append_bf812 1 = .ok (.iload_n 1, 1) := by decide +kernel
theorem dJ4_append_bf812_2 : decode cJ4_append_bf812 2 = .ok (.invokespecial 53, 3) := by decide +kernel
theorem dJ4_append_bf812_5 : decode cJ4_append_bf812 5 = .ok (.pop, 1) := by decide +kernel
theorem dJ4_append_bf812_6 : decode cJ4_append_bf812 6 = .ok (.aload_n 0, 1) := by decide +kernel
theorem dJ4_append_bf812_7 : decode cJ4_append_bf812 7 = .ok (.areturn, 1) := by decide +kernel
theorem dJ4_append_f7089_0 : decode cJ4_append_f7089 0 = .ok (.aload_n 0, 1) := by decide +kernel
theorem dJ4_append_f7089_1 : decode cJ4_append_f7089 1 = .ok (.lload_n 1, 1) := by decide +kernel
theorem dJ4_append_f7089_2 : decode cJ4_append_f7089 2 = .ok (.invokespecial 56, 3) := by decide +kernel
theorem dJ4_append_f7089_5 : decode cJ4_append_f7089 5 = .ok (.pop, 1) := by decide +kernel
theorem dJ4_append_f7089_6 : decode cJ4_append_f7089 6 = .ok (.aload_n 0, 1) := by decide +kernel
theorem dJ4_append_f7089_7 : decode cJ4_append_f7089 7 = .ok (.areturn, 1) := by decide +kernel
theorem dJ4_append_9d4c8_0 : decode cJ4_append_9d4c8 0 = .ok (.aload_n 0, 1) := by decide +kernel
theorem dJ4_append_9d4c8_1 : decode cJ4_append_9d4c8 1 = .ok (.fload_n 1, 1) := by decide +kernel
theorem dJ4_append_9d4c8_2 : decode cJ4_append_9d4c8 2 = .ok (.invokespecial 59, 3) := by decide +kernel
theorem dJ4_append_9d4c8_5 : decode cJ4_append_9d4c8 5 = .ok (.pop, 1) := by decide +kernel
theorem dJ4_append_9d4c8_6 : decode cJ4_append_9d4c8 6 = .ok (.aload_n 0, 1) := by decide +kernel
theorem dJ4_append_9d4c8_7 : decode cJ4_append_9d4c8 7 = .ok (.areturn, 1) := by decide +kernel
theorem dJ4_toString_0e30d_0 : decode cJ4_toString_0e30d 0 = .ok (.new 18, 3) := by decide +kernel
theorem dJ4_toString_0e30d_3 : decode cJ4_toString_0e30d 3 = .ok (.dup, 1) := by decide +kernel
theorem dJ4_toString_0e30d_4 : decode cJ4_toString_0e30d 4 = .ok (.aload_n 0, 1) := by decide +kernel
theorem dJ4_toString_0e30d_5 : decode cJ4_toString_0e30d 5 = .ok (.invokespecial 137, 3) := by decide +kernel
theorem dJ4_toString_0e30d_8 : decode cJ4_toString_0e30d 8 = .ok (.areturn, 1) := by decide +kernel
theorem dJ4_append_e1f22_0 : decode cJ4_append_e1f22 0 = .ok (.aload_n 0, 1) := by decide +kernel
theorem dJ4_append_e1f22_1 : decode cJ4_append_e1f22 1 = .ok (.aload_n 1, 1) := by decide +kernel
theorem dJ4_append_e1f22_2 : decode cJ4_append_e1f22 2 = .ok (.iload_n 2, 1) := by decide +kernel
theorem dJ4_append_e1f22_3 : decode cJ4_append_e1f22 3 = .ok (.iload_n 3, 1) := by decide +kernel
theorem dJ4_append_e1f22_4 : decode cJ4_append_e1f22 4 = .ok (.invokevirtual 296, 3) := by decide +kernel
theorem dJ4_append_e1f22_7 : decode cJ4_append_e1f22 7 = .ok (.areturn, 1) := by decide +kernel
theorem dJ4_append_cf1ce_0 : decode cJ4_append_cf1ce 0 = .ok (.aload_n 0, 1) := by decide +kernel
theorem dJ4_append_cf1ce_1 : decode cJ4_append_cf1ce 1 = .ok (.aload_n 1, 1) := by decide +kernel
theorem dJ4_append_cf1ce_2 : decode cJ4_append_cf1ce 2 = .ok (.invokevirtual 23, 3) := by decide +kernel
theorem dJ4_append_cf1ce_5 : decode cJ4_append_cf1ce 5 = .ok (.areturn, 1) := by decide +kernel
theorem dJ4_charAt_5068e_0 : decode cJ4_charAt_5068e 0 = .ok (.aload_n 0, 1) := by decide +kernel
theorem dJ4_charAt_5068e_1 : decode cJ4_charAt_5068e 1 = .ok (.iload_n 1, 1) := by decide +kernel
theorem dJ4_charAt_5068e_2 : decode cJ4_charAt_5068e 2 = .ok (.invokespecial 329, 3) := by decide +kernel
theorem dJ4_charAt_5068e_5 : decode cJ4_charAt_5068e 5 = .ok (.ireturn, 1) := by decide +kernel
theorem dJ4_length_8abf5_0 : decode cJ4_length_8abf5 0 = .ok (.aload_n 0, 1) := by decide +kernel
theorem dJ4_length_8abf5_1 : decode cJ4_length_8abf5 1 = .ok (.invokespecial 343, 3) := by decide +kernel
theorem dJ4_length_8abf5_4 : decode cJ4_length_8abf5 4 = .ok (.ireturn, 1) := by decide +kernel
theorem dJ4_append_b3078_0 : decode cJ4_append_b3078 0 = .ok (.aload_n 0, 1) := by decide +kernel
theorem dJ4_append_b3078_1 : decode cJ4_append_b3078 1 = .ok (.iload_n 1, 1) := by decide +kernel
theorem dJ4_append_b3078_2 : decode cJ4_append_b3078 2 = .ok (.invokevirtual 284, 3) := by decide +kernel
theorem dJ4_append_b3078_5 : decode cJ4_append_b3078 5 = .ok (.areturn, 1) := by decide +kernel
theorem dJ4_append_996db_0 : decode cJ4_append_996db 0 = .ok (.aload_n 0, 1) := by decide +kernel
theorem dJ4_append_996db_1 : decode cJ4_append_996db 1 = .ok (.aload_n 1, 1) := by decide +kernel
theorem dJ4_append_996db_2 : decode cJ4_append_996db 2 = .ok (.invokevirtual 299, 3) := by decide +kernel
theorem dJ4_append_996db_5 : decode cJ4_append_996db 5 = .ok (.areturn, 1) := by decide +kernel
