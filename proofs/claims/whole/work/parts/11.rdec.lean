theorem d_Model_in_0 : decode prog_8_method_2_code 0 = .ok (.iload_n 0, 1) := by decide +kernel
theorem d_Model_in_1 : decode prog_8_method_2_code 1 = .ok (.iload_n 1, 1) := by decide +kernel
theorem d_Model_in_2 : decode prog_8_method_2_code 2 = .ok (.if_icmp .lt 12, 3) := by decide +kernel
theorem d_Model_in_5 : decode prog_8_method_2_code 5 = .ok (.iload_n 0, 1) := by decide +kernel
theorem d_Model_in_6 : decode prog_8_method_2_code 6 = .ok (.iload_n 2, 1) := by decide +kernel
theorem d_Model_in_7 : decode prog_8_method_2_code 7 = .ok (.if_icmp .gt 7, 3) := by decide +kernel
theorem d_Model_in_10 : decode prog_8_method_2_code 10 = .ok (.iconst 1, 1) := by decide +kernel
theorem d_Model_in_11 : decode prog_8_method_2_code 11 = .ok (.goto 4, 3) := by decide +kernel
theorem d_Model_in_14 : decode prog_8_method_2_code 14 = .ok (.iconst 0, 1) := by decide +kernel
theorem d_Model_in_15 : decode prog_8_method_2_code 15 = .ok (.ireturn, 1) := by decide +kernel
theorem d_Model_div_0 : decode prog_8_method_3_code 0 = .ok (.lload_n 0, 1) := by decide +kernel
theorem d_Model_div_1 : decode prog_8_method_3_code 1 = .ok (.lload_n 2, 1) := by decide +kernel
theorem d_Model_div_2 : decode prog_8_method_3_code 2 = .ok (.ldiv, 1) := by decide +kernel
theorem d_Model_div_3 : decode prog_8_method_3_code 3 = .ok (.lstore 4, 2) := by decide +kernel
theorem d_Model_div_5 : decode prog_8_method_3_code 5 = .ok (.lload 4, 2) := by decide +kernel
theorem d_Model_div_7 : decode prog_8_method_3_code 7 = .ok (.lload_n 2, 1) := by decide +kernel
theorem d_Model_div_8 : decode prog_8_method_3_code 8 = .ok (.lmul, 1) := by decide +kernel
theorem d_Model_div_9 : decode prog_8_method_3_code 9 = .ok (.lload_n 0, 1) := by decide +kernel
theorem d_Model_div_10 : decode prog_8_method_3_code 10 = .ok (.lcmp, 1) := by decide +kernel
theorem d_Model_div_11 : decode prog_8_method_3_code 11 = .ok (.ifCond .le 10, 3) := by decide +kernel
theorem d_Model_div_14 : decode prog_8_method_3_code 14 = .ok (.lload 4, 2) := by decide +kernel
theorem d_Model_div_16 : decode prog_8_method_3_code 16 = .ok (.lconst 1, 1) := by decide +kernel
theorem d_Model_div_17 : decode prog_8_method_3_code 17 = .ok (.lsub, 1) := by decide +kernel
theorem d_Model_div_18 : decode prog_8_method_3_code 18 = .ok (.goto 5, 3) := by decide +kernel
theorem d_Model_div_21 : decode prog_8_method_3_code 21 = .ok (.lload 4, 2) := by decide +kernel
theorem d_Model_div_23 : decode prog_8_method_3_code 23 = .ok (.lreturn, 1) := by decide +kernel
theorem d_Model_wrapped_0 : decode prog_8_method_4_code 0 = .ok (.iload_n 0, 1) := by decide +kernel
theorem d_Model_wrapped_1 : decode prog_8_method_4_code 1 = .ok (.i2s, 1) := by decide +kernel
theorem d_Model_wrapped_2 : decode prog_8_method_4_code 2 = .ok (.ireturn, 1) := by decide +kernel
theorem d_Model_put_0 : decode prog_8_method_5_code 0 = .ok (.iload_n 1, 1) := by decide +kernel
theorem d_Model_put_1 : decode prog_8_method_5_code 1 = .ok (.iconst 0, 1) := by decide +kernel
theorem d_Model_put_2 : decode prog_8_method_5_code 2 = .ok (.iconst 1, 1) := by decide +kernel
theorem d_Model_put_3 : decode prog_8_method_5_code 3 = .ok (.invokestatic 69, 3) := by decide +kernel
theorem d_Model_put_6 : decode prog_8_method_5_code 6 = .ok (.ifCond .eq 14, 3) := by decide +kernel
theorem d_Model_put_9 : decode prog_8_method_5_code 9 = .ok (.iload_n 2, 1) := by decide +kernel
theorem d_Model_put_10 : decode prog_8_method_5_code 10 = .ok (.iconst 0, 1) := by decide +kernel
theorem d_Model_put_11 : decode prog_8_method_5_code 11 = .ok (.sipush 1020, 3) := by decide +kernel
theorem d_Model_put_14 : decode prog_8_method_5_code 14 = .ok (.invokestatic 69, 3) := by decide +kernel
theorem d_Model_put_17 : decode prog_8_method_5_code 17 = .ok (.ifCond .ne 5, 3) := by decide +kernel
theorem d_Model_put_20 : decode prog_8_method_5_code 20 = .ok (.iconst 0, 1) := by decide +kernel
theorem d_Model_put_21 : decode prog_8_method_5_code 21 = .ok (.ireturn, 1) := by decide +kernel
theorem d_Model_put_22 : decode prog_8_method_5_code 22 = .ok (.iconst 0, 1) := by decide +kernel
theorem d_Model_put_23 : decode prog_8_method_5_code 23 = .ok (.istore 4, 2) := by decide +kernel
theorem d_Model_put_25 : decode prog_8_method_5_code 25 = .ok (.iload 4, 2) := by decide +kernel
theorem d_Model_put_27 : decode prog_8_method_5_code 27 = .ok (.iconst 4, 1) := by decide +kernel
theorem d_Model_put_28 : decode prog_8_method_5_code 28 = .ok (.if_icmp .ge 54, 3) := by decide +kernel
theorem d_Model_put_31 : decode prog_8_method_5_code 31 = .ok (.iload_n 3, 1) := by decide +kernel
theorem d_Model_put_32 : decode prog_8_method_5_code 32 = .ok (.bipush 24, 2) := by decide +kernel
theorem d_Model_put_34 : decode prog_8_method_5_code 34 = .ok (.bipush 8, 2) := by decide +kernel
theorem d_Model_put_36 : decode prog_8_method_5_code 36 = .ok (.iload 4, 2) := by decide +kernel
theorem d_Model_put_38 : decode prog_8_method_5_code 38 = .ok (.imul, 1) := by decide +kernel
theorem d_Model_put_39 : decode prog_8_method_5_code 39 = .ok (.isub, 1) := by decide +kernel
theorem d_Model_put_40 : decode prog_8_method_5_code 40 = .ok (.ishr, 1) := by decide +kernel
theorem d_Model_put_41 : decode prog_8_method_5_code 41 = .ok (.sipush 255, 3) := by decide +kernel
theorem d_Model_put_44 : decode prog_8_method_5_code 44 = .ok (.iand, 1) := by decide +kernel
theorem d_Model_put_45 : decode prog_8_method_5_code 45 = .ok (.istore 5, 2) := by decide +kernel
theorem d_Model_put_47 : decode prog_8_method_5_code 47 = .ok (.iload_n 1, 1) := by decide +kernel
theorem d_Model_put_48 : decode prog_8_method_5_code 48 = .ok (.ifCond .ne 17, 3) := by decide +kernel
theorem d_Model_put_51 : decode prog_8_method_5_code 51 = .ok (.aload_n 0, 1) := by decide +kernel
theorem d_Model_put_52 : decode prog_8_method_5_code 52 = .ok (.getfield 7, 3) := by decide +kernel
theorem d_Model_put_55 : decode prog_8_method_5_code 55 = .ok (.iload_n 2, 1) := by decide +kernel
theorem d_Model_put_56 : decode prog_8_method_5_code 56 = .ok (.iload 4, 2) := by decide +kernel
theorem d_Model_put_58 : decode prog_8_method_5_code 58 = .ok (.iadd, 1) := by decide +kernel
theorem d_Model_put_59 : decode prog_8_method_5_code 59 = .ok (.iload 5, 2) := by decide +kernel
theorem d_Model_put_61 : decode prog_8_method_5_code 61 = .ok (.iastore, 1) := by decide +kernel
theorem d_Model_put_62 : decode prog_8_method_5_code 62 = .ok (.goto 14, 3) := by decide +kernel
theorem d_Model_put_65 : decode prog_8_method_5_code 65 = .ok (.aload_n 0, 1) := by decide +kernel
theorem d_Model_put_66 : decode prog_8_method_5_code 66 = .ok (.getfield 13, 3) := by decide +kernel
theorem d_Model_put_69 : decode prog_8_method_5_code 69 = .ok (.iload_n 2, 1) := by decide +kernel
theorem d_Model_put_70 : decode prog_8_method_5_code 70 = .ok (.iload 4, 2) := by decide +kernel
theorem d_Model_put_72 : decode prog_8_method_5_code 72 = .ok (.iadd, 1) := by decide +kernel
theorem d_Model_put_73 : decode prog_8_method_5_code 73 = .ok (.iload 5, 2) := by decide +kernel
theorem d_Model_put_75 : decode prog_8_method_5_code 75 = .ok (.iastore, 1) := by decide +kernel
theorem d_Model_put_76 : decode prog_8_method_5_code 76 = .ok (.iinc 4 1, 3) := by decide +kernel
theorem d_Model_put_79 : decode prog_8_method_5_code 79 = .ok (.goto (-54), 3) := by decide +kernel
theorem d_Model_put_82 : decode prog_8_method_5_code 82 = .ok (.iconst 1, 1) := by decide +kernel
theorem d_Model_put_83 : decode prog_8_method_5_code 83 = .ok (.ireturn, 1) := by decide +kernel
theorem d_Model_byteAt_0 : decode prog_8_method_6_code 0 = .ok (.iload_n 1, 1) := by decide +kernel
theorem d_Model_byteAt_1 : decode prog_8_method_6_code 1 = .ok (.iconst 0, 1) := by decide +kernel
theorem d_Model_byteAt_2 : decode prog_8_method_6_code 2 = .ok (.iconst 1, 1) := by decide +kernel
theorem d_Model_byteAt_3 : decode prog_8_method_6_code 3 = .ok (.invokestatic 69, 3) := by decide +kernel
theorem d_Model_byteAt_6 : decode prog_8_method_6_code 6 = .ok (.ifCond .eq 14, 3) := by decide +kernel
theorem d_Model_byteAt_9 : decode prog_8_method_6_code 9 = .ok (.iload_n 2, 1) := by decide +kernel
theorem d_Model_byteAt_10 : decode prog_8_method_6_code 10 = .ok (.iconst 0, 1) := by decide +kernel
theorem d_Model_byteAt_11 : decode prog_8_method_6_code 11 = .ok (.sipush 1023, 3) := by decide +kernel
theorem d_Model_byteAt_14 : decode prog_8_method_6_code 14 = .ok (.invokestatic 69, 3) := by decide +kernel
theorem d_Model_byteAt_17 : decode prog_8_method_6_code 17 = .ok (.ifCond .ne 5, 3) := by decide +kernel
theorem d_Model_byteAt_20 : decode prog_8_method_6_code 20 = .ok (.iconst (-1), 1) := by decide +kernel
theorem d_Model_byteAt_21 : decode prog_8_method_6_code 21 = .ok (.ireturn, 1) := by decide +kernel
theorem d_Model_byteAt_22 : decode prog_8_method_6_code 22 = .ok (.iload_n 1, 1) := by decide +kernel
theorem d_Model_byteAt_23 : decode prog_8_method_6_code 23 = .ok (.ifCond .ne 12, 3) := by decide +kernel
theorem d_Model_byteAt_26 : decode prog_8_method_6_code 26 = .ok (.aload_n 0, 1) := by decide +kernel
theorem d_Model_byteAt_27 : decode prog_8_method_6_code 27 = .ok (.getfield 7, 3) := by decide +kernel
theorem d_Model_byteAt_30 : decode prog_8_method_6_code 30 = .ok (.iload_n 2, 1) := by decide +kernel
theorem d_Model_byteAt_31 : decode prog_8_method_6_code 31 = .ok (.iaload, 1) := by decide +kernel
theorem d_Model_byteAt_32 : decode prog_8_method_6_code 32 = .ok (.goto 9, 3) := by decide +kernel
theorem d_Model_byteAt_35 : decode prog_8_method_6_code 35 = .ok (.aload_n 0, 1) := by decide +kernel
theorem d_Model_byteAt_36 : decode prog_8_method_6_code 36 = .ok (.getfield 13, 3) := by decide +kernel
theorem d_Model_byteAt_39 : decode prog_8_method_6_code 39 = .ok (.iload_n 2, 1) := by decide +kernel
theorem d_Model_byteAt_40 : decode prog_8_method_6_code 40 = .ok (.iaload, 1) := by decide +kernel
theorem d_Model_byteAt_41 : decode prog_8_method_6_code 41 = .ok (.ireturn, 1) := by decide +kernel
theorem d_Model_set_0 : decode prog_8_method_7_code 0 = .ok (.iload_n 1, 1) := by decide +kernel
theorem d_Model_set_1 : decode prog_8_method_7_code 1 = .ok (.iconst 0, 1) := by decide +kernel
theorem d_Model_set_2 : decode prog_8_method_7_code 2 = .ok (.bipush 31, 2) := by decide +kernel
theorem d_Model_set_4 : decode prog_8_method_7_code 4 = .ok (.invokestatic 69, 3) := by decide +kernel
theorem d_Model_set_7 : decode prog_8_method_7_code 7 = .ok (.ifCond .ne 5, 3) := by decide +kernel
theorem d_Model_set_10 : decode prog_8_method_7_code 10 = .ok (.iconst 0, 1) := by decide +kernel
theorem d_Model_set_11 : decode prog_8_method_7_code 11 = .ok (.ireturn, 1) := by decide +kernel
theorem d_Model_set_12 : decode prog_8_method_7_code 12 = .ok (.aload_n 0, 1) := by decide +kernel
theorem d_Model_set_13 : decode prog_8_method_7_code 13 = .ok (.getfield 16, 3) := by decide +kernel
theorem d_Model_set_16 : decode prog_8_method_7_code 16 = .ok (.iload_n 1, 1) := by decide +kernel
theorem d_Model_set_17 : decode prog_8_method_7_code 17 = .ok (.iload_n 2, 1) := by decide +kernel
theorem d_Model_set_18 : decode prog_8_method_7_code 18 = .ok (.invokestatic 73, 3) := by decide +kernel
theorem d_Model_set_21 : decode prog_8_method_7_code 21 = .ok (.iastore, 1) := by decide +kernel
theorem d_Model_set_22 : decode prog_8_method_7_code 22 = .ok (.iconst 1, 1) := by decide +kernel
theorem d_Model_set_23 : decode prog_8_method_7_code 23 = .ok (.ireturn, 1) := by decide +kernel
theorem d_Model_get_0 : decode prog_8_method_8_code 0 = .ok (.iload_n 1, 1) := by decide +kernel
theorem d_Model_get_1 : decode prog_8_method_8_code 1 = .ok (.iconst 0, 1) := by decide +kernel
theorem d_Model_get_2 : decode prog_8_method_8_code 2 = .ok (.bipush 31, 2) := by decide +kernel
theorem d_Model_get_4 : decode prog_8_method_8_code 4 = .ok (.invokestatic 69, 3) := by decide +kernel
theorem d_Model_get_7 : decode prog_8_method_8_code 7 = .ok (.ifCond .eq 12, 3) := by decide +kernel
theorem d_Model_get_10 : decode prog_8_method_8_code 10 = .ok (.aload_n 0, 1) := by decide +kernel
theorem d_Model_get_11 : decode prog_8_method_8_code 11 = .ok (.getfield 16, 3) := by decide +kernel
theorem d_Model_get_14 : decode prog_8_method_8_code 14 = .ok (.iload_n 1, 1) := by decide +kernel
theorem d_Model_get_15 : decode prog_8_method_8_code 15 = .ok (.iaload, 1) := by decide +kernel
theorem d_Model_get_16 : decode prog_8_method_8_code 16 = .ok (.goto 4, 3) := by decide +kernel
theorem d_Model_get_19 : decode prog_8_method_8_code 19 = .ok (.iconst 0, 1) := by decide +kernel
theorem d_Model_get_20 : decode prog_8_method_8_code 20 = .ok (.ireturn, 1) := by decide +kernel
theorem d_Model_ask_0 : decode prog_8_method_9_code 0 = .ok (.iload_n 1, 1) := by decide +kernel
theorem d_Model_ask_1 : decode prog_8_method_9_code 1 = .ok (.iconst 0, 1) := by decide +kernel
theorem d_Model_ask_2 : decode prog_8_method_9_code 2 = .ok (.bipush 15, 2) := by decide +kernel
theorem d_Model_ask_4 : decode prog_8_method_9_code 4 = .ok (.invokestatic 69, 3) := by decide +kernel
theorem d_Model_ask_7 : decode prog_8_method_9_code 7 = .ok (.ifCond .eq 14, 3) := by decide +kernel
theorem d_Model_ask_10 : decode prog_8_method_9_code 10 = .ok (.iload_n 2, 1) := by decide +kernel
theorem d_Model_ask_11 : decode prog_8_method_9_code 11 = .ok (.iconst (-1), 1) := by decide +kernel
theorem d_Model_ask_12 : decode prog_8_method_9_code 12 = .ok (.sipush 1023, 3) := by decide +kernel
theorem d_Model_ask_15 : decode prog_8_method_9_code 15 = .ok (.invokestatic 69, 3) := by decide +kernel
theorem d_Model_ask_18 : decode prog_8_method_9_code 18 = .ok (.ifCond .ne 5, 3) := by decide +kernel
theorem d_Model_ask_21 : decode prog_8_method_9_code 21 = .ok (.iconst 0, 1) := by decide +kernel
theorem d_Model_ask_22 : decode prog_8_method_9_code 22 = .ok (.ireturn, 1) := by decide +kernel
theorem d_Model_ask_23 : decode prog_8_method_9_code 23 = .ok (.aload_n 0, 1) := by decide +kernel
theorem d_Model_ask_24 : decode prog_8_method_9_code 24 = .ok (.getfield 32, 3) := by decide +kernel
theorem d_Model_ask_27 : decode prog_8_method_9_code 27 = .ok (.iload_n 1, 1) := by decide +kernel
theorem d_Model_ask_28 : decode prog_8_method_9_code 28 = .ok (.iload_n 2, 1) := by decide +kernel
theorem d_Model_ask_29 : decode prog_8_method_9_code 29 = .ok (.iastore, 1) := by decide +kernel
theorem d_Model_ask_30 : decode prog_8_method_9_code 30 = .ok (.iconst 1, 1) := by decide +kernel
theorem d_Model_ask_31 : decode prog_8_method_9_code 31 = .ok (.ireturn, 1) := by decide +kernel
theorem d_Model_next_0 : decode prog_8_method_10_code 0 = .ok (.aload_n 0, 1) := by decide +kernel
theorem d_Model_next_1 : decode prog_8_method_10_code 1 = .ok (.getfield 7, 3) := by decide +kernel
theorem d_Model_next_4 : decode prog_8_method_10_code 4 = .ok (.aload_n 0, 1) := by decide +kernel
theorem d_Model_next_5 : decode prog_8_method_10_code 5 = .ok (.getfield 77, 3) := by decide +kernel
theorem d_Model_next_8 : decode prog_8_method_10_code 8 = .ok (.iaload, 1) := by decide +kernel
theorem d_Model_next_9 : decode prog_8_method_10_code 9 = .ok (.istore_n 1, 1) := by decide +kernel
theorem d_Model_next_10 : decode prog_8_method_10_code 10 = .ok (.aload_n 0, 1) := by decide +kernel
theorem d_Model_next_11 : decode prog_8_method_10_code 11 = .ok (.aload_n 0, 1) := by decide +kernel
theorem d_Model_next_12 : decode prog_8_method_10_code 12 = .ok (.getfield 77, 3) := by decide +kernel
theorem d_Model_next_15 : decode prog_8_method_10_code 15 = .ok (.iconst 1, 1) := by decide +kernel
theorem d_Model_next_16 : decode prog_8_method_10_code 16 = .ok (.iadd, 1) := by decide +kernel
theorem d_Model_next_17 : decode prog_8_method_10_code 17 = .ok (.sipush 1023, 3) := by decide +kernel
theorem d_Model_next_20 : decode prog_8_method_10_code 20 = .ok (.iand, 1) := by decide +kernel
theorem d_Model_next_21 : decode prog_8_method_10_code 21 = .ok (.putfield 77, 3) := by decide +kernel
theorem d_Model_next_24 : decode prog_8_method_10_code 24 = .ok (.iload_n 1, 1) := by decide +kernel
theorem d_Model_next_25 : decode prog_8_method_10_code 25 = .ok (.ireturn, 1) := by decide +kernel
theorem d_Model_name_0 : decode prog_8_method_11_code 0 = .ok (.aload_n 0, 1) := by decide +kernel
theorem d_Model_name_1 : decode prog_8_method_11_code 1 = .ok (.invokevirtual 81, 3) := by decide +kernel
theorem d_Model_name_4 : decode prog_8_method_11_code 4 = .ok (.bipush 31, 2) := by decide +kernel
theorem d_Model_name_6 : decode prog_8_method_11_code 6 = .ok (.iand, 1) := by decide +kernel
theorem d_Model_name_7 : decode prog_8_method_11_code 7 = .ok (.ireturn, 1) := by decide +kernel
theorem d_Model_two_0 : decode prog_8_method_12_code 0 = .ok (.aload_n 0, 1) := by decide +kernel
theorem d_Model_two_1 : decode prog_8_method_12_code 1 = .ok (.invokevirtual 81, 3) := by decide +kernel
theorem d_Model_two_4 : decode prog_8_method_12_code 4 = .ok (.istore_n 1, 1) := by decide +kernel
theorem d_Model_two_5 : decode prog_8_method_12_code 5 = .ok (.iload_n 1, 1) := by decide +kernel
theorem d_Model_two_6 : decode prog_8_method_12_code 6 = .ok (.bipush 8, 2) := by decide +kernel
theorem d_Model_two_8 : decode prog_8_method_12_code 8 = .ok (.ishl, 1) := by decide +kernel
theorem d_Model_two_9 : decode prog_8_method_12_code 9 = .ok (.aload_n 0, 1) := by decide +kernel
theorem d_Model_two_10 : decode prog_8_method_12_code 10 = .ok (.invokevirtual 81, 3) := by decide +kernel
theorem d_Model_two_13 : decode prog_8_method_12_code 13 = .ok (.ior, 1) := by decide +kernel
theorem d_Model_two_14 : decode prog_8_method_12_code 14 = .ok (.ireturn, 1) := by decide +kernel
theorem d_Model_signed_0 : decode prog_8_method_13_code 0 = .ok (.aload_n 0, 1) := by decide +kernel
theorem d_Model_signed_1 : decode prog_8_method_13_code 1 = .ok (.invokevirtual 85, 3) := by decide +kernel
theorem d_Model_signed_4 : decode prog_8_method_13_code 4 = .ok (.invokestatic 73, 3) := by decide +kernel
theorem d_Model_signed_7 : decode prog_8_method_13_code 7 = .ok (.ireturn, 1) := by decide +kernel
theorem d_Model_place_0 : decode prog_8_method_14_code 0 = .ok (.aload_n 0, 1) := by decide +kernel
theorem d_Model_place_1 : decode prog_8_method_14_code 1 = .ok (.invokevirtual 85, 3) := by decide +kernel
theorem d_Model_place_4 : decode prog_8_method_14_code 4 = .ok (.sipush 1023, 3) := by decide +kernel
theorem d_Model_place_7 : decode prog_8_method_14_code 7 = .ok (.iand, 1) := by decide +kernel
theorem d_Model_place_8 : decode prog_8_method_14_code 8 = .ok (.ireturn, 1) := by decide +kernel
theorem d_Model_page_0 : decode prog_8_method_15_code 0 = .ok (.aload_n 0, 1) := by decide +kernel
theorem d_Model_page_1 : decode prog_8_method_15_code 1 = .ok (.invokevirtual 81, 3) := by decide +kernel
theorem d_Model_page_4 : decode prog_8_method_15_code 4 = .ok (.istore_n 1, 1) := by decide +kernel
theorem d_Model_page_5 : decode prog_8_method_15_code 5 = .ok (.iload_n 1, 1) := by decide +kernel
theorem d_Model_page_6 : decode prog_8_method_15_code 6 = .ok (.sipush 128, 3) := by decide +kernel
theorem d_Model_page_9 : decode prog_8_method_15_code 9 = .ok (.if_icmp .ge 9, 3) := by decide +kernel
theorem d_Model_page_12 : decode prog_8_method_15_code 12 = .ok (.iload_n 1, 1) := by decide +kernel
theorem d_Model_page_13 : decode prog_8_method_15_code 13 = .ok (.iconst 3, 1) := by decide +kernel
theorem d_Model_page_14 : decode prog_8_method_15_code 14 = .ok (.iand, 1) := by decide +kernel
theorem d_Model_page_15 : decode prog_8_method_15_code 15 = .ok (.goto 21, 3) := by decide +kernel
theorem d_Model_page_18 : decode prog_8_method_15_code 18 = .ok (.iload_n 1, 1) := by decide +kernel
theorem d_Model_page_19 : decode prog_8_method_15_code 19 = .ok (.sipush 254, 3) := by decide +kernel
theorem d_Model_page_22 : decode prog_8_method_15_code 22 = .ok (.if_icmp .ne 10, 3) := by decide +kernel
theorem d_Model_page_25 : decode prog_8_method_15_code 25 = .ok (.aload_n 0, 1) := by decide +kernel
theorem d_Model_page_26 : decode prog_8_method_15_code 26 = .ok (.getfield 88, 3) := by decide +kernel
theorem d_Model_page_29 : decode prog_8_method_15_code 29 = .ok (.goto 7, 3) := by decide +kernel
theorem d_Model_page_32 : decode prog_8_method_15_code 32 = .ok (.aload_n 0, 1) := by decide +kernel
theorem d_Model_page_33 : decode prog_8_method_15_code 33 = .ok (.getfield 91, 3) := by decide +kernel
theorem d_Model_page_36 : decode prog_8_method_15_code 36 = .ok (.ireturn, 1) := by decide +kernel
theorem d_Model_fails_0 : decode prog_8_method_16_code 0 = .ok (.aload_n 0, 1) := by decide +kernel
theorem d_Model_fails_1 : decode prog_8_method_16_code 1 = .ok (.iload_n 1, 1) := by decide +kernel
theorem d_Model_fails_2 : decode prog_8_method_16_code 2 = .ok (.putfield 94, 3) := by decide +kernel
theorem d_Model_fails_5 : decode prog_8_method_16_code 5 = .ok (.aload_n 0, 1) := by decide +kernel
theorem d_Model_fails_6 : decode prog_8_method_16_code 6 = .ok (.iconst 0, 1) := by decide +kernel
theorem d_Model_fails_7 : decode prog_8_method_16_code 7 = .ok (.putfield 97, 3) := by decide +kernel
theorem d_Model_fails_10 : decode prog_8_method_16_code 10 = .ok (.return_, 1) := by decide +kernel
theorem d_Model_reckon_0 : decode prog_8_method_17_code 0 = .ok (.aload_n 0, 1) := by decide +kernel
theorem d_Model_reckon_1 : decode prog_8_method_17_code 1 = .ok (.invokevirtual 101, 3) := by decide +kernel
theorem d_Model_reckon_4 : decode prog_8_method_17_code 4 = .ok (.istore_n 2, 1) := by decide +kernel
theorem d_Model_reckon_5 : decode prog_8_method_17_code 5 = .ok (.iload_n 1, 1) := by decide +kernel
theorem d_Model_reckon_6 : decode prog_8_method_17_code 6 = .ok (.iconst 1, 1) := by decide +kernel
theorem d_Model_reckon_7 : decode prog_8_method_17_code 7 = .ok (.if_icmp .eq 13, 3) := by decide +kernel
theorem d_Model_reckon_10 : decode prog_8_method_17_code 10 = .ok (.iload_n 1, 1) := by decide +kernel
theorem d_Model_reckon_11 : decode prog_8_method_17_code 11 = .ok (.iconst 2, 1) := by decide +kernel
theorem d_Model_reckon_12 : decode prog_8_method_17_code 12 = .ok (.if_icmp .eq 8, 3) := by decide +kernel
theorem d_Model_reckon_15 : decode prog_8_method_17_code 15 = .ok (.iload_n 1, 1) := by decide +kernel
theorem d_Model_reckon_16 : decode prog_8_method_17_code 16 = .ok (.iconst 4, 1) := by decide +kernel
theorem d_Model_reckon_17 : decode prog_8_method_17_code 17 = .ok (.if_icmp .ne 15, 3) := by decide +kernel
theorem d_Model_reckon_20 : decode prog_8_method_17_code 20 = .ok (.aload_n 0, 1) := by decide +kernel
theorem d_Model_reckon_21 : decode prog_8_method_17_code 21 = .ok (.getfield 16, 3) := by decide +kernel
theorem d_Model_reckon_24 : decode prog_8_method_17_code 24 = .ok (.aload_n 0, 1) := by decide +kernel
theorem d_Model_reckon_25 : decode prog_8_method_17_code 25 = .ok (.invokevirtual 101, 3) := by decide +kernel
theorem d_Model_reckon_28 : decode prog_8_method_17_code 28 = .ok (.iaload, 1) := by decide +kernel
theorem d_Model_reckon_29 : decode prog_8_method_17_code 29 = .ok (.goto 23, 3) := by decide +kernel
theorem d_Model_reckon_32 : decode prog_8_method_17_code 32 = .ok (.iload_n 1, 1) := by decide +kernel
theorem d_Model_reckon_33 : decode prog_8_method_17_code 33 = .ok (.bipush 6, 2) := by decide +kernel
theorem d_Model_reckon_35 : decode prog_8_method_17_code 35 = .ok (.if_icmp .le 13, 3) := by decide +kernel
theorem d_Model_reckon_38 : decode prog_8_method_17_code 38 = .ok (.aload_n 0, 1) := by decide +kernel
theorem d_Model_reckon_39 : decode prog_8_method_17_code 39 = .ok (.invokevirtual 81, 3) := by decide +kernel
theorem d_Model_reckon_42 : decode prog_8_method_17_code 42 = .ok (.bipush 15, 2) := by decide +kernel
theorem d_Model_reckon_44 : decode prog_8_method_17_code 44 = .ok (.iand, 1) := by decide +kernel
theorem d_Model_reckon_45 : decode prog_8_method_17_code 45 = .ok (.goto 7, 3) := by decide +kernel
theorem d_Model_reckon_48 : decode prog_8_method_17_code 48 = .ok (.aload_n 0, 1) := by decide +kernel
theorem d_Model_reckon_49 : decode prog_8_method_17_code 49 = .ok (.invokevirtual 104, 3) := by decide +kernel
theorem d_Model_reckon_52 : decode prog_8_method_17_code 52 = .ok (.istore_n 3, 1) := by decide +kernel
theorem d_Model_reckon_53 : decode prog_8_method_17_code 53 = .ok (.aload_n 0, 1) := by decide +kernel
theorem d_Model_reckon_54 : decode prog_8_method_17_code 54 = .ok (.getfield 16, 3) := by decide +kernel
theorem d_Model_reckon_57 : decode prog_8_method_17_code 57 = .ok (.iload_n 2, 1) := by decide +kernel
theorem d_Model_reckon_58 : decode prog_8_method_17_code 58 = .ok (.iaload, 1) := by decide +kernel
theorem d_Model_reckon_59 : decode prog_8_method_17_code 59 = .ok (.istore 4, 2) := by decide +kernel
theorem d_Model_reckon_61 : decode prog_8_method_17_code 61 = .ok (.iload_n 1, 1) := by decide +kernel
theorem d_Model_reckon_62 : decode prog_8_method_17_code 62 = .ok (.tableswitch 97 0 7 #[46, 46, 52, 52, 61, 70, 79, 88], 46) := by decide +kernel
theorem d_Model_reckon_108 : decode prog_8_method_17_code 108 = .ok (.iload_n 3, 1) := by decide +kernel
theorem d_Model_reckon_109 : decode prog_8_method_17_code 109 = .ok (.istore 4, 2) := by decide +kernel
theorem d_Model_reckon_111 : decode prog_8_method_17_code 111 = .ok (.goto 54, 3) := by decide +kernel
theorem d_Model_reckon_114 : decode prog_8_method_17_code 114 = .ok (.iload 4, 2) := by decide +kernel
theorem d_Model_reckon_116 : decode prog_8_method_17_code 116 = .ok (.iload_n 3, 1) := by decide +kernel
theorem d_Model_reckon_117 : decode prog_8_method_17_code 117 = .ok (.iadd, 1) := by decide +kernel
theorem d_Model_reckon_118 : decode prog_8_method_17_code 118 = .ok (.istore 4, 2) := by decide +kernel
theorem d_Model_reckon_120 : decode prog_8_method_17_code 120 = .ok (.goto 45, 3) := by decide +kernel
theorem d_Model_reckon_123 : decode prog_8_method_17_code 123 = .ok (.iload 4, 2) := by decide +kernel
theorem d_Model_reckon_125 : decode prog_8_method_17_code 125 = .ok (.iload_n 3, 1) := by decide +kernel
theorem d_Model_reckon_126 : decode prog_8_method_17_code 126 = .ok (.isub, 1) := by decide +kernel
theorem d_Model_reckon_127 : decode prog_8_method_17_code 127 = .ok (.istore 4, 2) := by decide +kernel
theorem d_Model_reckon_129 : decode prog_8_method_17_code 129 = .ok (.goto 36, 3) := by decide +kernel
theorem d_Model_reckon_132 : decode prog_8_method_17_code 132 = .ok (.iload 4, 2) := by decide +kernel
theorem d_Model_reckon_134 : decode prog_8_method_17_code 134 = .ok (.iload_n 3, 1) := by decide +kernel
theorem d_Model_reckon_135 : decode prog_8_method_17_code 135 = .ok (.iand, 1) := by decide +kernel
theorem d_Model_reckon_136 : decode prog_8_method_17_code 136 = .ok (.istore 4, 2) := by decide +kernel
theorem d_Model_reckon_138 : decode prog_8_method_17_code 138 = .ok (.goto 27, 3) := by decide +kernel
theorem d_Model_reckon_141 : decode prog_8_method_17_code 141 = .ok (.iload 4, 2) := by decide +kernel
theorem d_Model_reckon_143 : decode prog_8_method_17_code 143 = .ok (.iload_n 3, 1) := by decide +kernel
theorem d_Model_reckon_144 : decode prog_8_method_17_code 144 = .ok (.ior, 1) := by decide +kernel
theorem d_Model_reckon_145 : decode prog_8_method_17_code 145 = .ok (.istore 4, 2) := by decide +kernel
theorem d_Model_reckon_147 : decode prog_8_method_17_code 147 = .ok (.goto 18, 3) := by decide +kernel
theorem d_Model_reckon_150 : decode prog_8_method_17_code 150 = .ok (.iload 4, 2) := by decide +kernel
theorem d_Model_reckon_152 : decode prog_8_method_17_code 152 = .ok (.iload_n 3, 1) := by decide +kernel
theorem d_Model_reckon_153 : decode prog_8_method_17_code 153 = .ok (.ishl, 1) := by decide +kernel
theorem d_Model_reckon_154 : decode prog_8_method_17_code 154 = .ok (.istore 4, 2) := by decide +kernel
theorem d_Model_reckon_156 : decode prog_8_method_17_code 156 = .ok (.goto 9, 3) := by decide +kernel
theorem d_Model_reckon_159 : decode prog_8_method_17_code 159 = .ok (.iload 4, 2) := by decide +kernel
theorem d_Model_reckon_161 : decode prog_8_method_17_code 161 = .ok (.iload_n 3, 1) := by decide +kernel
theorem d_Model_reckon_162 : decode prog_8_method_17_code 162 = .ok (.ishr, 1) := by decide +kernel
theorem d_Model_reckon_163 : decode prog_8_method_17_code 163 = .ok (.istore 4, 2) := by decide +kernel
theorem d_Model_reckon_165 : decode prog_8_method_17_code 165 = .ok (.aload_n 0, 1) := by decide +kernel
theorem d_Model_reckon_166 : decode prog_8_method_17_code 166 = .ok (.getfield 16, 3) := by decide +kernel
theorem d_Model_reckon_169 : decode prog_8_method_17_code 169 = .ok (.iload_n 2, 1) := by decide +kernel
theorem d_Model_reckon_170 : decode prog_8_method_17_code 170 = .ok (.iload 4, 2) := by decide +kernel
theorem d_Model_reckon_172 : decode prog_8_method_17_code 172 = .ok (.invokestatic 73, 3) := by decide +kernel
theorem d_Model_reckon_175 : decode prog_8_method_17_code 175 = .ok (.iastore, 1) := by decide +kernel
theorem d_Model_reckon_176 : decode prog_8_method_17_code 176 = .ok (.return_, 1) := by decide +kernel
theorem d_Model_call_0 : decode prog_8_method_18_code 0 = .ok (.aload_n 0, 1) := by decide +kernel
theorem d_Model_call_1 : decode prog_8_method_18_code 1 = .ok (.invokevirtual 107, 3) := by decide +kernel
theorem d_Model_call_4 : decode prog_8_method_18_code 4 = .ok (.istore_n 1, 1) := by decide +kernel
theorem d_Model_call_5 : decode prog_8_method_18_code 5 = .ok (.aload_n 0, 1) := by decide +kernel
theorem d_Model_call_6 : decode prog_8_method_18_code 6 = .ok (.getfield 26, 3) := by decide +kernel
theorem d_Model_call_9 : decode prog_8_method_18_code 9 = .ok (.aload_n 0, 1) := by decide +kernel
theorem d_Model_call_10 : decode prog_8_method_18_code 10 = .ok (.getfield 110, 3) := by decide +kernel
theorem d_Model_call_13 : decode prog_8_method_18_code 13 = .ok (.iaload, 1) := by decide +kernel
theorem d_Model_call_14 : decode prog_8_method_18_code 14 = .ok (.bipush 8, 2) := by decide +kernel
theorem d_Model_call_16 : decode prog_8_method_18_code 16 = .ok (.if_icmp .ne 9, 3) := by decide +kernel
theorem d_Model_call_19 : decode prog_8_method_18_code 19 = .ok (.aload_n 0, 1) := by decide +kernel
theorem d_Model_call_20 : decode prog_8_method_18_code 20 = .ok (.iconst 1, 1) := by decide +kernel
theorem d_Model_call_21 : decode prog_8_method_18_code 21 = .ok (.invokevirtual 113, 3) := by decide +kernel
theorem d_Model_call_24 : decode prog_8_method_18_code 24 = .ok (.return_, 1) := by decide +kernel
theorem d_Model_call_25 : decode prog_8_method_18_code 25 = .ok (.aload_n 0, 1) := by decide +kernel
theorem d_Model_call_26 : decode prog_8_method_18_code 26 = .ok (.getfield 42, 3) := by decide +kernel
theorem d_Model_call_29 : decode prog_8_method_18_code 29 = .ok (.bipush 8, 2) := by decide +kernel
theorem d_Model_call_31 : decode prog_8_method_18_code 31 = .ok (.aload_n 0, 1) := by decide +kernel
theorem d_Model_call_32 : decode prog_8_method_18_code 32 = .ok (.getfield 110, 3) := by decide +kernel
theorem d_Model_call_35 : decode prog_8_method_18_code 35 = .ok (.imul, 1) := by decide +kernel
theorem d_Model_call_36 : decode prog_8_method_18_code 36 = .ok (.aload_n 0, 1) := by decide +kernel
theorem d_Model_call_37 : decode prog_8_method_18_code 37 = .ok (.getfield 26, 3) := by decide +kernel
theorem d_Model_call_40 : decode prog_8_method_18_code 40 = .ok (.aload_n 0, 1) := by decide +kernel
theorem d_Model_call_41 : decode prog_8_method_18_code 41 = .ok (.getfield 110, 3) := by decide +kernel
theorem d_Model_call_44 : decode prog_8_method_18_code 44 = .ok (.iaload, 1) := by decide +kernel
theorem d_Model_call_45 : decode prog_8_method_18_code 45 = .ok (.iadd, 1) := by decide +kernel
theorem d_Model_call_46 : decode prog_8_method_18_code 46 = .ok (.aload_n 0, 1) := by decide +kernel
theorem d_Model_call_47 : decode prog_8_method_18_code 47 = .ok (.getfield 77, 3) := by decide +kernel
theorem d_Model_call_50 : decode prog_8_method_18_code 50 = .ok (.iastore, 1) := by decide +kernel
theorem d_Model_call_51 : decode prog_8_method_18_code 51 = .ok (.aload_n 0, 1) := by decide +kernel
theorem d_Model_call_52 : decode prog_8_method_18_code 52 = .ok (.getfield 26, 3) := by decide +kernel
theorem d_Model_call_55 : decode prog_8_method_18_code 55 = .ok (.aload_n 0, 1) := by decide +kernel
theorem d_Model_call_56 : decode prog_8_method_18_code 56 = .ok (.getfield 110, 3) := by decide +kernel
theorem d_Model_call_59 : decode prog_8_method_18_code 59 = .ok (.dup2, 1) := by decide +kernel
theorem d_Model_call_60 : decode prog_8_method_18_code 60 = .ok (.iaload, 1) := by decide +kernel
theorem d_Model_call_61 : decode prog_8_method_18_code 61 = .ok (.iconst 1, 1) := by decide +kernel
theorem d_Model_call_62 : decode prog_8_method_18_code 62 = .ok (.iadd, 1) := by decide +kernel
theorem d_Model_call_63 : decode prog_8_method_18_code 63 = .ok (.iastore, 1) := by decide +kernel
theorem d_Model_call_64 : decode prog_8_method_18_code 64 = .ok (.aload_n 0, 1) := by decide +kernel
theorem d_Model_call_65 : decode prog_8_method_18_code 65 = .ok (.iload_n 1, 1) := by decide +kernel
theorem d_Model_call_66 : decode prog_8_method_18_code 66 = .ok (.putfield 77, 3) := by decide +kernel
theorem d_Model_call_69 : decode prog_8_method_18_code 69 = .ok (.return_, 1) := by decide +kernel
theorem d_Model_back_0 : decode prog_8_method_19_code 0 = .ok (.aload_n 0, 1) := by decide +kernel
theorem d_Model_back_1 : decode prog_8_method_19_code 1 = .ok (.getfield 26, 3) := by decide +kernel
theorem d_Model_back_4 : decode prog_8_method_19_code 4 = .ok (.aload_n 0, 1) := by decide +kernel
theorem d_Model_back_5 : decode prog_8_method_19_code 5 = .ok (.getfield 110, 3) := by decide +kernel
theorem d_Model_back_8 : decode prog_8_method_19_code 8 = .ok (.iaload, 1) := by decide +kernel
theorem d_Model_back_9 : decode prog_8_method_19_code 9 = .ok (.ifCond .ne 9, 3) := by decide +kernel
theorem d_Model_back_12 : decode prog_8_method_19_code 12 = .ok (.aload_n 0, 1) := by decide +kernel
theorem d_Model_back_13 : decode prog_8_method_19_code 13 = .ok (.iconst 2, 1) := by decide +kernel
theorem d_Model_back_14 : decode prog_8_method_19_code 14 = .ok (.invokevirtual 113, 3) := by decide +kernel
theorem d_Model_back_17 : decode prog_8_method_19_code 17 = .ok (.return_, 1) := by decide +kernel
theorem d_Model_back_18 : decode prog_8_method_19_code 18 = .ok (.aload_n 0, 1) := by decide +kernel
theorem d_Model_back_19 : decode prog_8_method_19_code 19 = .ok (.getfield 26, 3) := by decide +kernel
theorem d_Model_back_22 : decode prog_8_method_19_code 22 = .ok (.aload_n 0, 1) := by decide +kernel
theorem d_Model_back_23 : decode prog_8_method_19_code 23 = .ok (.getfield 110, 3) := by decide +kernel
theorem d_Model_back_26 : decode prog_8_method_19_code 26 = .ok (.dup2, 1) := by decide +kernel
theorem d_Model_back_27 : decode prog_8_method_19_code 27 = .ok (.iaload, 1) := by decide +kernel
theorem d_Model_back_28 : decode prog_8_method_19_code 28 = .ok (.iconst 1, 1) := by decide +kernel
theorem d_Model_back_29 : decode prog_8_method_19_code 29 = .ok (.isub, 1) := by decide +kernel
theorem d_Model_back_30 : decode prog_8_method_19_code 30 = .ok (.iastore, 1) := by decide +kernel
theorem d_Model_back_31 : decode prog_8_method_19_code 31 = .ok (.aload_n 0, 1) := by decide +kernel
theorem d_Model_back_32 : decode prog_8_method_19_code 32 = .ok (.aload_n 0, 1) := by decide +kernel
theorem d_Model_back_33 : decode prog_8_method_19_code 33 = .ok (.getfield 42, 3) := by decide +kernel
theorem d_Model_back_36 : decode prog_8_method_19_code 36 = .ok (.bipush 8, 2) := by decide +kernel
theorem d_Model_back_38 : decode prog_8_method_19_code 38 = .ok (.aload_n 0, 1) := by decide +kernel
theorem d_Model_back_39 : decode prog_8_method_19_code 39 = .ok (.getfield 110, 3) := by decide +kernel
theorem d_Model_back_42 : decode prog_8_method_19_code 42 = .ok (.imul, 1) := by decide +kernel
theorem d_Model_back_43 : decode prog_8_method_19_code 43 = .ok (.aload_n 0, 1) := by decide +kernel
theorem d_Model_back_44 : decode prog_8_method_19_code 44 = .ok (.getfield 26, 3) := by decide +kernel
theorem d_Model_back_47 : decode prog_8_method_19_code 47 = .ok (.aload_n 0, 1) := by decide +kernel
theorem d_Model_back_48 : decode prog_8_method_19_code 48 = .ok (.getfield 110, 3) := by decide +kernel
theorem d_Model_back_51 : decode prog_8_method_19_code 51 = .ok (.iaload, 1) := by decide +kernel
theorem d_Model_back_52 : decode prog_8_method_19_code 52 = .ok (.iadd, 1) := by decide +kernel
theorem d_Model_back_53 : decode prog_8_method_19_code 53 = .ok (.iaload, 1) := by decide +kernel
theorem d_Model_back_54 : decode prog_8_method_19_code 54 = .ok (.putfield 77, 3) := by decide +kernel
theorem d_Model_back_57 : decode prog_8_method_19_code 57 = .ok (.return_, 1) := by decide +kernel
theorem d_Model_loop_0 : decode prog_8_method_20_code 0 = .ok (.aload_n 0, 1) := by decide +kernel
theorem d_Model_loop_1 : decode prog_8_method_20_code 1 = .ok (.invokevirtual 101, 3) := by decide +kernel
theorem d_Model_loop_4 : decode prog_8_method_20_code 4 = .ok (.istore_n 1, 1) := by decide +kernel
theorem d_Model_loop_5 : decode prog_8_method_20_code 5 = .ok (.aload_n 0, 1) := by decide +kernel
theorem d_Model_loop_6 : decode prog_8_method_20_code 6 = .ok (.invokevirtual 107, 3) := by decide +kernel
theorem d_Model_loop_9 : decode prog_8_method_20_code 9 = .ok (.istore_n 2, 1) := by decide +kernel
theorem d_Model_loop_10 : decode prog_8_method_20_code 10 = .ok (.aload_n 0, 1) := by decide +kernel
theorem d_Model_loop_11 : decode prog_8_method_20_code 11 = .ok (.getfield 16, 3) := by decide +kernel
theorem d_Model_loop_14 : decode prog_8_method_20_code 14 = .ok (.iload_n 1, 1) := by decide +kernel
theorem d_Model_loop_15 : decode prog_8_method_20_code 15 = .ok (.aload_n 0, 1) := by decide +kernel
theorem d_Model_loop_16 : decode prog_8_method_20_code 16 = .ok (.getfield 16, 3) := by decide +kernel
theorem d_Model_loop_19 : decode prog_8_method_20_code 19 = .ok (.iload_n 1, 1) := by decide +kernel
theorem d_Model_loop_20 : decode prog_8_method_20_code 20 = .ok (.iaload, 1) := by decide +kernel
theorem d_Model_loop_21 : decode prog_8_method_20_code 21 = .ok (.iconst 1, 1) := by decide +kernel
theorem d_Model_loop_22 : decode prog_8_method_20_code 22 = .ok (.isub, 1) := by decide +kernel
theorem d_Model_loop_23 : decode prog_8_method_20_code 23 = .ok (.invokestatic 73, 3) := by decide +kernel
theorem d_Model_loop_26 : decode prog_8_method_20_code 26 = .ok (.iastore, 1) := by decide +kernel
theorem d_Model_loop_27 : decode prog_8_method_20_code 27 = .ok (.aload_n 0, 1) := by decide +kernel
theorem d_Model_loop_28 : decode prog_8_method_20_code 28 = .ok (.aload_n 0, 1) := by decide +kernel
theorem d_Model_loop_29 : decode prog_8_method_20_code 29 = .ok (.getfield 16, 3) := by decide +kernel
theorem d_Model_loop_32 : decode prog_8_method_20_code 32 = .ok (.iload_n 1, 1) := by decide +kernel
theorem d_Model_loop_33 : decode prog_8_method_20_code 33 = .ok (.iaload, 1) := by decide +kernel
theorem d_Model_loop_34 : decode prog_8_method_20_code 34 = .ok (.ifCond .eq 7, 3) := by decide +kernel
theorem d_Model_loop_37 : decode prog_8_method_20_code 37 = .ok (.iload_n 2, 1) := by decide +kernel
theorem d_Model_loop_38 : decode prog_8_method_20_code 38 = .ok (.goto 7, 3) := by decide +kernel
theorem d_Model_loop_41 : decode prog_8_method_20_code 41 = .ok (.aload_n 0, 1) := by decide +kernel
theorem d_Model_loop_42 : decode prog_8_method_20_code 42 = .ok (.getfield 77, 3) := by decide +kernel
theorem d_Model_loop_45 : decode prog_8_method_20_code 45 = .ok (.putfield 77, 3) := by decide +kernel
theorem d_Model_loop_48 : decode prog_8_method_20_code 48 = .ok (.return_, 1) := by decide +kernel
theorem d_Model_compares_0 : decode prog_8_method_21_code 0 = .ok (.iload_n 0, 1) := by decide +kernel
theorem d_Model_compares_1 : decode prog_8_method_21_code 1 = .ok (.tableswitch 90 0 4 #[35, 46, 57, 68, 79], 35) := by decide +kernel
theorem d_Model_compares_36 : decode prog_8_method_21_code 36 = .ok (.iload_n 1, 1) := by decide +kernel
theorem d_Model_compares_37 : decode prog_8_method_21_code 37 = .ok (.iload_n 2, 1) := by decide +kernel
theorem d_Model_compares_38 : decode prog_8_method_21_code 38 = .ok (.if_icmp .ne 7, 3) := by decide +kernel
theorem d_Model_compares_41 : decode prog_8_method_21_code 41 = .ok (.iconst 1, 1) := by decide +kernel
theorem d_Model_compares_42 : decode prog_8_method_21_code 42 = .ok (.goto 4, 3) := by decide +kernel
theorem d_Model_compares_45 : decode prog_8_method_21_code 45 = .ok (.iconst 0, 1) := by decide +kernel
theorem d_Model_compares_46 : decode prog_8_method_21_code 46 = .ok (.ireturn, 1) := by decide +kernel
theorem d_Model_compares_47 : decode prog_8_method_21_code 47 = .ok (.iload_n 1, 1) := by decide +kernel
theorem d_Model_compares_48 : decode prog_8_method_21_code 48 = .ok (.iload_n 2, 1) := by decide +kernel
theorem d_Model_compares_49 : decode prog_8_method_21_code 49 = .ok (.if_icmp .eq 7, 3) := by decide +kernel
theorem d_Model_compares_52 : decode prog_8_method_21_code 52 = .ok (.iconst 1, 1) := by decide +kernel
theorem d_Model_compares_53 : decode prog_8_method_21_code 53 = .ok (.goto 4, 3) := by decide +kernel
theorem d_Model_compares_56 : decode prog_8_method_21_code 56 = .ok (.iconst 0, 1) := by decide +kernel
theorem d_Model_compares_57 : decode prog_8_method_21_code 57 = .ok (.ireturn, 1) := by decide +kernel
theorem d_Model_compares_58 : decode prog_8_method_21_code 58 = .ok (.iload_n 1, 1) := by decide +kernel
theorem d_Model_compares_59 : decode prog_8_method_21_code 59 = .ok (.iload_n 2, 1) := by decide +kernel
theorem d_Model_compares_60 : decode prog_8_method_21_code 60 = .ok (.if_icmp .le 7, 3) := by decide +kernel
theorem d_Model_compares_63 : decode prog_8_method_21_code 63 = .ok (.iconst 1, 1) := by decide +kernel
theorem d_Model_compares_64 : decode prog_8_method_21_code 64 = .ok (.goto 4, 3) := by decide +kernel
theorem d_Model_compares_67 : decode prog_8_method_21_code 67 = .ok (.iconst 0, 1) := by decide +kernel
theorem d_Model_compares_68 : decode prog_8_method_21_code 68 = .ok (.ireturn, 1) := by decide +kernel
theorem d_Model_compares_69 : decode prog_8_method_21_code 69 = .ok (.iload_n 1, 1) := by decide +kernel
theorem d_Model_compares_70 : decode prog_8_method_21_code 70 = .ok (.iload_n 2, 1) := by decide +kernel
theorem d_Model_compares_71 : decode prog_8_method_21_code 71 = .ok (.if_icmp .lt 7, 3) := by decide +kernel
theorem d_Model_compares_74 : decode prog_8_method_21_code 74 = .ok (.iconst 1, 1) := by decide +kernel
theorem d_Model_compares_75 : decode prog_8_method_21_code 75 = .ok (.goto 4, 3) := by decide +kernel
theorem d_Model_compares_78 : decode prog_8_method_21_code 78 = .ok (.iconst 0, 1) := by decide +kernel
theorem d_Model_compares_79 : decode prog_8_method_21_code 79 = .ok (.ireturn, 1) := by decide +kernel
theorem d_Model_compares_80 : decode prog_8_method_21_code 80 = .ok (.iload_n 1, 1) := by decide +kernel
theorem d_Model_compares_81 : decode prog_8_method_21_code 81 = .ok (.iload_n 2, 1) := by decide +kernel
theorem d_Model_compares_82 : decode prog_8_method_21_code 82 = .ok (.if_icmp .ge 7, 3) := by decide +kernel
theorem d_Model_compares_85 : decode prog_8_method_21_code 85 = .ok (.iconst 1, 1) := by decide +kernel
theorem d_Model_compares_86 : decode prog_8_method_21_code 86 = .ok (.goto 4, 3) := by decide +kernel
theorem d_Model_compares_89 : decode prog_8_method_21_code 89 = .ok (.iconst 0, 1) := by decide +kernel
theorem d_Model_compares_90 : decode prog_8_method_21_code 90 = .ok (.ireturn, 1) := by decide +kernel
theorem d_Model_compares_91 : decode prog_8_method_21_code 91 = .ok (.iload_n 1, 1) := by decide +kernel
theorem d_Model_compares_92 : decode prog_8_method_21_code 92 = .ok (.iload_n 2, 1) := by decide +kernel
theorem d_Model_compares_93 : decode prog_8_method_21_code 93 = .ok (.if_icmp .gt 7, 3) := by decide +kernel
theorem d_Model_compares_96 : decode prog_8_method_21_code 96 = .ok (.iconst 1, 1) := by decide +kernel
theorem d_Model_compares_97 : decode prog_8_method_21_code 97 = .ok (.goto 4, 3) := by decide +kernel
theorem d_Model_compares_100 : decode prog_8_method_21_code 100 = .ok (.iconst 0, 1) := by decide +kernel
theorem d_Model_compares_101 : decode prog_8_method_21_code 101 = .ok (.ireturn, 1) := by decide +kernel
theorem d_Model_when_0 : decode prog_8_method_22_code 0 = .ok (.aload_n 0, 1) := by decide +kernel
theorem d_Model_when_1 : decode prog_8_method_22_code 1 = .ok (.invokevirtual 81, 3) := by decide +kernel
theorem d_Model_when_4 : decode prog_8_method_22_code 4 = .ok (.istore_n 1, 1) := by decide +kernel
theorem d_Model_when_5 : decode prog_8_method_22_code 5 = .ok (.aload_n 0, 1) := by decide +kernel
theorem d_Model_when_6 : decode prog_8_method_22_code 6 = .ok (.invokevirtual 101, 3) := by decide +kernel
theorem d_Model_when_9 : decode prog_8_method_22_code 9 = .ok (.istore_n 2, 1) := by decide +kernel
theorem d_Model_when_10 : decode prog_8_method_22_code 10 = .ok (.iload_n 1, 1) := by decide +kernel
theorem d_Model_when_11 : decode prog_8_method_22_code 11 = .ok (.sipush 128, 3) := by decide +kernel
theorem d_Model_when_14 : decode prog_8_method_22_code 14 = .ok (.iand, 1) := by decide +kernel
theorem d_Model_when_15 : decode prog_8_method_22_code 15 = .ok (.ifCond .le 15, 3) := by decide +kernel
theorem d_Model_when_18 : decode prog_8_method_22_code 18 = .ok (.aload_n 0, 1) := by decide +kernel
theorem d_Model_when_19 : decode prog_8_method_22_code 19 = .ok (.getfield 16, 3) := by decide +kernel
theorem d_Model_when_22 : decode prog_8_method_22_code 22 = .ok (.aload_n 0, 1) := by decide +kernel
theorem d_Model_when_23 : decode prog_8_method_22_code 23 = .ok (.invokevirtual 101, 3) := by decide +kernel
theorem d_Model_when_26 : decode prog_8_method_22_code 26 = .ok (.iaload, 1) := by decide +kernel
theorem d_Model_when_27 : decode prog_8_method_22_code 27 = .ok (.goto 21, 3) := by decide +kernel
theorem d_Model_when_30 : decode prog_8_method_22_code 30 = .ok (.iload_n 1, 1) := by decide +kernel
theorem d_Model_when_31 : decode prog_8_method_22_code 31 = .ok (.bipush 64, 2) := by decide +kernel
theorem d_Model_when_33 : decode prog_8_method_22_code 33 = .ok (.iand, 1) := by decide +kernel
theorem d_Model_when_34 : decode prog_8_method_22_code 34 = .ok (.ifCond .le 10, 3) := by decide +kernel
theorem d_Model_when_37 : decode prog_8_method_22_code 37 = .ok (.aload_n 0, 1) := by decide +kernel
theorem d_Model_when_38 : decode prog_8_method_22_code 38 = .ok (.invokevirtual 104, 3) := by decide +kernel
theorem d_Model_when_41 : decode prog_8_method_22_code 41 = .ok (.goto 7, 3) := by decide +kernel
theorem d_Model_when_44 : decode prog_8_method_22_code 44 = .ok (.aload_n 0, 1) := by decide +kernel
theorem d_Model_when_45 : decode prog_8_method_22_code 45 = .ok (.invokevirtual 81, 3) := by decide +kernel
theorem d_Model_when_48 : decode prog_8_method_22_code 48 = .ok (.istore_n 3, 1) := by decide +kernel
theorem d_Model_when_49 : decode prog_8_method_22_code 49 = .ok (.iload_n 1, 1) := by decide +kernel
theorem d_Model_when_50 : decode prog_8_method_22_code 50 = .ok (.bipush 7, 2) := by decide +kernel
theorem d_Model_when_52 : decode prog_8_method_22_code 52 = .ok (.iand, 1) := by decide +kernel
theorem d_Model_when_53 : decode prog_8_method_22_code 53 = .ok (.iconst 5, 1) := by decide +kernel
theorem d_Model_when_54 : decode prog_8_method_22_code 54 = .ok (.if_icmp .le 9, 3) := by decide +kernel
theorem d_Model_when_57 : decode prog_8_method_22_code 57 = .ok (.aload_n 0, 1) := by decide +kernel
theorem d_Model_when_58 : decode prog_8_method_22_code 58 = .ok (.iconst 3, 1) := by decide +kernel
theorem d_Model_when_59 : decode prog_8_method_22_code 59 = .ok (.invokevirtual 113, 3) := by decide +kernel
theorem d_Model_when_62 : decode prog_8_method_22_code 62 = .ok (.return_, 1) := by decide +kernel
theorem d_Model_when_63 : decode prog_8_method_22_code 63 = .ok (.aload_n 0, 1) := by decide +kernel
theorem d_Model_when_64 : decode prog_8_method_22_code 64 = .ok (.invokevirtual 107, 3) := by decide +kernel
theorem d_Model_when_67 : decode prog_8_method_22_code 67 = .ok (.istore 4, 2) := by decide +kernel
theorem d_Model_when_69 : decode prog_8_method_22_code 69 = .ok (.aload_n 0, 1) := by decide +kernel
theorem d_Model_when_70 : decode prog_8_method_22_code 70 = .ok (.iload_n 1, 1) := by decide +kernel
theorem d_Model_when_71 : decode prog_8_method_22_code 71 = .ok (.bipush 7, 2) := by decide +kernel
theorem d_Model_when_73 : decode prog_8_method_22_code 73 = .ok (.iand, 1) := by decide +kernel
theorem d_Model_when_74 : decode prog_8_method_22_code 74 = .ok (.aload_n 0, 1) := by decide +kernel
theorem d_Model_when_75 : decode prog_8_method_22_code 75 = .ok (.getfield 16, 3) := by decide +kernel
theorem d_Model_when_78 : decode prog_8_method_22_code 78 = .ok (.iload_n 2, 1) := by decide +kernel
theorem d_Model_when_79 : decode prog_8_method_22_code 79 = .ok (.iaload, 1) := by decide +kernel
theorem d_Model_when_80 : decode prog_8_method_22_code 80 = .ok (.iload_n 3, 1) := by decide +kernel
theorem d_Model_when_81 : decode prog_8_method_22_code 81 = .ok (.invokestatic 117, 3) := by decide +kernel
theorem d_Model_when_84 : decode prog_8_method_22_code 84 = .ok (.ifCond .eq 8, 3) := by decide +kernel
theorem d_Model_when_87 : decode prog_8_method_22_code 87 = .ok (.iload 4, 2) := by decide +kernel
theorem d_Model_when_89 : decode prog_8_method_22_code 89 = .ok (.goto 7, 3) := by decide +kernel
theorem d_Model_when_92 : decode prog_8_method_22_code 92 = .ok (.aload_n 0, 1) := by decide +kernel
theorem d_Model_when_93 : decode prog_8_method_22_code 93 = .ok (.getfield 77, 3) := by decide +kernel
theorem d_Model_when_96 : decode prog_8_method_22_code 96 = .ok (.putfield 77, 3) := by decide +kernel
theorem d_Model_when_99 : decode prog_8_method_22_code 99 = .ok (.return_, 1) := by decide +kernel
theorem d_Model_each_0 : decode prog_8_method_23_code 0 = .ok (.aload_n 0, 1) := by decide +kernel
theorem d_Model_each_1 : decode prog_8_method_23_code 1 = .ok (.invokevirtual 81, 3) := by decide +kernel
theorem d_Model_each_4 : decode prog_8_method_23_code 4 = .ok (.bipush 15, 2) := by decide +kernel
theorem d_Model_each_6 : decode prog_8_method_23_code 6 = .ok (.iand, 1) := by decide +kernel
theorem d_Model_each_7 : decode prog_8_method_23_code 7 = .ok (.istore_n 1, 1) := by decide +kernel
theorem d_Model_each_8 : decode prog_8_method_23_code 8 = .ok (.aload_n 0, 1) := by decide +kernel
theorem d_Model_each_9 : decode prog_8_method_23_code 9 = .ok (.invokevirtual 81, 3) := by decide +kernel
theorem d_Model_each_12 : decode prog_8_method_23_code 12 = .ok (.bipush 15, 2) := by decide +kernel
theorem d_Model_each_14 : decode prog_8_method_23_code 14 = .ok (.iand, 1) := by decide +kernel
theorem d_Model_each_15 : decode prog_8_method_23_code 15 = .ok (.istore_n 2, 1) := by decide +kernel
theorem d_Model_each_16 : decode prog_8_method_23_code 16 = .ok (.aload_n 0, 1) := by decide +kernel
theorem d_Model_each_17 : decode prog_8_method_23_code 17 = .ok (.invokevirtual 81, 3) := by decide +kernel
theorem d_Model_each_20 : decode prog_8_method_23_code 20 = .ok (.istore_n 3, 1) := by decide +kernel
theorem d_Model_each_21 : decode prog_8_method_23_code 21 = .ok (.iload_n 3, 1) := by decide +kernel
theorem d_Model_each_22 : decode prog_8_method_23_code 22 = .ok (.iconst 2, 1) := by decide +kernel
theorem d_Model_each_23 : decode prog_8_method_23_code 23 = .ok (.if_icmp .le 9, 3) := by decide +kernel
theorem d_Model_each_26 : decode prog_8_method_23_code 26 = .ok (.aload_n 0, 1) := by decide +kernel
theorem d_Model_each_27 : decode prog_8_method_23_code 27 = .ok (.iconst 4, 1) := by decide +kernel
theorem d_Model_each_28 : decode prog_8_method_23_code 28 = .ok (.invokevirtual 113, 3) := by decide +kernel
theorem d_Model_each_31 : decode prog_8_method_23_code 31 = .ok (.return_, 1) := by decide +kernel
theorem d_Model_each_32 : decode prog_8_method_23_code 32 = .ok (.iload_n 1, 1) := by decide +kernel
theorem d_Model_each_33 : decode prog_8_method_23_code 33 = .ok (.istore 4, 2) := by decide +kernel
theorem d_Model_each_35 : decode prog_8_method_23_code 35 = .ok (.iload 4, 2) := by decide +kernel
theorem d_Model_each_37 : decode prog_8_method_23_code 37 = .ok (.iload_n 2, 1) := by decide +kernel
theorem d_Model_each_38 : decode prog_8_method_23_code 38 = .ok (.if_icmp .gt 33, 3) := by decide +kernel
theorem d_Model_each_41 : decode prog_8_method_23_code 41 = .ok (.iload_n 3, 1) := by decide +kernel
theorem d_Model_each_42 : decode prog_8_method_23_code 42 = .ok (.iconst 2, 1) := by decide +kernel
theorem d_Model_each_43 : decode prog_8_method_23_code 43 = .ok (.if_icmp .ne 14, 3) := by decide +kernel
theorem d_Model_each_46 : decode prog_8_method_23_code 46 = .ok (.aload_n 0, 1) := by decide +kernel
theorem d_Model_each_47 : decode prog_8_method_23_code 47 = .ok (.getfield 32, 3) := by decide +kernel
theorem d_Model_each_50 : decode prog_8_method_23_code 50 = .ok (.iload 4, 2) := by decide +kernel
theorem d_Model_each_52 : decode prog_8_method_23_code 52 = .ok (.iconst (-1), 1) := by decide +kernel
theorem d_Model_each_53 : decode prog_8_method_23_code 53 = .ok (.iastore, 1) := by decide +kernel
theorem d_Model_each_54 : decode prog_8_method_23_code 54 = .ok (.goto 11, 3) := by decide +kernel
theorem d_Model_each_57 : decode prog_8_method_23_code 57 = .ok (.aload_n 0, 1) := by decide +kernel
theorem d_Model_each_58 : decode prog_8_method_23_code 58 = .ok (.getfield 35, 3) := by decide +kernel
theorem d_Model_each_61 : decode prog_8_method_23_code 61 = .ok (.iload 4, 2) := by decide +kernel
theorem d_Model_each_63 : decode prog_8_method_23_code 63 = .ok (.iload_n 3, 1) := by decide +kernel
theorem d_Model_each_64 : decode prog_8_method_23_code 64 = .ok (.iastore, 1) := by decide +kernel
theorem d_Model_each_65 : decode prog_8_method_23_code 65 = .ok (.iinc 4 1, 3) := by decide +kernel
theorem d_Model_each_68 : decode prog_8_method_23_code 68 = .ok (.goto (-33), 3) := by decide +kernel
theorem d_Model_each_71 : decode prog_8_method_23_code 71 = .ok (.return_, 1) := by decide +kernel
theorem d_Model_start_0 : decode prog_8_method_24_code 0 = .ok (.aload_n 0, 1) := by decide +kernel
theorem d_Model_start_1 : decode prog_8_method_24_code 1 = .ok (.invokevirtual 81, 3) := by decide +kernel
theorem d_Model_start_4 : decode prog_8_method_24_code 4 = .ok (.bipush 15, 2) := by decide +kernel
theorem d_Model_start_6 : decode prog_8_method_24_code 6 = .ok (.iand, 1) := by decide +kernel
theorem d_Model_start_7 : decode prog_8_method_24_code 7 = .ok (.istore_n 1, 1) := by decide +kernel
theorem d_Model_start_8 : decode prog_8_method_24_code 8 = .ok (.aload_n 0, 1) := by decide +kernel
theorem d_Model_start_9 : decode prog_8_method_24_code 9 = .ok (.getfield 32, 3) := by decide +kernel
theorem d_Model_start_12 : decode prog_8_method_24_code 12 = .ok (.iload_n 1, 1) := by decide +kernel
theorem d_Model_start_13 : decode prog_8_method_24_code 13 = .ok (.aload_n 0, 1) := by decide +kernel
theorem d_Model_start_14 : decode prog_8_method_24_code 14 = .ok (.invokevirtual 107, 3) := by decide +kernel
theorem d_Model_start_17 : decode prog_8_method_24_code 17 = .ok (.iastore, 1) := by decide +kernel
theorem d_Model_start_18 : decode prog_8_method_24_code 18 = .ok (.return_, 1) := by decide +kernel
theorem d_Model_fill_0 : decode prog_8_method_25_code 0 = .ok (.aload_n 0, 1) := by decide +kernel
theorem d_Model_fill_1 : decode prog_8_method_25_code 1 = .ok (.invokevirtual 120, 3) := by decide +kernel
theorem d_Model_fill_4 : decode prog_8_method_25_code 4 = .ok (.istore_n 1, 1) := by decide +kernel
theorem d_Model_fill_5 : decode prog_8_method_25_code 5 = .ok (.aload_n 0, 1) := by decide +kernel
theorem d_Model_fill_6 : decode prog_8_method_25_code 6 = .ok (.invokevirtual 81, 3) := by decide +kernel
theorem d_Model_fill_9 : decode prog_8_method_25_code 9 = .ok (.bipush 15, 2) := by decide +kernel
theorem d_Model_fill_11 : decode prog_8_method_25_code 11 = .ok (.iand, 1) := by decide +kernel
theorem d_Model_fill_12 : decode prog_8_method_25_code 12 = .ok (.istore_n 2, 1) := by decide +kernel
theorem d_Model_fill_13 : decode prog_8_method_25_code 13 = .ok (.iconst 0, 1) := by decide +kernel
theorem d_Model_fill_14 : decode prog_8_method_25_code 14 = .ok (.istore_n 3, 1) := by decide +kernel
theorem d_Model_fill_15 : decode prog_8_method_25_code 15 = .ok (.iload_n 3, 1) := by decide +kernel
theorem d_Model_fill_16 : decode prog_8_method_25_code 16 = .ok (.sipush 2560, 3) := by decide +kernel
theorem d_Model_fill_19 : decode prog_8_method_25_code 19 = .ok (.if_icmp .ge 23, 3) := by decide +kernel
theorem d_Model_fill_22 : decode prog_8_method_25_code 22 = .ok (.aload_n 0, 1) := by decide +kernel
theorem d_Model_fill_23 : decode prog_8_method_25_code 23 = .ok (.getfield 19, 3) := by decide +kernel
theorem d_Model_fill_26 : decode prog_8_method_25_code 26 = .ok (.sipush 2560, 3) := by decide +kernel
theorem d_Model_fill_29 : decode prog_8_method_25_code 29 = .ok (.iload_n 1, 1) := by decide +kernel
theorem d_Model_fill_30 : decode prog_8_method_25_code 30 = .ok (.imul, 1) := by decide +kernel
theorem d_Model_fill_31 : decode prog_8_method_25_code 31 = .ok (.iload_n 3, 1) := by decide +kernel
theorem d_Model_fill_32 : decode prog_8_method_25_code 32 = .ok (.iadd, 1) := by decide +kernel
theorem d_Model_fill_33 : decode prog_8_method_25_code 33 = .ok (.iload_n 2, 1) := by decide +kernel
theorem d_Model_fill_34 : decode prog_8_method_25_code 34 = .ok (.i2b, 1) := by decide +kernel
theorem d_Model_fill_35 : decode prog_8_method_25_code 35 = .ok (.bastore, 1) := by decide +kernel
theorem d_Model_fill_36 : decode prog_8_method_25_code 36 = .ok (.iinc 3 1, 3) := by decide +kernel
theorem d_Model_fill_39 : decode prog_8_method_25_code 39 = .ok (.goto (-24), 3) := by decide +kernel
theorem d_Model_fill_42 : decode prog_8_method_25_code 42 = .ok (.return_, 1) := by decide +kernel
theorem d_Model_copy_0 : decode prog_8_method_26_code 0 = .ok (.aload_n 0, 1) := by decide +kernel
theorem d_Model_copy_1 : decode prog_8_method_26_code 1 = .ok (.invokevirtual 120, 3) := by decide +kernel
theorem d_Model_copy_4 : decode prog_8_method_26_code 4 = .ok (.istore_n 1, 1) := by decide +kernel
theorem d_Model_copy_5 : decode prog_8_method_26_code 5 = .ok (.aload_n 0, 1) := by decide +kernel
theorem d_Model_copy_6 : decode prog_8_method_26_code 6 = .ok (.invokevirtual 120, 3) := by decide +kernel
theorem d_Model_copy_9 : decode prog_8_method_26_code 9 = .ok (.istore_n 2, 1) := by decide +kernel
theorem d_Model_copy_10 : decode prog_8_method_26_code 10 = .ok (.iconst 0, 1) := by decide +kernel
theorem d_Model_copy_11 : decode prog_8_method_26_code 11 = .ok (.istore_n 3, 1) := by decide +kernel
theorem d_Model_copy_12 : decode prog_8_method_26_code 12 = .ok (.iload_n 3, 1) := by decide +kernel
theorem d_Model_copy_13 : decode prog_8_method_26_code 13 = .ok (.sipush 2560, 3) := by decide +kernel
theorem d_Model_copy_16 : decode prog_8_method_26_code 16 = .ok (.if_icmp .ge 33, 3) := by decide +kernel
theorem d_Model_copy_19 : decode prog_8_method_26_code 19 = .ok (.aload_n 0, 1) := by decide +kernel
theorem d_Model_copy_20 : decode prog_8_method_26_code 20 = .ok (.getfield 19, 3) := by decide +kernel
theorem d_Model_copy_23 : decode prog_8_method_26_code 23 = .ok (.sipush 2560, 3) := by decide +kernel
theorem d_Model_copy_26 : decode prog_8_method_26_code 26 = .ok (.iload_n 1, 1) := by decide +kernel
theorem d_Model_copy_27 : decode prog_8_method_26_code 27 = .ok (.imul, 1) := by decide +kernel
theorem d_Model_copy_28 : decode prog_8_method_26_code 28 = .ok (.iload_n 3, 1) := by decide +kernel
theorem d_Model_copy_29 : decode prog_8_method_26_code 29 = .ok (.iadd, 1) := by decide +kernel
theorem d_Model_copy_30 : decode prog_8_method_26_code 30 = .ok (.aload_n 0, 1) := by decide +kernel
theorem d_Model_copy_31 : decode prog_8_method_26_code 31 = .ok (.getfield 19, 3) := by decide +kernel
theorem d_Model_copy_34 : decode prog_8_method_26_code 34 = .ok (.sipush 2560, 3) := by decide +kernel
theorem d_Model_copy_37 : decode prog_8_method_26_code 37 = .ok (.iload_n 2, 1) := by decide +kernel
theorem d_Model_copy_38 : decode prog_8_method_26_code 38 = .ok (.imul, 1) := by decide +kernel
theorem d_Model_copy_39 : decode prog_8_method_26_code 39 = .ok (.iload_n 3, 1) := by decide +kernel
theorem d_Model_copy_40 : decode prog_8_method_26_code 40 = .ok (.iadd, 1) := by decide +kernel
theorem d_Model_copy_41 : decode prog_8_method_26_code 41 = .ok (.baload, 1) := by decide +kernel
theorem d_Model_copy_42 : decode prog_8_method_26_code 42 = .ok (.bastore, 1) := by decide +kernel
theorem d_Model_copy_43 : decode prog_8_method_26_code 43 = .ok (.iinc 3 1, 3) := by decide +kernel
theorem d_Model_copy_46 : decode prog_8_method_26_code 46 = .ok (.goto (-34), 3) := by decide +kernel
theorem d_Model_copy_49 : decode prog_8_method_26_code 49 = .ok (.return_, 1) := by decide +kernel
theorem d_Model_instruct_0 : decode prog_8_method_27_code 0 = .ok (.aload_n 0, 1) := by decide +kernel
theorem d_Model_instruct_1 : decode prog_8_method_27_code 1 = .ok (.invokevirtual 81, 3) := by decide +kernel
theorem d_Model_instruct_4 : decode prog_8_method_27_code 4 = .ok (.istore_n 1, 1) := by decide +kernel
theorem d_Model_instruct_5 : decode prog_8_method_27_code 5 = .ok (.aload_n 0, 1) := by decide +kernel
theorem d_Model_instruct_6 : decode prog_8_method_27_code 6 = .ok (.dup, 1) := by decide +kernel
theorem d_Model_instruct_7 : decode prog_8_method_27_code 7 = .ok (.getfield 123, 3) := by decide +kernel
theorem d_Model_instruct_10 : decode prog_8_method_27_code 10 = .ok (.iconst 1, 1) := by decide +kernel
theorem d_Model_instruct_11 : decode prog_8_method_27_code 11 = .ok (.iadd, 1) := by decide +kernel
theorem d_Model_instruct_12 : decode prog_8_method_27_code 12 = .ok (.putfield 123, 3) := by decide +kernel
theorem d_Model_instruct_15 : decode prog_8_method_27_code 15 = .ok (.iload_n 1, 1) := by decide +kernel
theorem d_Model_instruct_16 : decode prog_8_method_27_code 16 = .ok (.tableswitch 189 9 22 #[72, 83, 90, 97, 104, 111, 119, 132, 139, 146, 157, 164, 171, 182], 72) := by decide +kernel
theorem d_Model_instruct_88 : decode prog_8_method_27_code 88 = .ok (.aload_n 0, 1) := by decide +kernel
theorem d_Model_instruct_89 : decode prog_8_method_27_code 89 = .ok (.aload_n 0, 1) := by decide +kernel
theorem d_Model_instruct_90 : decode prog_8_method_27_code 90 = .ok (.invokevirtual 107, 3) := by decide +kernel
theorem d_Model_instruct_93 : decode prog_8_method_27_code 93 = .ok (.putfield 77, 3) := by decide +kernel
theorem d_Model_instruct_96 : decode prog_8_method_27_code 96 = .ok (.goto 128, 3) := by decide +kernel
theorem d_Model_instruct_99 : decode prog_8_method_27_code 99 = .ok (.aload_n 0, 1) := by decide +kernel
theorem d_Model_instruct_100 : decode prog_8_method_27_code 100 = .ok (.invokevirtual 126, 3) := by decide +kernel
theorem d_Model_instruct_103 : decode prog_8_method_27_code 103 = .ok (.goto 121, 3) := by decide +kernel
theorem d_Model_instruct_106 : decode prog_8_method_27_code 106 = .ok (.aload_n 0, 1) := by decide +kernel
theorem d_Model_instruct_107 : decode prog_8_method_27_code 107 = .ok (.invokevirtual 129, 3) := by decide +kernel
theorem d_Model_instruct_110 : decode prog_8_method_27_code 110 = .ok (.goto 114, 3) := by decide +kernel
theorem d_Model_instruct_113 : decode prog_8_method_27_code 113 = .ok (.aload_n 0, 1) := by decide +kernel
theorem d_Model_instruct_114 : decode prog_8_method_27_code 114 = .ok (.invokevirtual 132, 3) := by decide +kernel
theorem d_Model_instruct_117 : decode prog_8_method_27_code 117 = .ok (.goto 107, 3) := by decide +kernel
theorem d_Model_instruct_120 : decode prog_8_method_27_code 120 = .ok (.aload_n 0, 1) := by decide +kernel
theorem d_Model_instruct_121 : decode prog_8_method_27_code 121 = .ok (.invokevirtual 135, 3) := by decide +kernel
theorem d_Model_instruct_124 : decode prog_8_method_27_code 124 = .ok (.goto 100, 3) := by decide +kernel
theorem d_Model_instruct_127 : decode prog_8_method_27_code 127 = .ok (.aload_n 0, 1) := by decide +kernel
theorem d_Model_instruct_128 : decode prog_8_method_27_code 128 = .ok (.iconst 0, 1) := by decide +kernel
theorem d_Model_instruct_129 : decode prog_8_method_27_code 129 = .ok (.putfield 97, 3) := by decide +kernel
theorem d_Model_instruct_132 : decode prog_8_method_27_code 132 = .ok (.goto 92, 3) := by decide +kernel
theorem d_Model_instruct_135 : decode prog_8_method_27_code 135 = .ok (.aload_n 0, 1) := by decide +kernel
theorem d_Model_instruct_136 : decode prog_8_method_27_code 136 = .ok (.iconst (-1), 1) := by decide +kernel
theorem d_Model_instruct_137 : decode prog_8_method_27_code 137 = .ok (.putfield 77, 3) := by decide +kernel
theorem d_Model_instruct_140 : decode prog_8_method_27_code 140 = .ok (.aload_n 0, 1) := by decide +kernel
theorem d_Model_instruct_141 : decode prog_8_method_27_code 141 = .ok (.iconst 0, 1) := by decide +kernel
theorem d_Model_instruct_142 : decode prog_8_method_27_code 142 = .ok (.putfield 97, 3) := by decide +kernel
theorem d_Model_instruct_145 : decode prog_8_method_27_code 145 = .ok (.goto 79, 3) := by decide +kernel
theorem d_Model_instruct_148 : decode prog_8_method_27_code 148 = .ok (.aload_n 0, 1) := by decide +kernel
theorem d_Model_instruct_149 : decode prog_8_method_27_code 149 = .ok (.invokevirtual 138, 3) := by decide +kernel
theorem d_Model_instruct_152 : decode prog_8_method_27_code 152 = .ok (.goto 72, 3) := by decide +kernel
theorem d_Model_instruct_155 : decode prog_8_method_27_code 155 = .ok (.aload_n 0, 1) := by decide +kernel
theorem d_Model_instruct_156 : decode prog_8_method_27_code 156 = .ok (.invokevirtual 141, 3) := by decide +kernel
theorem d_Model_instruct_159 : decode prog_8_method_27_code 159 = .ok (.goto 65, 3) := by decide +kernel
theorem d_Model_instruct_162 : decode prog_8_method_27_code 162 = .ok (.aload_n 0, 1) := by decide +kernel
theorem d_Model_instruct_163 : decode prog_8_method_27_code 163 = .ok (.aload_n 0, 1) := by decide +kernel
theorem d_Model_instruct_164 : decode prog_8_method_27_code 164 = .ok (.invokevirtual 120, 3) := by decide +kernel
theorem d_Model_instruct_167 : decode prog_8_method_27_code 167 = .ok (.putfield 91, 3) := by decide +kernel
theorem d_Model_instruct_170 : decode prog_8_method_27_code 170 = .ok (.goto 54, 3) := by decide +kernel
theorem d_Model_instruct_173 : decode prog_8_method_27_code 173 = .ok (.aload_n 0, 1) := by decide +kernel
theorem d_Model_instruct_174 : decode prog_8_method_27_code 174 = .ok (.invokevirtual 144, 3) := by decide +kernel
theorem d_Model_instruct_177 : decode prog_8_method_27_code 177 = .ok (.goto 47, 3) := by decide +kernel
theorem d_Model_instruct_180 : decode prog_8_method_27_code 180 = .ok (.aload_n 0, 1) := by decide +kernel
theorem d_Model_instruct_181 : decode prog_8_method_27_code 181 = .ok (.invokevirtual 147, 3) := by decide +kernel
theorem d_Model_instruct_184 : decode prog_8_method_27_code 184 = .ok (.goto 40, 3) := by decide +kernel
theorem d_Model_instruct_187 : decode prog_8_method_27_code 187 = .ok (.aload_n 0, 1) := by decide +kernel
theorem d_Model_instruct_188 : decode prog_8_method_27_code 188 = .ok (.aload_n 0, 1) := by decide +kernel
theorem d_Model_instruct_189 : decode prog_8_method_27_code 189 = .ok (.invokevirtual 120, 3) := by decide +kernel
theorem d_Model_instruct_192 : decode prog_8_method_27_code 192 = .ok (.putfield 88, 3) := by decide +kernel
theorem d_Model_instruct_195 : decode prog_8_method_27_code 195 = .ok (.goto 29, 3) := by decide +kernel
theorem d_Model_instruct_198 : decode prog_8_method_27_code 198 = .ok (.aload_n 0, 1) := by decide +kernel
theorem d_Model_instruct_199 : decode prog_8_method_27_code 199 = .ok (.invokevirtual 150, 3) := by decide +kernel
theorem d_Model_instruct_202 : decode prog_8_method_27_code 202 = .ok (.goto 22, 3) := by decide +kernel
theorem d_Model_instruct_205 : decode prog_8_method_27_code 205 = .ok (.iload_n 1, 1) := by decide +kernel
theorem d_Model_instruct_206 : decode prog_8_method_27_code 206 = .ok (.bipush 9, 2) := by decide +kernel
theorem d_Model_instruct_208 : decode prog_8_method_27_code 208 = .ok (.if_icmp .ge 11, 3) := by decide +kernel
theorem d_Model_instruct_211 : decode prog_8_method_27_code 211 = .ok (.aload_n 0, 1) := by decide +kernel
theorem d_Model_instruct_212 : decode prog_8_method_27_code 212 = .ok (.iload_n 1, 1) := by decide +kernel
theorem d_Model_instruct_213 : decode prog_8_method_27_code 213 = .ok (.invokevirtual 153, 3) := by decide +kernel
theorem d_Model_instruct_216 : decode prog_8_method_27_code 216 = .ok (.goto 8, 3) := by decide +kernel
theorem d_Model_instruct_219 : decode prog_8_method_27_code 219 = .ok (.aload_n 0, 1) := by decide +kernel
theorem d_Model_instruct_220 : decode prog_8_method_27_code 220 = .ok (.iconst 5, 1) := by decide +kernel
theorem d_Model_instruct_221 : decode prog_8_method_27_code 221 = .ok (.invokevirtual 113, 3) := by decide +kernel
theorem d_Model_instruct_224 : decode prog_8_method_27_code 224 = .ok (.return_, 1) := by decide +kernel
theorem d_Model_turn_0 : decode prog_8_method_28_code 0 = .ok (.aload_n 0, 1) := by decide +kernel
theorem d_Model_turn_1 : decode prog_8_method_28_code 1 = .ok (.iload_n 1, 1) := by decide +kernel
theorem d_Model_turn_2 : decode prog_8_method_28_code 2 = .ok (.putfield 110, 3) := by decide +kernel
theorem d_Model_turn_5 : decode prog_8_method_28_code 5 = .ok (.aload_n 0, 1) := by decide +kernel
theorem d_Model_turn_6 : decode prog_8_method_28_code 6 = .ok (.aload_n 0, 1) := by decide +kernel
theorem d_Model_turn_7 : decode prog_8_method_28_code 7 = .ok (.getfield 23, 3) := by decide +kernel
theorem d_Model_turn_10 : decode prog_8_method_28_code 10 = .ok (.iload_n 1, 1) := by decide +kernel
theorem d_Model_turn_11 : decode prog_8_method_28_code 11 = .ok (.iaload, 1) := by decide +kernel
theorem d_Model_turn_12 : decode prog_8_method_28_code 12 = .ok (.putfield 77, 3) := by decide +kernel
theorem d_Model_turn_15 : decode prog_8_method_28_code 15 = .ok (.aload_n 0, 1) := by decide +kernel
theorem d_Model_turn_16 : decode prog_8_method_28_code 16 = .ok (.iconst 0, 1) := by decide +kernel
theorem d_Model_turn_17 : decode prog_8_method_28_code 17 = .ok (.putfield 94, 3) := by decide +kernel
theorem d_Model_turn_20 : decode prog_8_method_28_code 20 = .ok (.aload_n 0, 1) := by decide +kernel
theorem d_Model_turn_21 : decode prog_8_method_28_code 21 = .ok (.iconst 1, 1) := by decide +kernel
theorem d_Model_turn_22 : decode prog_8_method_28_code 22 = .ok (.putfield 97, 3) := by decide +kernel
theorem d_Model_turn_25 : decode prog_8_method_28_code 25 = .ok (.iconst 0, 1) := by decide +kernel
theorem d_Model_turn_26 : decode prog_8_method_28_code 26 = .ok (.istore_n 3, 1) := by decide +kernel
theorem d_Model_turn_27 : decode prog_8_method_28_code 27 = .ok (.iload_n 3, 1) := by decide +kernel
theorem d_Model_turn_28 : decode prog_8_method_28_code 28 = .ok (.iload_n 2, 1) := by decide +kernel
theorem d_Model_turn_29 : decode prog_8_method_28_code 29 = .ok (.if_icmp .ge 20, 3) := by decide +kernel
theorem d_Model_turn_32 : decode prog_8_method_28_code 32 = .ok (.aload_n 0, 1) := by decide +kernel
theorem d_Model_turn_33 : decode prog_8_method_28_code 33 = .ok (.getfield 97, 3) := by decide +kernel
theorem d_Model_turn_36 : decode prog_8_method_28_code 36 = .ok (.ifCond .eq 13, 3) := by decide +kernel
theorem d_Model_turn_39 : decode prog_8_method_28_code 39 = .ok (.aload_n 0, 1) := by decide +kernel
theorem d_Model_turn_40 : decode prog_8_method_28_code 40 = .ok (.invokevirtual 156, 3) := by decide +kernel
theorem d_Model_turn_43 : decode prog_8_method_28_code 43 = .ok (.iinc 3 1, 3) := by decide +kernel
theorem d_Model_turn_46 : decode prog_8_method_28_code 46 = .ok (.goto (-19), 3) := by decide +kernel
theorem d_Model_turn_49 : decode prog_8_method_28_code 49 = .ok (.aload_n 0, 1) := by decide +kernel
theorem d_Model_turn_50 : decode prog_8_method_28_code 50 = .ok (.getfield 23, 3) := by decide +kernel
theorem d_Model_turn_53 : decode prog_8_method_28_code 53 = .ok (.iload_n 1, 1) := by decide +kernel
theorem d_Model_turn_54 : decode prog_8_method_28_code 54 = .ok (.aload_n 0, 1) := by decide +kernel
theorem d_Model_turn_55 : decode prog_8_method_28_code 55 = .ok (.getfield 94, 3) := by decide +kernel
theorem d_Model_turn_58 : decode prog_8_method_28_code 58 = .ok (.ifCond .le 7, 3) := by decide +kernel
theorem d_Model_turn_61 : decode prog_8_method_28_code 61 = .ok (.iconst (-1), 1) := by decide +kernel
theorem d_Model_turn_62 : decode prog_8_method_28_code 62 = .ok (.goto 7, 3) := by decide +kernel
theorem d_Model_turn_65 : decode prog_8_method_28_code 65 = .ok (.aload_n 0, 1) := by decide +kernel
theorem d_Model_turn_66 : decode prog_8_method_28_code 66 = .ok (.getfield 77, 3) := by decide +kernel
theorem d_Model_turn_69 : decode prog_8_method_28_code 69 = .ok (.iastore, 1) := by decide +kernel
theorem d_Model_turn_70 : decode prog_8_method_28_code 70 = .ok (.aload_n 0, 1) := by decide +kernel
theorem d_Model_turn_71 : decode prog_8_method_28_code 71 = .ok (.getfield 29, 3) := by decide +kernel
theorem d_Model_turn_74 : decode prog_8_method_28_code 74 = .ok (.iload_n 1, 1) := by decide +kernel
theorem d_Model_turn_75 : decode prog_8_method_28_code 75 = .ok (.aload_n 0, 1) := by decide +kernel
theorem d_Model_turn_76 : decode prog_8_method_28_code 76 = .ok (.getfield 94, 3) := by decide +kernel
theorem d_Model_turn_79 : decode prog_8_method_28_code 79 = .ok (.ifCond .le 10, 3) := by decide +kernel
theorem d_Model_turn_82 : decode prog_8_method_28_code 82 = .ok (.aload_n 0, 1) := by decide +kernel
theorem d_Model_turn_83 : decode prog_8_method_28_code 83 = .ok (.getfield 94, 3) := by decide +kernel
theorem d_Model_turn_86 : decode prog_8_method_28_code 86 = .ok (.goto 9, 3) := by decide +kernel
theorem d_Model_turn_89 : decode prog_8_method_28_code 89 = .ok (.aload_n 0, 1) := by decide +kernel
theorem d_Model_turn_90 : decode prog_8_method_28_code 90 = .ok (.getfield 29, 3) := by decide +kernel
theorem d_Model_turn_93 : decode prog_8_method_28_code 93 = .ok (.iload_n 1, 1) := by decide +kernel
theorem d_Model_turn_94 : decode prog_8_method_28_code 94 = .ok (.iaload, 1) := by decide +kernel
theorem d_Model_turn_95 : decode prog_8_method_28_code 95 = .ok (.iastore, 1) := by decide +kernel
theorem d_Model_turn_96 : decode prog_8_method_28_code 96 = .ok (.return_, 1) := by decide +kernel
theorem d_Model_settle_0 : decode prog_8_method_29_code 0 = .ok (.iconst 0, 1) := by decide +kernel
theorem d_Model_settle_1 : decode prog_8_method_29_code 1 = .ok (.istore_n 1, 1) := by decide +kernel
theorem d_Model_settle_2 : decode prog_8_method_29_code 2 = .ok (.iload_n 1, 1) := by decide +kernel
theorem d_Model_settle_3 : decode prog_8_method_29_code 3 = .ok (.bipush 16, 2) := by decide +kernel
theorem d_Model_settle_5 : decode prog_8_method_29_code 5 = .ok (.if_icmp .ge 87, 3) := by decide +kernel
theorem d_Model_settle_8 : decode prog_8_method_29_code 8 = .ok (.aload_n 0, 1) := by decide +kernel
theorem d_Model_settle_9 : decode prog_8_method_29_code 9 = .ok (.getfield 32, 3) := by decide +kernel
theorem d_Model_settle_12 : decode prog_8_method_29_code 12 = .ok (.iload_n 1, 1) := by decide +kernel
theorem d_Model_settle_13 : decode prog_8_method_29_code 13 = .ok (.iaload, 1) := by decide +kernel
theorem d_Model_settle_14 : decode prog_8_method_29_code 14 = .ok (.bipush (-2), 2) := by decide +kernel
theorem d_Model_settle_16 : decode prog_8_method_29_code 16 = .ok (.if_icmp .eq 30, 3) := by decide +kernel
theorem d_Model_settle_19 : decode prog_8_method_29_code 19 = .ok (.aload_n 0, 1) := by decide +kernel
theorem d_Model_settle_20 : decode prog_8_method_29_code 20 = .ok (.getfield 23, 3) := by decide +kernel
theorem d_Model_settle_23 : decode prog_8_method_29_code 23 = .ok (.iload_n 1, 1) := by decide +kernel
theorem d_Model_settle_24 : decode prog_8_method_29_code 24 = .ok (.aload_n 0, 1) := by decide +kernel
theorem d_Model_settle_25 : decode prog_8_method_29_code 25 = .ok (.getfield 32, 3) := by decide +kernel
theorem d_Model_settle_28 : decode prog_8_method_29_code 28 = .ok (.iload_n 1, 1) := by decide +kernel
theorem d_Model_settle_29 : decode prog_8_method_29_code 29 = .ok (.iaload, 1) := by decide +kernel
theorem d_Model_settle_30 : decode prog_8_method_29_code 30 = .ok (.iastore, 1) := by decide +kernel
theorem d_Model_settle_31 : decode prog_8_method_29_code 31 = .ok (.aload_n 0, 1) := by decide +kernel
theorem d_Model_settle_32 : decode prog_8_method_29_code 32 = .ok (.getfield 26, 3) := by decide +kernel
theorem d_Model_settle_35 : decode prog_8_method_29_code 35 = .ok (.iload_n 1, 1) := by decide +kernel
theorem d_Model_settle_36 : decode prog_8_method_29_code 36 = .ok (.iconst 0, 1) := by decide +kernel
theorem d_Model_settle_37 : decode prog_8_method_29_code 37 = .ok (.iastore, 1) := by decide +kernel
theorem d_Model_settle_38 : decode prog_8_method_29_code 38 = .ok (.aload_n 0, 1) := by decide +kernel
theorem d_Model_settle_39 : decode prog_8_method_29_code 39 = .ok (.getfield 32, 3) := by decide +kernel
theorem d_Model_settle_42 : decode prog_8_method_29_code 42 = .ok (.iload_n 1, 1) := by decide +kernel
theorem d_Model_settle_43 : decode prog_8_method_29_code 43 = .ok (.bipush (-2), 2) := by decide +kernel
theorem d_Model_settle_45 : decode prog_8_method_29_code 45 = .ok (.iastore, 1) := by decide +kernel
theorem d_Model_settle_46 : decode prog_8_method_29_code 46 = .ok (.aload_n 0, 1) := by decide +kernel
theorem d_Model_settle_47 : decode prog_8_method_29_code 47 = .ok (.getfield 35, 3) := by decide +kernel
theorem d_Model_settle_50 : decode prog_8_method_29_code 50 = .ok (.iload_n 1, 1) := by decide +kernel
theorem d_Model_settle_51 : decode prog_8_method_29_code 51 = .ok (.iaload, 1) := by decide +kernel
theorem d_Model_settle_52 : decode prog_8_method_29_code 52 = .ok (.bipush (-2), 2) := by decide +kernel
theorem d_Model_settle_54 : decode prog_8_method_29_code 54 = .ok (.if_icmp .eq 32, 3) := by decide +kernel
theorem d_Model_settle_57 : decode prog_8_method_29_code 57 = .ok (.aload_n 0, 1) := by decide +kernel
theorem d_Model_settle_58 : decode prog_8_method_29_code 58 = .ok (.getfield 38, 3) := by decide +kernel
theorem d_Model_settle_61 : decode prog_8_method_29_code 61 = .ok (.iload_n 1, 1) := by decide +kernel
theorem d_Model_settle_62 : decode prog_8_method_29_code 62 = .ok (.aload_n 0, 1) := by decide +kernel
theorem d_Model_settle_63 : decode prog_8_method_29_code 63 = .ok (.getfield 35, 3) := by decide +kernel
theorem d_Model_settle_66 : decode prog_8_method_29_code 66 = .ok (.iload_n 1, 1) := by decide +kernel
theorem d_Model_settle_67 : decode prog_8_method_29_code 67 = .ok (.iaload, 1) := by decide +kernel
theorem d_Model_settle_68 : decode prog_8_method_29_code 68 = .ok (.iconst 1, 1) := by decide +kernel
theorem d_Model_settle_69 : decode prog_8_method_29_code 69 = .ok (.if_icmp .ne 7, 3) := by decide +kernel
theorem d_Model_settle_72 : decode prog_8_method_29_code 72 = .ok (.iconst 1, 1) := by decide +kernel
theorem d_Model_settle_73 : decode prog_8_method_29_code 73 = .ok (.goto 4, 3) := by decide +kernel
theorem d_Model_settle_76 : decode prog_8_method_29_code 76 = .ok (.iconst 0, 1) := by decide +kernel
theorem d_Model_settle_77 : decode prog_8_method_29_code 77 = .ok (.bastore, 1) := by decide +kernel
theorem d_Model_settle_78 : decode prog_8_method_29_code 78 = .ok (.aload_n 0, 1) := by decide +kernel
theorem d_Model_settle_79 : decode prog_8_method_29_code 79 = .ok (.getfield 35, 3) := by decide +kernel
theorem d_Model_settle_82 : decode prog_8_method_29_code 82 = .ok (.iload_n 1, 1) := by decide +kernel
theorem d_Model_settle_83 : decode prog_8_method_29_code 83 = .ok (.bipush (-2), 2) := by decide +kernel
theorem d_Model_settle_85 : decode prog_8_method_29_code 85 = .ok (.iastore, 1) := by decide +kernel
theorem d_Model_settle_86 : decode prog_8_method_29_code 86 = .ok (.iinc 1 1, 3) := by decide +kernel
theorem d_Model_settle_89 : decode prog_8_method_29_code 89 = .ok (.goto (-87), 3) := by decide +kernel
theorem d_Model_settle_92 : decode prog_8_method_29_code 92 = .ok (.return_, 1) := by decide +kernel
theorem d_Model_frame_0 : decode prog_8_method_30_code 0 = .ok (.iload_n 1, 1) := by decide +kernel
theorem d_Model_frame_1 : decode prog_8_method_30_code 1 = .ok (.iconst 1, 1) := by decide +kernel
theorem d_Model_frame_2 : decode prog_8_method_30_code 2 = .ok (.sipush 500, 3) := by decide +kernel
theorem d_Model_frame_5 : decode prog_8_method_30_code 5 = .ok (.invokestatic 69, 3) := by decide +kernel
theorem d_Model_frame_8 : decode prog_8_method_30_code 8 = .ok (.ifCond .ne 5, 3) := by decide +kernel
theorem d_Model_frame_11 : decode prog_8_method_30_code 11 = .ok (.iconst (-1), 1) := by decide +kernel
theorem d_Model_frame_12 : decode prog_8_method_30_code 12 = .ok (.ireturn, 1) := by decide +kernel
theorem d_Model_frame_13 : decode prog_8_method_30_code 13 = .ok (.aload_n 0, 1) := by decide +kernel
theorem d_Model_frame_14 : decode prog_8_method_30_code 14 = .ok (.dup, 1) := by decide +kernel
theorem d_Model_frame_15 : decode prog_8_method_30_code 15 = .ok (.getfield 159, 3) := by decide +kernel
theorem d_Model_frame_18 : decode prog_8_method_30_code 18 = .ok (.iconst 1, 1) := by decide +kernel
theorem d_Model_frame_19 : decode prog_8_method_30_code 19 = .ok (.iadd, 1) := by decide +kernel
theorem d_Model_frame_20 : decode prog_8_method_30_code 20 = .ok (.putfield 159, 3) := by decide +kernel
theorem d_Model_frame_23 : decode prog_8_method_30_code 23 = .ok (.aload_n 0, 1) := by decide +kernel
theorem d_Model_frame_24 : decode prog_8_method_30_code 24 = .ok (.iconst 0, 1) := by decide +kernel
theorem d_Model_frame_25 : decode prog_8_method_30_code 25 = .ok (.putfield 123, 3) := by decide +kernel
theorem d_Model_frame_28 : decode prog_8_method_30_code 28 = .ok (.aload_n 0, 1) := by decide +kernel
theorem d_Model_frame_29 : decode prog_8_method_30_code 29 = .ok (.iconst 0, 1) := by decide +kernel
theorem d_Model_frame_30 : decode prog_8_method_30_code 30 = .ok (.putfield 162, 3) := by decide +kernel
theorem d_Model_frame_33 : decode prog_8_method_30_code 33 = .ok (.aload_n 0, 1) := by decide +kernel
theorem d_Model_frame_34 : decode prog_8_method_30_code 34 = .ok (.iconst 0, 1) := by decide +kernel
theorem d_Model_frame_35 : decode prog_8_method_30_code 35 = .ok (.putfield 165, 3) := by decide +kernel
theorem d_Model_frame_38 : decode prog_8_method_30_code 38 = .ok (.aload_n 0, 1) := by decide +kernel
theorem d_Model_frame_39 : decode prog_8_method_30_code 39 = .ok (.invokevirtual 168, 3) := by decide +kernel
theorem d_Model_frame_42 : decode prog_8_method_30_code 42 = .ok (.iconst 0, 1) := by decide +kernel
theorem d_Model_frame_43 : decode prog_8_method_30_code 43 = .ok (.istore_n 2, 1) := by decide +kernel
theorem d_Model_frame_44 : decode prog_8_method_30_code 44 = .ok (.iconst 0, 1) := by decide +kernel
theorem d_Model_frame_45 : decode prog_8_method_30_code 45 = .ok (.istore_n 3, 1) := by decide +kernel
theorem d_Model_frame_46 : decode prog_8_method_30_code 46 = .ok (.iload_n 3, 1) := by decide +kernel
theorem d_Model_frame_47 : decode prog_8_method_30_code 47 = .ok (.bipush 16, 2) := by decide +kernel
theorem d_Model_frame_49 : decode prog_8_method_30_code 49 = .ok (.if_icmp .ge 37, 3) := by decide +kernel
theorem d_Model_frame_52 : decode prog_8_method_30_code 52 = .ok (.aload_n 0, 1) := by decide +kernel
theorem d_Model_frame_53 : decode prog_8_method_30_code 53 = .ok (.getfield 23, 3) := by decide +kernel
theorem d_Model_frame_56 : decode prog_8_method_30_code 56 = .ok (.iload_n 3, 1) := by decide +kernel
theorem d_Model_frame_57 : decode prog_8_method_30_code 57 = .ok (.iaload, 1) := by decide +kernel
theorem d_Model_frame_58 : decode prog_8_method_30_code 58 = .ok (.iconst (-1), 1) := by decide +kernel
theorem d_Model_frame_59 : decode prog_8_method_30_code 59 = .ok (.if_icmp .eq 21, 3) := by decide +kernel
theorem d_Model_frame_62 : decode prog_8_method_30_code 62 = .ok (.aload_n 0, 1) := by decide +kernel
theorem d_Model_frame_63 : decode prog_8_method_30_code 63 = .ok (.getfield 38, 3) := by decide +kernel
theorem d_Model_frame_66 : decode prog_8_method_30_code 66 = .ok (.iload_n 3, 1) := by decide +kernel
theorem d_Model_frame_67 : decode prog_8_method_30_code 67 = .ok (.baload, 1) := by decide +kernel
theorem d_Model_frame_68 : decode prog_8_method_30_code 68 = .ok (.ifCond .ne 12, 3) := by decide +kernel
theorem d_Model_frame_71 : decode prog_8_method_30_code 71 = .ok (.aload_n 0, 1) := by decide +kernel
theorem d_Model_frame_72 : decode prog_8_method_30_code 72 = .ok (.iload_n 3, 1) := by decide +kernel
theorem d_Model_frame_73 : decode prog_8_method_30_code 73 = .ok (.iload_n 1, 1) := by decide +kernel
theorem d_Model_frame_74 : decode prog_8_method_30_code 74 = .ok (.invokevirtual 171, 3) := by decide +kernel
theorem d_Model_frame_77 : decode prog_8_method_30_code 77 = .ok (.iinc 2 1, 3) := by decide +kernel
theorem d_Model_frame_80 : decode prog_8_method_30_code 80 = .ok (.iinc 3 1, 3) := by decide +kernel
theorem d_Model_frame_83 : decode prog_8_method_30_code 83 = .ok (.goto (-37), 3) := by decide +kernel
theorem d_Model_frame_86 : decode prog_8_method_30_code 86 = .ok (.iload_n 2, 1) := by decide +kernel
theorem d_Model_frame_87 : decode prog_8_method_30_code 87 = .ok (.ireturn, 1) := by decide +kernel
theorem d_Model_read_0 : decode prog_8_method_31_code 0 = .ok (.aload_n 0, 1) := by decide +kernel
theorem d_Model_read_1 : decode prog_8_method_31_code 1 = .ok (.getfield 13, 3) := by decide +kernel
theorem d_Model_read_4 : decode prog_8_method_31_code 4 = .ok (.aload_n 0, 1) := by decide +kernel
theorem d_Model_read_5 : decode prog_8_method_31_code 5 = .ok (.getfield 175, 3) := by decide +kernel
theorem d_Model_read_8 : decode prog_8_method_31_code 8 = .ok (.iaload, 1) := by decide +kernel
theorem d_Model_read_9 : decode prog_8_method_31_code 9 = .ok (.istore_n 1, 1) := by decide +kernel
theorem d_Model_read_10 : decode prog_8_method_31_code 10 = .ok (.aload_n 0, 1) := by decide +kernel
theorem d_Model_read_11 : decode prog_8_method_31_code 11 = .ok (.aload_n 0, 1) := by decide +kernel
theorem d_Model_read_12 : decode prog_8_method_31_code 12 = .ok (.getfield 175, 3) := by decide +kernel
theorem d_Model_read_15 : decode prog_8_method_31_code 15 = .ok (.iconst 1, 1) := by decide +kernel
theorem d_Model_read_16 : decode prog_8_method_31_code 16 = .ok (.iadd, 1) := by decide +kernel
theorem d_Model_read_17 : decode prog_8_method_31_code 17 = .ok (.sipush 1023, 3) := by decide +kernel
theorem d_Model_read_20 : decode prog_8_method_31_code 20 = .ok (.iand, 1) := by decide +kernel
theorem d_Model_read_21 : decode prog_8_method_31_code 21 = .ok (.putfield 175, 3) := by decide +kernel
theorem d_Model_read_24 : decode prog_8_method_31_code 24 = .ok (.iload_n 1, 1) := by decide +kernel
theorem d_Model_read_25 : decode prog_8_method_31_code 25 = .ok (.ireturn, 1) := by decide +kernel
theorem d_Model_scaled_0 : decode prog_8_method_32_code 0 = .ok (.iload_n 1, 1) := by decide +kernel
theorem d_Model_scaled_1 : decode prog_8_method_32_code 1 = .ok (.i2l, 1) := by decide +kernel
theorem d_Model_scaled_2 : decode prog_8_method_32_code 2 = .ok (.aload_n 0, 1) := by decide +kernel
theorem d_Model_scaled_3 : decode prog_8_method_32_code 3 = .ok (.getfield 178, 3) := by decide +kernel
theorem d_Model_scaled_6 : decode prog_8_method_32_code 6 = .ok (.i2l, 1) := by decide +kernel
theorem d_Model_scaled_7 : decode prog_8_method_32_code 7 = .ok (.lmul, 1) := by decide +kernel
theorem d_Model_scaled_8 : decode prog_8_method_32_code 8 = .ok (.ldc2_w 181, 3) := by decide +kernel
theorem d_Model_scaled_11 : decode prog_8_method_32_code 11 = .ok (.invokestatic 183, 3) := by decide +kernel
theorem d_Model_scaled_14 : decode prog_8_method_32_code 14 = .ok (.l2i, 1) := by decide +kernel
theorem d_Model_scaled_15 : decode prog_8_method_32_code 15 = .ok (.ireturn, 1) := by decide +kernel
theorem d_Model_lay_0 : decode prog_8_method_33_code 0 = .ok (.aload_n 0, 1) := by decide +kernel
theorem d_Model_lay_1 : decode prog_8_method_33_code 1 = .ok (.getfield 45, 3) := by decide +kernel
theorem d_Model_lay_4 : decode prog_8_method_33_code 4 = .ok (.aload_n 0, 1) := by decide +kernel
theorem d_Model_lay_5 : decode prog_8_method_33_code 5 = .ok (.getfield 187, 3) := by decide +kernel
theorem d_Model_lay_8 : decode prog_8_method_33_code 8 = .ok (.iload_n 1, 1) := by decide +kernel
theorem d_Model_lay_9 : decode prog_8_method_33_code 9 = .ok (.iastore, 1) := by decide +kernel
theorem d_Model_lay_10 : decode prog_8_method_33_code 10 = .ok (.aload_n 0, 1) := by decide +kernel
theorem d_Model_lay_11 : decode prog_8_method_33_code 11 = .ok (.getfield 48, 3) := by decide +kernel
theorem d_Model_lay_14 : decode prog_8_method_33_code 14 = .ok (.aload_n 0, 1) := by decide +kernel
theorem d_Model_lay_15 : decode prog_8_method_33_code 15 = .ok (.getfield 187, 3) := by decide +kernel
theorem d_Model_lay_18 : decode prog_8_method_33_code 18 = .ok (.iload_n 2, 1) := by decide +kernel
theorem d_Model_lay_19 : decode prog_8_method_33_code 19 = .ok (.iastore, 1) := by decide +kernel
theorem d_Model_lay_20 : decode prog_8_method_33_code 20 = .ok (.aload_n 0, 1) := by decide +kernel
theorem d_Model_lay_21 : decode prog_8_method_33_code 21 = .ok (.getfield 51, 3) := by decide +kernel
theorem d_Model_lay_24 : decode prog_8_method_33_code 24 = .ok (.aload_n 0, 1) := by decide +kernel
theorem d_Model_lay_25 : decode prog_8_method_33_code 25 = .ok (.getfield 187, 3) := by decide +kernel
theorem d_Model_lay_28 : decode prog_8_method_33_code 28 = .ok (.iload_n 3, 1) := by decide +kernel
theorem d_Model_lay_29 : decode prog_8_method_33_code 29 = .ok (.iastore, 1) := by decide +kernel
theorem d_Model_lay_30 : decode prog_8_method_33_code 30 = .ok (.aload_n 0, 1) := by decide +kernel
theorem d_Model_lay_31 : decode prog_8_method_33_code 31 = .ok (.getfield 54, 3) := by decide +kernel
theorem d_Model_lay_34 : decode prog_8_method_33_code 34 = .ok (.aload_n 0, 1) := by decide +kernel
theorem d_Model_lay_35 : decode prog_8_method_33_code 35 = .ok (.getfield 187, 3) := by decide +kernel
theorem d_Model_lay_38 : decode prog_8_method_33_code 38 = .ok (.iload 4, 2) := by decide +kernel
theorem d_Model_lay_40 : decode prog_8_method_33_code 40 = .ok (.iastore, 1) := by decide +kernel
theorem d_Model_lay_41 : decode prog_8_method_33_code 41 = .ok (.aload_n 0, 1) := by decide +kernel
theorem d_Model_lay_42 : decode prog_8_method_33_code 42 = .ok (.getfield 57, 3) := by decide +kernel
theorem d_Model_lay_45 : decode prog_8_method_33_code 45 = .ok (.aload_n 0, 1) := by decide +kernel
theorem d_Model_lay_46 : decode prog_8_method_33_code 46 = .ok (.getfield 187, 3) := by decide +kernel
theorem d_Model_lay_49 : decode prog_8_method_33_code 49 = .ok (.iload 5, 2) := by decide +kernel
theorem d_Model_lay_51 : decode prog_8_method_33_code 51 = .ok (.iastore, 1) := by decide +kernel
theorem d_Model_lay_52 : decode prog_8_method_33_code 52 = .ok (.aload_n 0, 1) := by decide +kernel
theorem d_Model_lay_53 : decode prog_8_method_33_code 53 = .ok (.dup, 1) := by decide +kernel
theorem d_Model_lay_54 : decode prog_8_method_33_code 54 = .ok (.getfield 187, 3) := by decide +kernel
theorem d_Model_lay_57 : decode prog_8_method_33_code 57 = .ok (.iconst 1, 1) := by decide +kernel
theorem d_Model_lay_58 : decode prog_8_method_33_code 58 = .ok (.iadd, 1) := by decide +kernel
theorem d_Model_lay_59 : decode prog_8_method_33_code 59 = .ok (.putfield 187, 3) := by decide +kernel
theorem d_Model_lay_62 : decode prog_8_method_33_code 62 = .ok (.return_, 1) := by decide +kernel
theorem d_Model_draw_0 : decode prog_8_method_34_code 0 = .ok (.aload_n 0, 1) := by decide +kernel
theorem d_Model_draw_1 : decode prog_8_method_34_code 1 = .ok (.invokevirtual 107, 3) := by decide +kernel
theorem d_Model_draw_4 : decode prog_8_method_34_code 4 = .ok (.istore_n 1, 1) := by decide +kernel
theorem d_Model_draw_5 : decode prog_8_method_34_code 5 = .ok (.aload_n 0, 1) := by decide +kernel
theorem d_Model_draw_6 : decode prog_8_method_34_code 6 = .ok (.getfield 16, 3) := by decide +kernel
theorem d_Model_draw_9 : decode prog_8_method_34_code 9 = .ok (.aload_n 0, 1) := by decide +kernel
theorem d_Model_draw_10 : decode prog_8_method_34_code 10 = .ok (.invokevirtual 101, 3) := by decide +kernel
theorem d_Model_draw_13 : decode prog_8_method_34_code 13 = .ok (.iaload, 1) := by decide +kernel
theorem d_Model_draw_14 : decode prog_8_method_34_code 14 = .ok (.istore_n 2, 1) := by decide +kernel
theorem d_Model_draw_15 : decode prog_8_method_34_code 15 = .ok (.aload_n 0, 1) := by decide +kernel
theorem d_Model_draw_16 : decode prog_8_method_34_code 16 = .ok (.getfield 16, 3) := by decide +kernel
theorem d_Model_draw_19 : decode prog_8_method_34_code 19 = .ok (.aload_n 0, 1) := by decide +kernel
theorem d_Model_draw_20 : decode prog_8_method_34_code 20 = .ok (.invokevirtual 101, 3) := by decide +kernel
theorem d_Model_draw_23 : decode prog_8_method_34_code 23 = .ok (.iaload, 1) := by decide +kernel
theorem d_Model_draw_24 : decode prog_8_method_34_code 24 = .ok (.istore_n 3, 1) := by decide +kernel
theorem d_Model_draw_25 : decode prog_8_method_34_code 25 = .ok (.aload_n 0, 1) := by decide +kernel
theorem d_Model_draw_26 : decode prog_8_method_34_code 26 = .ok (.invokevirtual 81, 3) := by decide +kernel
theorem d_Model_draw_29 : decode prog_8_method_34_code 29 = .ok (.istore 4, 2) := by decide +kernel
theorem d_Model_draw_31 : decode prog_8_method_34_code 31 = .ok (.aload_n 0, 1) := by decide +kernel
theorem d_Model_draw_32 : decode prog_8_method_34_code 32 = .ok (.iload 4, 2) := by decide +kernel
theorem d_Model_draw_34 : decode prog_8_method_34_code 34 = .ok (.sipush 128, 3) := by decide +kernel
theorem d_Model_draw_37 : decode prog_8_method_34_code 37 = .ok (.if_icmp .ge 16, 3) := by decide +kernel
theorem d_Model_draw_40 : decode prog_8_method_34_code 40 = .ok (.aload_n 0, 1) := by decide +kernel
theorem d_Model_draw_41 : decode prog_8_method_34_code 41 = .ok (.getfield 16, 3) := by decide +kernel
theorem d_Model_draw_44 : decode prog_8_method_34_code 44 = .ok (.iload 4, 2) := by decide +kernel
theorem d_Model_draw_46 : decode prog_8_method_34_code 46 = .ok (.bipush 31, 2) := by decide +kernel
theorem d_Model_draw_48 : decode prog_8_method_34_code 48 = .ok (.iand, 1) := by decide +kernel
theorem d_Model_draw_49 : decode prog_8_method_34_code 49 = .ok (.iaload, 1) := by decide +kernel
theorem d_Model_draw_50 : decode prog_8_method_34_code 50 = .ok (.goto 5, 3) := by decide +kernel
theorem d_Model_draw_53 : decode prog_8_method_34_code 53 = .ok (.bipush 64, 2) := by decide +kernel
theorem d_Model_draw_55 : decode prog_8_method_34_code 55 = .ok (.putfield 178, 3) := by decide +kernel
theorem d_Model_draw_58 : decode prog_8_method_34_code 58 = .ok (.aload_n 0, 1) := by decide +kernel
theorem d_Model_draw_59 : decode prog_8_method_34_code 59 = .ok (.iconst 0, 1) := by decide +kernel
theorem d_Model_draw_60 : decode prog_8_method_34_code 60 = .ok (.putfield 190, 3) := by decide +kernel
theorem d_Model_draw_63 : decode prog_8_method_34_code 63 = .ok (.aload_n 0, 1) := by decide +kernel
theorem d_Model_draw_64 : decode prog_8_method_34_code 64 = .ok (.iconst 0, 1) := by decide +kernel
theorem d_Model_draw_65 : decode prog_8_method_34_code 65 = .ok (.putfield 187, 3) := by decide +kernel
theorem d_Model_draw_68 : decode prog_8_method_34_code 68 = .ok (.aload_n 0, 1) := by decide +kernel
theorem d_Model_draw_69 : decode prog_8_method_34_code 69 = .ok (.iload_n 1, 1) := by decide +kernel
theorem d_Model_draw_70 : decode prog_8_method_34_code 70 = .ok (.iload_n 2, 1) := by decide +kernel
theorem d_Model_draw_71 : decode prog_8_method_34_code 71 = .ok (.iload_n 3, 1) := by decide +kernel
theorem d_Model_draw_72 : decode prog_8_method_34_code 72 = .ok (.iconst (-1), 1) := by decide +kernel
theorem d_Model_draw_73 : decode prog_8_method_34_code 73 = .ok (.iconst 0, 1) := by decide +kernel
theorem d_Model_draw_74 : decode prog_8_method_34_code 74 = .ok (.invokevirtual 193, 3) := by decide +kernel
theorem d_Model_draw_77 : decode prog_8_method_34_code 77 = .ok (.aload_n 0, 1) := by decide +kernel
theorem d_Model_draw_78 : decode prog_8_method_34_code 78 = .ok (.getfield 187, 3) := by decide +kernel
theorem d_Model_draw_81 : decode prog_8_method_34_code 81 = .ok (.ifCond .le 34, 3) := by decide +kernel
theorem d_Model_draw_84 : decode prog_8_method_34_code 84 = .ok (.aload_n 0, 1) := by decide +kernel
theorem d_Model_draw_85 : decode prog_8_method_34_code 85 = .ok (.getfield 190, 3) := by decide +kernel
theorem d_Model_draw_88 : decode prog_8_method_34_code 88 = .ok (.sipush 200, 3) := by decide +kernel
theorem d_Model_draw_91 : decode prog_8_method_34_code 91 = .ok (.if_icmp .ge 24, 3) := by decide +kernel
theorem d_Model_draw_94 : decode prog_8_method_34_code 94 = .ok (.aload_n 0, 1) := by decide +kernel
theorem d_Model_draw_95 : decode prog_8_method_34_code 95 = .ok (.dup, 1) := by decide +kernel
theorem d_Model_draw_96 : decode prog_8_method_34_code 96 = .ok (.getfield 187, 3) := by decide +kernel
theorem d_Model_draw_99 : decode prog_8_method_34_code 99 = .ok (.iconst 1, 1) := by decide +kernel
theorem d_Model_draw_100 : decode prog_8_method_34_code 100 = .ok (.isub, 1) := by decide +kernel
theorem d_Model_draw_101 : decode prog_8_method_34_code 101 = .ok (.putfield 187, 3) := by decide +kernel
theorem d_Model_draw_104 : decode prog_8_method_34_code 104 = .ok (.aload_n 0, 1) := by decide +kernel
theorem d_Model_draw_105 : decode prog_8_method_34_code 105 = .ok (.aload_n 0, 1) := by decide +kernel
theorem d_Model_draw_106 : decode prog_8_method_34_code 106 = .ok (.getfield 187, 3) := by decide +kernel
theorem d_Model_draw_109 : decode prog_8_method_34_code 109 = .ok (.invokevirtual 197, 3) := by decide +kernel
theorem d_Model_draw_112 : decode prog_8_method_34_code 112 = .ok (.goto (-35), 3) := by decide +kernel
theorem d_Model_draw_115 : decode prog_8_method_34_code 115 = .ok (.return_, 1) := by decide +kernel
theorem d_Model_begin_0 : decode prog_8_method_35_code 0 = .ok (.aload_n 0, 1) := by decide +kernel
theorem d_Model_begin_1 : decode prog_8_method_35_code 1 = .ok (.dup, 1) := by decide +kernel
theorem d_Model_begin_2 : decode prog_8_method_35_code 2 = .ok (.getfield 190, 3) := by decide +kernel
theorem d_Model_begin_5 : decode prog_8_method_35_code 5 = .ok (.iconst 1, 1) := by decide +kernel
theorem d_Model_begin_6 : decode prog_8_method_35_code 6 = .ok (.iadd, 1) := by decide +kernel
theorem d_Model_begin_7 : decode prog_8_method_35_code 7 = .ok (.putfield 190, 3) := by decide +kernel
theorem d_Model_begin_10 : decode prog_8_method_35_code 10 = .ok (.aload_n 0, 1) := by decide +kernel
theorem d_Model_begin_11 : decode prog_8_method_35_code 11 = .ok (.dup, 1) := by decide +kernel
theorem d_Model_begin_12 : decode prog_8_method_35_code 12 = .ok (.getfield 165, 3) := by decide +kernel
theorem d_Model_begin_15 : decode prog_8_method_35_code 15 = .ok (.iconst 1, 1) := by decide +kernel
theorem d_Model_begin_16 : decode prog_8_method_35_code 16 = .ok (.iadd, 1) := by decide +kernel
theorem d_Model_begin_17 : decode prog_8_method_35_code 17 = .ok (.putfield 165, 3) := by decide +kernel
theorem d_Model_begin_20 : decode prog_8_method_35_code 20 = .ok (.aload_n 0, 1) := by decide +kernel
theorem d_Model_begin_21 : decode prog_8_method_35_code 21 = .ok (.aload_n 0, 1) := by decide +kernel
theorem d_Model_begin_22 : decode prog_8_method_35_code 22 = .ok (.getfield 45, 3) := by decide +kernel
theorem d_Model_begin_25 : decode prog_8_method_35_code 25 = .ok (.iload_n 1, 1) := by decide +kernel
theorem d_Model_begin_26 : decode prog_8_method_35_code 26 = .ok (.iaload, 1) := by decide +kernel
theorem d_Model_begin_27 : decode prog_8_method_35_code 27 = .ok (.putfield 175, 3) := by decide +kernel
theorem d_Model_begin_30 : decode prog_8_method_35_code 30 = .ok (.aload_n 0, 1) := by decide +kernel
theorem d_Model_begin_31 : decode prog_8_method_35_code 31 = .ok (.invokevirtual 200, 3) := by decide +kernel
theorem d_Model_begin_34 : decode prog_8_method_35_code 34 = .ok (.istore_n 2, 1) := by decide +kernel
theorem d_Model_begin_35 : decode prog_8_method_35_code 35 = .ok (.iload_n 2, 1) := by decide +kernel
theorem d_Model_begin_36 : decode prog_8_method_35_code 36 = .ok (.sipush 192, 3) := by decide +kernel
theorem d_Model_begin_39 : decode prog_8_method_35_code 39 = .ok (.if_icmp .lt 45, 3) := by decide +kernel
theorem d_Model_begin_42 : decode prog_8_method_35_code 42 = .ok (.aload_n 0, 1) := by decide +kernel
theorem d_Model_begin_43 : decode prog_8_method_35_code 43 = .ok (.aload_n 0, 1) := by decide +kernel
theorem d_Model_begin_44 : decode prog_8_method_35_code 44 = .ok (.getfield 48, 3) := by decide +kernel
theorem d_Model_begin_47 : decode prog_8_method_35_code 47 = .ok (.iload_n 1, 1) := by decide +kernel
theorem d_Model_begin_48 : decode prog_8_method_35_code 48 = .ok (.iaload, 1) := by decide +kernel
theorem d_Model_begin_49 : decode prog_8_method_35_code 49 = .ok (.aload_n 0, 1) := by decide +kernel
theorem d_Model_begin_50 : decode prog_8_method_35_code 50 = .ok (.getfield 51, 3) := by decide +kernel
theorem d_Model_begin_53 : decode prog_8_method_35_code 53 = .ok (.iload_n 1, 1) := by decide +kernel
theorem d_Model_begin_54 : decode prog_8_method_35_code 54 = .ok (.iaload, 1) := by decide +kernel
theorem d_Model_begin_55 : decode prog_8_method_35_code 55 = .ok (.aload_n 0, 1) := by decide +kernel
theorem d_Model_begin_56 : decode prog_8_method_35_code 56 = .ok (.getfield 54, 3) := by decide +kernel
theorem d_Model_begin_59 : decode prog_8_method_35_code 59 = .ok (.iload_n 1, 1) := by decide +kernel
theorem d_Model_begin_60 : decode prog_8_method_35_code 60 = .ok (.iaload, 1) := by decide +kernel
theorem d_Model_begin_61 : decode prog_8_method_35_code 61 = .ok (.iconst (-1), 1) := by decide +kernel
theorem d_Model_begin_62 : decode prog_8_method_35_code 62 = .ok (.if_icmp .ne 10, 3) := by decide +kernel
theorem d_Model_begin_65 : decode prog_8_method_35_code 65 = .ok (.iload_n 2, 1) := by decide +kernel
theorem d_Model_begin_66 : decode prog_8_method_35_code 66 = .ok (.bipush 15, 2) := by decide +kernel
theorem d_Model_begin_68 : decode prog_8_method_35_code 68 = .ok (.iand, 1) := by decide +kernel
theorem d_Model_begin_69 : decode prog_8_method_35_code 69 = .ok (.goto 9, 3) := by decide +kernel
theorem d_Model_begin_72 : decode prog_8_method_35_code 72 = .ok (.aload_n 0, 1) := by decide +kernel
theorem d_Model_begin_73 : decode prog_8_method_35_code 73 = .ok (.getfield 54, 3) := by decide +kernel
theorem d_Model_begin_76 : decode prog_8_method_35_code 76 = .ok (.iload_n 1, 1) := by decide +kernel
theorem d_Model_begin_77 : decode prog_8_method_35_code 77 = .ok (.iaload, 1) := by decide +kernel
theorem d_Model_begin_78 : decode prog_8_method_35_code 78 = .ok (.invokevirtual 203, 3) := by decide +kernel
theorem d_Model_begin_81 : decode prog_8_method_35_code 81 = .ok (.goto 46, 3) := by decide +kernel
theorem d_Model_begin_84 : decode prog_8_method_35_code 84 = .ok (.iload_n 2, 1) := by decide +kernel
theorem d_Model_begin_85 : decode prog_8_method_35_code 85 = .ok (.iconst 2, 1) := by decide +kernel
theorem d_Model_begin_86 : decode prog_8_method_35_code 86 = .ok (.if_icmp .ne 41, 3) := by decide +kernel
theorem d_Model_begin_89 : decode prog_8_method_35_code 89 = .ok (.aload_n 0, 1) := by decide +kernel
theorem d_Model_begin_90 : decode prog_8_method_35_code 90 = .ok (.getfield 57, 3) := by decide +kernel
theorem d_Model_begin_93 : decode prog_8_method_35_code 93 = .ok (.iload_n 1, 1) := by decide +kernel
theorem d_Model_begin_94 : decode prog_8_method_35_code 94 = .ok (.iaload, 1) := by decide +kernel
theorem d_Model_begin_95 : decode prog_8_method_35_code 95 = .ok (.iconst 5, 1) := by decide +kernel
theorem d_Model_begin_96 : decode prog_8_method_35_code 96 = .ok (.if_icmp .ge 31, 3) := by decide +kernel
theorem d_Model_begin_99 : decode prog_8_method_35_code 99 = .ok (.aload_n 0, 1) := by decide +kernel
theorem d_Model_begin_100 : decode prog_8_method_35_code 100 = .ok (.aload_n 0, 1) := by decide +kernel
theorem d_Model_begin_101 : decode prog_8_method_35_code 101 = .ok (.getfield 48, 3) := by decide +kernel
theorem d_Model_begin_104 : decode prog_8_method_35_code 104 = .ok (.iload_n 1, 1) := by decide +kernel
theorem d_Model_begin_105 : decode prog_8_method_35_code 105 = .ok (.iaload, 1) := by decide +kernel
theorem d_Model_begin_106 : decode prog_8_method_35_code 106 = .ok (.aload_n 0, 1) := by decide +kernel
theorem d_Model_begin_107 : decode prog_8_method_35_code 107 = .ok (.getfield 51, 3) := by decide +kernel
theorem d_Model_begin_110 : decode prog_8_method_35_code 110 = .ok (.iload_n 1, 1) := by decide +kernel
theorem d_Model_begin_111 : decode prog_8_method_35_code 111 = .ok (.iaload, 1) := by decide +kernel
theorem d_Model_begin_112 : decode prog_8_method_35_code 112 = .ok (.aload_n 0, 1) := by decide +kernel
theorem d_Model_begin_113 : decode prog_8_method_35_code 113 = .ok (.getfield 54, 3) := by decide +kernel
theorem d_Model_begin_116 : decode prog_8_method_35_code 116 = .ok (.iload_n 1, 1) := by decide +kernel
theorem d_Model_begin_117 : decode prog_8_method_35_code 117 = .ok (.iaload, 1) := by decide +kernel
theorem d_Model_begin_118 : decode prog_8_method_35_code 118 = .ok (.aload_n 0, 1) := by decide +kernel
theorem d_Model_begin_119 : decode prog_8_method_35_code 119 = .ok (.getfield 57, 3) := by decide +kernel
theorem d_Model_begin_122 : decode prog_8_method_35_code 122 = .ok (.iload_n 1, 1) := by decide +kernel
theorem d_Model_begin_123 : decode prog_8_method_35_code 123 = .ok (.iaload, 1) := by decide +kernel
theorem d_Model_begin_124 : decode prog_8_method_35_code 124 = .ok (.invokevirtual 207, 3) := by decide +kernel
theorem d_Model_begin_127 : decode prog_8_method_35_code 127 = .ok (.return_, 1) := by decide +kernel
theorem d_Model_group_0 : decode prog_8_method_36_code 0 = .ok (.iload_n 1, 1) := by decide +kernel
theorem d_Model_group_1 : decode prog_8_method_36_code 1 = .ok (.aload_n 0, 1) := by decide +kernel
theorem d_Model_group_2 : decode prog_8_method_36_code 2 = .ok (.aload_n 0, 1) := by decide +kernel
theorem d_Model_group_3 : decode prog_8_method_36_code 3 = .ok (.invokevirtual 200, 3) := by decide +kernel
theorem d_Model_group_6 : decode prog_8_method_36_code 6 = .ok (.invokevirtual 211, 3) := by decide +kernel
theorem d_Model_group_9 : decode prog_8_method_36_code 9 = .ok (.isub, 1) := by decide +kernel
theorem d_Model_group_10 : decode prog_8_method_36_code 10 = .ok (.istore 5, 2) := by decide +kernel
theorem d_Model_group_12 : decode prog_8_method_36_code 12 = .ok (.iload_n 2, 1) := by decide +kernel
theorem d_Model_group_13 : decode prog_8_method_36_code 13 = .ok (.aload_n 0, 1) := by decide +kernel
theorem d_Model_group_14 : decode prog_8_method_36_code 14 = .ok (.aload_n 0, 1) := by decide +kernel
theorem d_Model_group_15 : decode prog_8_method_36_code 15 = .ok (.invokevirtual 200, 3) := by decide +kernel
theorem d_Model_group_18 : decode prog_8_method_36_code 18 = .ok (.invokevirtual 211, 3) := by decide +kernel
theorem d_Model_group_21 : decode prog_8_method_36_code 21 = .ok (.isub, 1) := by decide +kernel
theorem d_Model_group_22 : decode prog_8_method_36_code 22 = .ok (.istore 6, 2) := by decide +kernel
theorem d_Model_group_24 : decode prog_8_method_36_code 24 = .ok (.aload_n 0, 1) := by decide +kernel
theorem d_Model_group_25 : decode prog_8_method_36_code 25 = .ok (.invokevirtual 200, 3) := by decide +kernel
theorem d_Model_group_28 : decode prog_8_method_36_code 28 = .ok (.bipush 15, 2) := by decide +kernel
theorem d_Model_group_30 : decode prog_8_method_36_code 30 = .ok (.iand, 1) := by decide +kernel
theorem d_Model_group_31 : decode prog_8_method_36_code 31 = .ok (.istore 7, 2) := by decide +kernel
theorem d_Model_group_33 : decode prog_8_method_36_code 33 = .ok (.aload_n 0, 1) := by decide +kernel
theorem d_Model_group_34 : decode prog_8_method_36_code 34 = .ok (.getfield 187, 3) := by decide +kernel
theorem d_Model_group_37 : decode prog_8_method_36_code 37 = .ok (.istore 8, 2) := by decide +kernel
theorem d_Model_group_39 : decode prog_8_method_36_code 39 = .ok (.iconst 0, 1) := by decide +kernel
theorem d_Model_group_40 : decode prog_8_method_36_code 40 = .ok (.istore 9, 2) := by decide +kernel
theorem d_Model_group_42 : decode prog_8_method_36_code 42 = .ok (.iload 9, 2) := by decide +kernel
theorem d_Model_group_44 : decode prog_8_method_36_code 44 = .ok (.iload 7, 2) := by decide +kernel
theorem d_Model_group_46 : decode prog_8_method_36_code 46 = .ok (.if_icmp .ge 94, 3) := by decide +kernel
theorem d_Model_group_49 : decode prog_8_method_36_code 49 = .ok (.aload_n 0, 1) := by decide +kernel
theorem d_Model_group_50 : decode prog_8_method_36_code 50 = .ok (.invokevirtual 200, 3) := by decide +kernel
theorem d_Model_group_53 : decode prog_8_method_36_code 53 = .ok (.istore 10, 2) := by decide +kernel
theorem d_Model_group_55 : decode prog_8_method_36_code 55 = .ok (.iload 10, 2) := by decide +kernel
theorem d_Model_group_57 : decode prog_8_method_36_code 57 = .ok (.bipush 8, 2) := by decide +kernel
theorem d_Model_group_59 : decode prog_8_method_36_code 59 = .ok (.ishl, 1) := by decide +kernel
theorem d_Model_group_60 : decode prog_8_method_36_code 60 = .ok (.aload_n 0, 1) := by decide +kernel
theorem d_Model_group_61 : decode prog_8_method_36_code 61 = .ok (.invokevirtual 200, 3) := by decide +kernel
theorem d_Model_group_64 : decode prog_8_method_36_code 64 = .ok (.ior, 1) := by decide +kernel
theorem d_Model_group_65 : decode prog_8_method_36_code 65 = .ok (.istore 11, 2) := by decide +kernel
theorem d_Model_group_67 : decode prog_8_method_36_code 67 = .ok (.iload 5, 2) := by decide +kernel
theorem d_Model_group_69 : decode prog_8_method_36_code 69 = .ok (.aload_n 0, 1) := by decide +kernel
theorem d_Model_group_70 : decode prog_8_method_36_code 70 = .ok (.aload_n 0, 1) := by decide +kernel
theorem d_Model_group_71 : decode prog_8_method_36_code 71 = .ok (.invokevirtual 200, 3) := by decide +kernel
theorem d_Model_group_74 : decode prog_8_method_36_code 74 = .ok (.invokevirtual 211, 3) := by decide +kernel
theorem d_Model_group_77 : decode prog_8_method_36_code 77 = .ok (.iadd, 1) := by decide +kernel
theorem d_Model_group_78 : decode prog_8_method_36_code 78 = .ok (.istore 12, 2) := by decide +kernel
theorem d_Model_group_80 : decode prog_8_method_36_code 80 = .ok (.iload 6, 2) := by decide +kernel
theorem d_Model_group_82 : decode prog_8_method_36_code 82 = .ok (.aload_n 0, 1) := by decide +kernel
theorem d_Model_group_83 : decode prog_8_method_36_code 83 = .ok (.aload_n 0, 1) := by decide +kernel
theorem d_Model_group_84 : decode prog_8_method_36_code 84 = .ok (.invokevirtual 200, 3) := by decide +kernel
theorem d_Model_group_87 : decode prog_8_method_36_code 87 = .ok (.invokevirtual 211, 3) := by decide +kernel
theorem d_Model_group_90 : decode prog_8_method_36_code 90 = .ok (.iadd, 1) := by decide +kernel
theorem d_Model_group_91 : decode prog_8_method_36_code 91 = .ok (.istore 13, 2) := by decide +kernel
theorem d_Model_group_93 : decode prog_8_method_36_code 93 = .ok (.iload 11, 2) := by decide +kernel
theorem d_Model_group_95 : decode prog_8_method_36_code 95 = .ok (.sipush 32767, 3) := by decide +kernel
theorem d_Model_group_98 : decode prog_8_method_36_code 98 = .ok (.if_icmp .le 13, 3) := by decide +kernel
theorem d_Model_group_101 : decode prog_8_method_36_code 101 = .ok (.aload_n 0, 1) := by decide +kernel
theorem d_Model_group_102 : decode prog_8_method_36_code 102 = .ok (.invokevirtual 200, 3) := by decide +kernel
theorem d_Model_group_105 : decode prog_8_method_36_code 105 = .ok (.bipush 15, 2) := by decide +kernel
theorem d_Model_group_107 : decode prog_8_method_36_code 107 = .ok (.iand, 1) := by decide +kernel
theorem d_Model_group_108 : decode prog_8_method_36_code 108 = .ok (.goto 4, 3) := by decide +kernel
theorem d_Model_group_111 : decode prog_8_method_36_code 111 = .ok (.iload_n 3, 1) := by decide +kernel
theorem d_Model_group_112 : decode prog_8_method_36_code 112 = .ok (.istore 14, 2) := by decide +kernel
theorem d_Model_group_114 : decode prog_8_method_36_code 114 = .ok (.aload_n 0, 1) := by decide +kernel
theorem d_Model_group_115 : decode prog_8_method_36_code 115 = .ok (.iload 11, 2) := by decide +kernel
theorem d_Model_group_117 : decode prog_8_method_36_code 117 = .ok (.sipush 1023, 3) := by decide +kernel
theorem d_Model_group_120 : decode prog_8_method_36_code 120 = .ok (.iand, 1) := by decide +kernel
theorem d_Model_group_121 : decode prog_8_method_36_code 121 = .ok (.iload 12, 2) := by decide +kernel
theorem d_Model_group_123 : decode prog_8_method_36_code 123 = .ok (.iload 13, 2) := by decide +kernel
theorem d_Model_group_125 : decode prog_8_method_36_code 125 = .ok (.iload 14, 2) := by decide +kernel
theorem d_Model_group_127 : decode prog_8_method_36_code 127 = .ok (.iload 4, 2) := by decide +kernel
theorem d_Model_group_129 : decode prog_8_method_36_code 129 = .ok (.iconst 1, 1) := by decide +kernel
theorem d_Model_group_130 : decode prog_8_method_36_code 130 = .ok (.iadd, 1) := by decide +kernel
theorem d_Model_group_131 : decode prog_8_method_36_code 131 = .ok (.invokevirtual 193, 3) := by decide +kernel
theorem d_Model_group_134 : decode prog_8_method_36_code 134 = .ok (.iinc 9 1, 3) := by decide +kernel
theorem d_Model_group_137 : decode prog_8_method_36_code 137 = .ok (.goto (-95), 3) := by decide +kernel
theorem d_Model_group_140 : decode prog_8_method_36_code 140 = .ok (.iconst 0, 1) := by decide +kernel
theorem d_Model_group_141 : decode prog_8_method_36_code 141 = .ok (.istore 9, 2) := by decide +kernel
theorem d_Model_group_143 : decode prog_8_method_36_code 143 = .ok (.iload 9, 2) := by decide +kernel
theorem d_Model_group_145 : decode prog_8_method_36_code 145 = .ok (.iload 7, 2) := by decide +kernel
theorem d_Model_group_147 : decode prog_8_method_36_code 147 = .ok (.iconst 2, 1) := by decide +kernel
theorem d_Model_group_148 : decode prog_8_method_36_code 148 = .ok (.idiv, 1) := by decide +kernel
theorem d_Model_group_149 : decode prog_8_method_36_code 149 = .ok (.if_icmp .ge 28, 3) := by decide +kernel
theorem d_Model_group_152 : decode prog_8_method_36_code 152 = .ok (.aload_n 0, 1) := by decide +kernel
theorem d_Model_group_153 : decode prog_8_method_36_code 153 = .ok (.iload 8, 2) := by decide +kernel
theorem d_Model_group_155 : decode prog_8_method_36_code 155 = .ok (.iload 9, 2) := by decide +kernel
theorem d_Model_group_157 : decode prog_8_method_36_code 157 = .ok (.iadd, 1) := by decide +kernel
theorem d_Model_group_158 : decode prog_8_method_36_code 158 = .ok (.iload 8, 2) := by decide +kernel
theorem d_Model_group_160 : decode prog_8_method_36_code 160 = .ok (.iload 7, 2) := by decide +kernel
theorem d_Model_group_162 : decode prog_8_method_36_code 162 = .ok (.iadd, 1) := by decide +kernel
theorem d_Model_group_163 : decode prog_8_method_36_code 163 = .ok (.iconst 1, 1) := by decide +kernel
theorem d_Model_group_164 : decode prog_8_method_36_code 164 = .ok (.isub, 1) := by decide +kernel
theorem d_Model_group_165 : decode prog_8_method_36_code 165 = .ok (.iload 9, 2) := by decide +kernel
theorem d_Model_group_167 : decode prog_8_method_36_code 167 = .ok (.isub, 1) := by decide +kernel
theorem d_Model_group_168 : decode prog_8_method_36_code 168 = .ok (.invokevirtual 214, 3) := by decide +kernel
theorem d_Model_group_171 : decode prog_8_method_36_code 171 = .ok (.iinc 9 1, 3) := by decide +kernel
theorem d_Model_group_174 : decode prog_8_method_36_code 174 = .ok (.goto (-31), 3) := by decide +kernel
theorem d_Model_group_177 : decode prog_8_method_36_code 177 = .ok (.return_, 1) := by decide +kernel
theorem d_Model_swap_0 : decode prog_8_method_37_code 0 = .ok (.aload_n 0, 1) := by decide +kernel
theorem d_Model_swap_1 : decode prog_8_method_37_code 1 = .ok (.getfield 45, 3) := by decide +kernel
theorem d_Model_swap_4 : decode prog_8_method_37_code 4 = .ok (.iload_n 1, 1) := by decide +kernel
theorem d_Model_swap_5 : decode prog_8_method_37_code 5 = .ok (.iaload, 1) := by decide +kernel
theorem d_Model_swap_6 : decode prog_8_method_37_code 6 = .ok (.istore_n 3, 1) := by decide +kernel
theorem d_Model_swap_7 : decode prog_8_method_37_code 7 = .ok (.aload_n 0, 1) := by decide +kernel
theorem d_Model_swap_8 : decode prog_8_method_37_code 8 = .ok (.getfield 48, 3) := by decide +kernel
theorem d_Model_swap_11 : decode prog_8_method_37_code 11 = .ok (.iload_n 1, 1) := by decide +kernel
theorem d_Model_swap_12 : decode prog_8_method_37_code 12 = .ok (.iaload, 1) := by decide +kernel
theorem d_Model_swap_13 : decode prog_8_method_37_code 13 = .ok (.istore 4, 2) := by decide +kernel
theorem d_Model_swap_15 : decode prog_8_method_37_code 15 = .ok (.aload_n 0, 1) := by decide +kernel
theorem d_Model_swap_16 : decode prog_8_method_37_code 16 = .ok (.getfield 51, 3) := by decide +kernel
theorem d_Model_swap_19 : decode prog_8_method_37_code 19 = .ok (.iload_n 1, 1) := by decide +kernel
theorem d_Model_swap_20 : decode prog_8_method_37_code 20 = .ok (.iaload, 1) := by decide +kernel
theorem d_Model_swap_21 : decode prog_8_method_37_code 21 = .ok (.istore 5, 2) := by decide +kernel
theorem d_Model_swap_23 : decode prog_8_method_37_code 23 = .ok (.aload_n 0, 1) := by decide +kernel
theorem d_Model_swap_24 : decode prog_8_method_37_code 24 = .ok (.getfield 54, 3) := by decide +kernel
theorem d_Model_swap_27 : decode prog_8_method_37_code 27 = .ok (.iload_n 1, 1) := by decide +kernel
theorem d_Model_swap_28 : decode prog_8_method_37_code 28 = .ok (.iaload, 1) := by decide +kernel
theorem d_Model_swap_29 : decode prog_8_method_37_code 29 = .ok (.istore 6, 2) := by decide +kernel
theorem d_Model_swap_31 : decode prog_8_method_37_code 31 = .ok (.aload_n 0, 1) := by decide +kernel
theorem d_Model_swap_32 : decode prog_8_method_37_code 32 = .ok (.getfield 45, 3) := by decide +kernel
theorem d_Model_swap_35 : decode prog_8_method_37_code 35 = .ok (.iload_n 1, 1) := by decide +kernel
theorem d_Model_swap_36 : decode prog_8_method_37_code 36 = .ok (.aload_n 0, 1) := by decide +kernel
theorem d_Model_swap_37 : decode prog_8_method_37_code 37 = .ok (.getfield 45, 3) := by decide +kernel
theorem d_Model_swap_40 : decode prog_8_method_37_code 40 = .ok (.iload_n 2, 1) := by decide +kernel
theorem d_Model_swap_41 : decode prog_8_method_37_code 41 = .ok (.iaload, 1) := by decide +kernel
theorem d_Model_swap_42 : decode prog_8_method_37_code 42 = .ok (.iastore, 1) := by decide +kernel
theorem d_Model_swap_43 : decode prog_8_method_37_code 43 = .ok (.aload_n 0, 1) := by decide +kernel
theorem d_Model_swap_44 : decode prog_8_method_37_code 44 = .ok (.getfield 48, 3) := by decide +kernel
theorem d_Model_swap_47 : decode prog_8_method_37_code 47 = .ok (.iload_n 1, 1) := by decide +kernel
theorem d_Model_swap_48 : decode prog_8_method_37_code 48 = .ok (.aload_n 0, 1) := by decide +kernel
theorem d_Model_swap_49 : decode prog_8_method_37_code 49 = .ok (.getfield 48, 3) := by decide +kernel
theorem d_Model_swap_52 : decode prog_8_method_37_code 52 = .ok (.iload_n 2, 1) := by decide +kernel
theorem d_Model_swap_53 : decode prog_8_method_37_code 53 = .ok (.iaload, 1) := by decide +kernel
theorem d_Model_swap_54 : decode prog_8_method_37_code 54 = .ok (.iastore, 1) := by decide +kernel
theorem d_Model_swap_55 : decode prog_8_method_37_code 55 = .ok (.aload_n 0, 1) := by decide +kernel
theorem d_Model_swap_56 : decode prog_8_method_37_code 56 = .ok (.getfield 51, 3) := by decide +kernel
theorem d_Model_swap_59 : decode prog_8_method_37_code 59 = .ok (.iload_n 1, 1) := by decide +kernel
theorem d_Model_swap_60 : decode prog_8_method_37_code 60 = .ok (.aload_n 0, 1) := by decide +kernel
theorem d_Model_swap_61 : decode prog_8_method_37_code 61 = .ok (.getfield 51, 3) := by decide +kernel
theorem d_Model_swap_64 : decode prog_8_method_37_code 64 = .ok (.iload_n 2, 1) := by decide +kernel
theorem d_Model_swap_65 : decode prog_8_method_37_code 65 = .ok (.iaload, 1) := by decide +kernel
theorem d_Model_swap_66 : decode prog_8_method_37_code 66 = .ok (.iastore, 1) := by decide +kernel
theorem d_Model_swap_67 : decode prog_8_method_37_code 67 = .ok (.aload_n 0, 1) := by decide +kernel
theorem d_Model_swap_68 : decode prog_8_method_37_code 68 = .ok (.getfield 54, 3) := by decide +kernel
theorem d_Model_swap_71 : decode prog_8_method_37_code 71 = .ok (.iload_n 1, 1) := by decide +kernel
theorem d_Model_swap_72 : decode prog_8_method_37_code 72 = .ok (.aload_n 0, 1) := by decide +kernel
theorem d_Model_swap_73 : decode prog_8_method_37_code 73 = .ok (.getfield 54, 3) := by decide +kernel
theorem d_Model_swap_76 : decode prog_8_method_37_code 76 = .ok (.iload_n 2, 1) := by decide +kernel
theorem d_Model_swap_77 : decode prog_8_method_37_code 77 = .ok (.iaload, 1) := by decide +kernel
theorem d_Model_swap_78 : decode prog_8_method_37_code 78 = .ok (.iastore, 1) := by decide +kernel
theorem d_Model_swap_79 : decode prog_8_method_37_code 79 = .ok (.aload_n 0, 1) := by decide +kernel
theorem d_Model_swap_80 : decode prog_8_method_37_code 80 = .ok (.getfield 45, 3) := by decide +kernel
theorem d_Model_swap_83 : decode prog_8_method_37_code 83 = .ok (.iload_n 2, 1) := by decide +kernel
theorem d_Model_swap_84 : decode prog_8_method_37_code 84 = .ok (.iload_n 3, 1) := by decide +kernel
theorem d_Model_swap_85 : decode prog_8_method_37_code 85 = .ok (.iastore, 1) := by decide +kernel
theorem d_Model_swap_86 : decode prog_8_method_37_code 86 = .ok (.aload_n 0, 1) := by decide +kernel
theorem d_Model_swap_87 : decode prog_8_method_37_code 87 = .ok (.getfield 48, 3) := by decide +kernel
theorem d_Model_swap_90 : decode prog_8_method_37_code 90 = .ok (.iload_n 2, 1) := by decide +kernel
theorem d_Model_swap_91 : decode prog_8_method_37_code 91 = .ok (.iload 4, 2) := by decide +kernel
theorem d_Model_swap_93 : decode prog_8_method_37_code 93 = .ok (.iastore, 1) := by decide +kernel
theorem d_Model_swap_94 : decode prog_8_method_37_code 94 = .ok (.aload_n 0, 1) := by decide +kernel
theorem d_Model_swap_95 : decode prog_8_method_37_code 95 = .ok (.getfield 51, 3) := by decide +kernel
theorem d_Model_swap_98 : decode prog_8_method_37_code 98 = .ok (.iload_n 2, 1) := by decide +kernel
theorem d_Model_swap_99 : decode prog_8_method_37_code 99 = .ok (.iload 5, 2) := by decide +kernel
theorem d_Model_swap_101 : decode prog_8_method_37_code 101 = .ok (.iastore, 1) := by decide +kernel
theorem d_Model_swap_102 : decode prog_8_method_37_code 102 = .ok (.aload_n 0, 1) := by decide +kernel
theorem d_Model_swap_103 : decode prog_8_method_37_code 103 = .ok (.getfield 54, 3) := by decide +kernel
theorem d_Model_swap_106 : decode prog_8_method_37_code 106 = .ok (.iload_n 2, 1) := by decide +kernel
theorem d_Model_swap_107 : decode prog_8_method_37_code 107 = .ok (.iload 6, 2) := by decide +kernel
theorem d_Model_swap_109 : decode prog_8_method_37_code 109 = .ok (.iastore, 1) := by decide +kernel
theorem d_Model_swap_110 : decode prog_8_method_37_code 110 = .ok (.return_, 1) := by decide +kernel
theorem d_Model_polygon_0 : decode prog_8_method_38_code 0 = .ok (.aload_n 0, 1) := by decide +kernel
theorem d_Model_polygon_1 : decode prog_8_method_38_code 1 = .ok (.aload_n 0, 1) := by decide +kernel
theorem d_Model_polygon_2 : decode prog_8_method_38_code 2 = .ok (.invokevirtual 200, 3) := by decide +kernel
theorem d_Model_polygon_5 : decode prog_8_method_38_code 5 = .ok (.invokevirtual 211, 3) := by decide +kernel
theorem d_Model_polygon_8 : decode prog_8_method_38_code 8 = .ok (.istore 4, 2) := by decide +kernel
theorem d_Model_polygon_10 : decode prog_8_method_38_code 10 = .ok (.aload_n 0, 1) := by decide +kernel
theorem d_Model_polygon_11 : decode prog_8_method_38_code 11 = .ok (.aload_n 0, 1) := by decide +kernel
theorem d_Model_polygon_12 : decode prog_8_method_38_code 12 = .ok (.invokevirtual 200, 3) := by decide +kernel
theorem d_Model_polygon_15 : decode prog_8_method_38_code 15 = .ok (.invokevirtual 211, 3) := by decide +kernel
theorem d_Model_polygon_18 : decode prog_8_method_38_code 18 = .ok (.istore 5, 2) := by decide +kernel
theorem d_Model_polygon_20 : decode prog_8_method_38_code 20 = .ok (.aload_n 0, 1) := by decide +kernel
theorem d_Model_polygon_21 : decode prog_8_method_38_code 21 = .ok (.invokevirtual 200, 3) := by decide +kernel
theorem d_Model_polygon_24 : decode prog_8_method_38_code 24 = .ok (.bipush 15, 2) := by decide +kernel
theorem d_Model_polygon_26 : decode prog_8_method_38_code 26 = .ok (.iand, 1) := by decide +kernel
theorem d_Model_polygon_27 : decode prog_8_method_38_code 27 = .ok (.istore 6, 2) := by decide +kernel
theorem d_Model_polygon_29 : decode prog_8_method_38_code 29 = .ok (.iload_n 1, 1) := by decide +kernel
theorem d_Model_polygon_30 : decode prog_8_method_38_code 30 = .ok (.iload 4, 2) := by decide +kernel
theorem d_Model_polygon_32 : decode prog_8_method_38_code 32 = .ok (.i2l, 1) := by decide +kernel
theorem d_Model_polygon_33 : decode prog_8_method_38_code 33 = .ok (.ldc2_w 217, 3) := by decide +kernel
theorem d_Model_polygon_36 : decode prog_8_method_38_code 36 = .ok (.invokestatic 183, 3) := by decide +kernel
theorem d_Model_polygon_39 : decode prog_8_method_38_code 39 = .ok (.l2i, 1) := by decide +kernel
theorem d_Model_polygon_40 : decode prog_8_method_38_code 40 = .ok (.isub, 1) := by decide +kernel
theorem d_Model_polygon_41 : decode prog_8_method_38_code 41 = .ok (.istore 7, 2) := by decide +kernel
theorem d_Model_polygon_43 : decode prog_8_method_38_code 43 = .ok (.iload_n 2, 1) := by decide +kernel
theorem d_Model_polygon_44 : decode prog_8_method_38_code 44 = .ok (.iload 5, 2) := by decide +kernel
theorem d_Model_polygon_46 : decode prog_8_method_38_code 46 = .ok (.i2l, 1) := by decide +kernel
theorem d_Model_polygon_47 : decode prog_8_method_38_code 47 = .ok (.ldc2_w 217, 3) := by decide +kernel
theorem d_Model_polygon_50 : decode prog_8_method_38_code 50 = .ok (.invokestatic 183, 3) := by decide +kernel
theorem d_Model_polygon_53 : decode prog_8_method_38_code 53 = .ok (.l2i, 1) := by decide +kernel
theorem d_Model_polygon_54 : decode prog_8_method_38_code 54 = .ok (.isub, 1) := by decide +kernel
theorem d_Model_polygon_55 : decode prog_8_method_38_code 55 = .ok (.istore 8, 2) := by decide +kernel
theorem d_Model_polygon_57 : decode prog_8_method_38_code 57 = .ok (.iconst 0, 1) := by decide +kernel
theorem d_Model_polygon_58 : decode prog_8_method_38_code 58 = .ok (.istore 9, 2) := by decide +kernel
theorem d_Model_polygon_60 : decode prog_8_method_38_code 60 = .ok (.iload 9, 2) := by decide +kernel
theorem d_Model_polygon_62 : decode prog_8_method_38_code 62 = .ok (.iload 6, 2) := by decide +kernel
theorem d_Model_polygon_64 : decode prog_8_method_38_code 64 = .ok (.if_icmp .ge 45, 3) := by decide +kernel
theorem d_Model_polygon_67 : decode prog_8_method_38_code 67 = .ok (.aload_n 0, 1) := by decide +kernel
theorem d_Model_polygon_68 : decode prog_8_method_38_code 68 = .ok (.getfield 60, 3) := by decide +kernel
theorem d_Model_polygon_71 : decode prog_8_method_38_code 71 = .ok (.iload 9, 2) := by decide +kernel
theorem d_Model_polygon_73 : decode prog_8_method_38_code 73 = .ok (.iload 7, 2) := by decide +kernel
theorem d_Model_polygon_75 : decode prog_8_method_38_code 75 = .ok (.aload_n 0, 1) := by decide +kernel
theorem d_Model_polygon_76 : decode prog_8_method_38_code 76 = .ok (.aload_n 0, 1) := by decide +kernel
theorem d_Model_polygon_77 : decode prog_8_method_38_code 77 = .ok (.invokevirtual 200, 3) := by decide +kernel
theorem d_Model_polygon_80 : decode prog_8_method_38_code 80 = .ok (.invokevirtual 211, 3) := by decide +kernel
theorem d_Model_polygon_83 : decode prog_8_method_38_code 83 = .ok (.iadd, 1) := by decide +kernel
theorem d_Model_polygon_84 : decode prog_8_method_38_code 84 = .ok (.iastore, 1) := by decide +kernel
theorem d_Model_polygon_85 : decode prog_8_method_38_code 85 = .ok (.aload_n 0, 1) := by decide +kernel
theorem d_Model_polygon_86 : decode prog_8_method_38_code 86 = .ok (.getfield 66, 3) := by decide +kernel
theorem d_Model_polygon_89 : decode prog_8_method_38_code 89 = .ok (.iload 9, 2) := by decide +kernel
theorem d_Model_polygon_91 : decode prog_8_method_38_code 91 = .ok (.iload 8, 2) := by decide +kernel
theorem d_Model_polygon_93 : decode prog_8_method_38_code 93 = .ok (.aload_n 0, 1) := by decide +kernel
theorem d_Model_polygon_94 : decode prog_8_method_38_code 94 = .ok (.aload_n 0, 1) := by decide +kernel
theorem d_Model_polygon_95 : decode prog_8_method_38_code 95 = .ok (.invokevirtual 200, 3) := by decide +kernel
theorem d_Model_polygon_98 : decode prog_8_method_38_code 98 = .ok (.invokevirtual 211, 3) := by decide +kernel
theorem d_Model_polygon_101 : decode prog_8_method_38_code 101 = .ok (.iadd, 1) := by decide +kernel
theorem d_Model_polygon_102 : decode prog_8_method_38_code 102 = .ok (.iastore, 1) := by decide +kernel
theorem d_Model_polygon_103 : decode prog_8_method_38_code 103 = .ok (.iinc 9 1, 3) := by decide +kernel
theorem d_Model_polygon_106 : decode prog_8_method_38_code 106 = .ok (.goto (-46), 3) := by decide +kernel
theorem d_Model_polygon_109 : decode prog_8_method_38_code 109 = .ok (.iconst 0, 1) := by decide +kernel
theorem d_Model_polygon_110 : decode prog_8_method_38_code 110 = .ok (.istore 9, 2) := by decide +kernel
theorem d_Model_polygon_112 : decode prog_8_method_38_code 112 = .ok (.iload 9, 2) := by decide +kernel
theorem d_Model_polygon_114 : decode prog_8_method_38_code 114 = .ok (.iload 6, 2) := by decide +kernel
theorem d_Model_polygon_116 : decode prog_8_method_38_code 116 = .ok (.if_icmp .ge 27, 3) := by decide +kernel
theorem d_Model_polygon_119 : decode prog_8_method_38_code 119 = .ok (.aload_n 0, 1) := by decide +kernel
theorem d_Model_polygon_120 : decode prog_8_method_38_code 120 = .ok (.getfield 63, 3) := by decide +kernel
theorem d_Model_polygon_123 : decode prog_8_method_38_code 123 = .ok (.iload 9, 2) := by decide +kernel
theorem d_Model_polygon_125 : decode prog_8_method_38_code 125 = .ok (.iload 7, 2) := by decide +kernel
theorem d_Model_polygon_127 : decode prog_8_method_38_code 127 = .ok (.aload_n 0, 1) := by decide +kernel
theorem d_Model_polygon_128 : decode prog_8_method_38_code 128 = .ok (.aload_n 0, 1) := by decide +kernel
theorem d_Model_polygon_129 : decode prog_8_method_38_code 129 = .ok (.invokevirtual 200, 3) := by decide +kernel
theorem d_Model_polygon_132 : decode prog_8_method_38_code 132 = .ok (.invokevirtual 211, 3) := by decide +kernel
theorem d_Model_polygon_135 : decode prog_8_method_38_code 135 = .ok (.iadd, 1) := by decide +kernel
theorem d_Model_polygon_136 : decode prog_8_method_38_code 136 = .ok (.iastore, 1) := by decide +kernel
theorem d_Model_polygon_137 : decode prog_8_method_38_code 137 = .ok (.iinc 9 1, 3) := by decide +kernel
theorem d_Model_polygon_140 : decode prog_8_method_38_code 140 = .ok (.goto (-28), 3) := by decide +kernel
theorem d_Model_polygon_143 : decode prog_8_method_38_code 143 = .ok (.iconst 0, 1) := by decide +kernel
theorem d_Model_polygon_144 : decode prog_8_method_38_code 144 = .ok (.istore 9, 2) := by decide +kernel
theorem d_Model_polygon_146 : decode prog_8_method_38_code 146 = .ok (.iload 9, 2) := by decide +kernel
theorem d_Model_polygon_148 : decode prog_8_method_38_code 148 = .ok (.iconst 1, 1) := by decide +kernel
theorem d_Model_polygon_149 : decode prog_8_method_38_code 149 = .ok (.iadd, 1) := by decide +kernel
theorem d_Model_polygon_150 : decode prog_8_method_38_code 150 = .ok (.iload 6, 2) := by decide +kernel
theorem d_Model_polygon_152 : decode prog_8_method_38_code 152 = .ok (.if_icmp .ge 60, 3) := by decide +kernel
theorem d_Model_polygon_155 : decode prog_8_method_38_code 155 = .ok (.iconst 0, 1) := by decide +kernel
theorem d_Model_polygon_156 : decode prog_8_method_38_code 156 = .ok (.istore 10, 2) := by decide +kernel
theorem d_Model_polygon_158 : decode prog_8_method_38_code 158 = .ok (.iload 10, 2) := by decide +kernel
theorem d_Model_polygon_160 : decode prog_8_method_38_code 160 = .ok (.bipush 40, 2) := by decide +kernel
theorem d_Model_polygon_162 : decode prog_8_method_38_code 162 = .ok (.if_icmp .ge 44, 3) := by decide +kernel
theorem d_Model_polygon_165 : decode prog_8_method_38_code 165 = .ok (.iload 10, 2) := by decide +kernel
theorem d_Model_polygon_167 : decode prog_8_method_38_code 167 = .ok (.aload_n 0, 1) := by decide +kernel
theorem d_Model_polygon_168 : decode prog_8_method_38_code 168 = .ok (.getfield 66, 3) := by decide +kernel
theorem d_Model_polygon_171 : decode prog_8_method_38_code 171 = .ok (.iload 9, 2) := by decide +kernel
theorem d_Model_polygon_173 : decode prog_8_method_38_code 173 = .ok (.iaload, 1) := by decide +kernel
theorem d_Model_polygon_174 : decode prog_8_method_38_code 174 = .ok (.if_icmp .lt 26, 3) := by decide +kernel
theorem d_Model_polygon_177 : decode prog_8_method_38_code 177 = .ok (.iload 10, 2) := by decide +kernel
theorem d_Model_polygon_179 : decode prog_8_method_38_code 179 = .ok (.aload_n 0, 1) := by decide +kernel
theorem d_Model_polygon_180 : decode prog_8_method_38_code 180 = .ok (.getfield 66, 3) := by decide +kernel
theorem d_Model_polygon_183 : decode prog_8_method_38_code 183 = .ok (.iload 9, 2) := by decide +kernel
theorem d_Model_polygon_185 : decode prog_8_method_38_code 185 = .ok (.iconst 1, 1) := by decide +kernel
theorem d_Model_polygon_186 : decode prog_8_method_38_code 186 = .ok (.iadd, 1) := by decide +kernel
theorem d_Model_polygon_187 : decode prog_8_method_38_code 187 = .ok (.iaload, 1) := by decide +kernel
theorem d_Model_polygon_188 : decode prog_8_method_38_code 188 = .ok (.if_icmp .ge 12, 3) := by decide +kernel
theorem d_Model_polygon_191 : decode prog_8_method_38_code 191 = .ok (.aload_n 0, 1) := by decide +kernel
theorem d_Model_polygon_192 : decode prog_8_method_38_code 192 = .ok (.iload 9, 2) := by decide +kernel
theorem d_Model_polygon_194 : decode prog_8_method_38_code 194 = .ok (.iload 10, 2) := by decide +kernel
theorem d_Model_polygon_196 : decode prog_8_method_38_code 196 = .ok (.iload_n 3, 1) := by decide +kernel
theorem d_Model_polygon_197 : decode prog_8_method_38_code 197 = .ok (.invokevirtual 219, 3) := by decide +kernel
theorem d_Model_polygon_200 : decode prog_8_method_38_code 200 = .ok (.iinc 10 1, 3) := by decide +kernel
theorem d_Model_polygon_203 : decode prog_8_method_38_code 203 = .ok (.goto (-45), 3) := by decide +kernel
theorem d_Model_polygon_206 : decode prog_8_method_38_code 206 = .ok (.iinc 9 1, 3) := by decide +kernel
theorem d_Model_polygon_209 : decode prog_8_method_38_code 209 = .ok (.goto (-63), 3) := by decide +kernel
theorem d_Model_polygon_212 : decode prog_8_method_38_code 212 = .ok (.return_, 1) := by decide +kernel
theorem d_Model_side_0 : decode prog_8_method_39_code 0 = .ok (.ldc2_w 222, 3) := by decide +kernel
theorem d_Model_side_3 : decode prog_8_method_39_code 3 = .ok (.iload_n 1, 1) := by decide +kernel
theorem d_Model_side_4 : decode prog_8_method_39_code 4 = .ok (.iload_n 0, 1) := by decide +kernel
theorem d_Model_side_5 : decode prog_8_method_39_code 5 = .ok (.isub, 1) := by decide +kernel
theorem d_Model_side_6 : decode prog_8_method_39_code 6 = .ok (.i2l, 1) := by decide +kernel
theorem d_Model_side_7 : decode prog_8_method_39_code 7 = .ok (.lmul, 1) := by decide +kernel
theorem d_Model_side_8 : decode prog_8_method_39_code 8 = .ok (.iload_n 2, 1) := by decide +kernel
theorem d_Model_side_9 : decode prog_8_method_39_code 9 = .ok (.i2l, 1) := by decide +kernel
theorem d_Model_side_10 : decode prog_8_method_39_code 10 = .ok (.invokestatic 183, 3) := by decide +kernel
theorem d_Model_side_13 : decode prog_8_method_39_code 13 = .ok (.lstore 4, 2) := by decide +kernel
theorem d_Model_side_15 : decode prog_8_method_39_code 15 = .ok (.ldc2_w 222, 3) := by decide +kernel
theorem d_Model_side_18 : decode prog_8_method_39_code 18 = .ok (.iload_n 0, 1) := by decide +kernel
theorem d_Model_side_19 : decode prog_8_method_39_code 19 = .ok (.i2l, 1) := by decide +kernel
theorem d_Model_side_20 : decode prog_8_method_39_code 20 = .ok (.lmul, 1) := by decide +kernel
theorem d_Model_side_21 : decode prog_8_method_39_code 21 = .ok (.ldc2_w 224, 3) := by decide +kernel
theorem d_Model_side_24 : decode prog_8_method_39_code 24 = .ok (.ladd, 1) := by decide +kernel
theorem d_Model_side_25 : decode prog_8_method_39_code 25 = .ok (.iload_n 3, 1) := by decide +kernel
theorem d_Model_side_26 : decode prog_8_method_39_code 26 = .ok (.i2l, 1) := by decide +kernel
theorem d_Model_side_27 : decode prog_8_method_39_code 27 = .ok (.lload 4, 2) := by decide +kernel
theorem d_Model_side_29 : decode prog_8_method_39_code 29 = .ok (.lmul, 1) := by decide +kernel
theorem d_Model_side_30 : decode prog_8_method_39_code 30 = .ok (.ladd, 1) := by decide +kernel
theorem d_Model_side_31 : decode prog_8_method_39_code 31 = .ok (.ldc2_w 222, 3) := by decide +kernel
theorem d_Model_side_34 : decode prog_8_method_39_code 34 = .ok (.invokestatic 183, 3) := by decide +kernel
theorem d_Model_side_37 : decode prog_8_method_39_code 37 = .ok (.lreturn, 1) := by decide +kernel
theorem d_Model_line_0 : decode prog_8_method_40_code 0 = .ok (.aload_n 0, 1) := by decide +kernel
theorem d_Model_line_1 : decode prog_8_method_40_code 1 = .ok (.getfield 66, 3) := by decide +kernel
theorem d_Model_line_4 : decode prog_8_method_40_code 4 = .ok (.iload_n 1, 1) := by decide +kernel
theorem d_Model_line_5 : decode prog_8_method_40_code 5 = .ok (.iconst 1, 1) := by decide +kernel
theorem d_Model_line_6 : decode prog_8_method_40_code 6 = .ok (.iadd, 1) := by decide +kernel
theorem d_Model_line_7 : decode prog_8_method_40_code 7 = .ok (.iaload, 1) := by decide +kernel
theorem d_Model_line_8 : decode prog_8_method_40_code 8 = .ok (.aload_n 0, 1) := by decide +kernel
theorem d_Model_line_9 : decode prog_8_method_40_code 9 = .ok (.getfield 66, 3) := by decide +kernel
theorem d_Model_line_12 : decode prog_8_method_40_code 12 = .ok (.iload_n 1, 1) := by decide +kernel
theorem d_Model_line_13 : decode prog_8_method_40_code 13 = .ok (.iaload, 1) := by decide +kernel
theorem d_Model_line_14 : decode prog_8_method_40_code 14 = .ok (.isub, 1) := by decide +kernel
theorem d_Model_line_15 : decode prog_8_method_40_code 15 = .ok (.istore 4, 2) := by decide +kernel
theorem d_Model_line_17 : decode prog_8_method_40_code 17 = .ok (.iload_n 2, 1) := by decide +kernel
theorem d_Model_line_18 : decode prog_8_method_40_code 18 = .ok (.aload_n 0, 1) := by decide +kernel
theorem d_Model_line_19 : decode prog_8_method_40_code 19 = .ok (.getfield 66, 3) := by decide +kernel
theorem d_Model_line_22 : decode prog_8_method_40_code 22 = .ok (.iload_n 1, 1) := by decide +kernel
theorem d_Model_line_23 : decode prog_8_method_40_code 23 = .ok (.iaload, 1) := by decide +kernel
theorem d_Model_line_24 : decode prog_8_method_40_code 24 = .ok (.isub, 1) := by decide +kernel
theorem d_Model_line_25 : decode prog_8_method_40_code 25 = .ok (.istore 5, 2) := by decide +kernel
theorem d_Model_line_27 : decode prog_8_method_40_code 27 = .ok (.aload_n 0, 1) := by decide +kernel
theorem d_Model_line_28 : decode prog_8_method_40_code 28 = .ok (.getfield 63, 3) := by decide +kernel
theorem d_Model_line_31 : decode prog_8_method_40_code 31 = .ok (.iload_n 1, 1) := by decide +kernel
theorem d_Model_line_32 : decode prog_8_method_40_code 32 = .ok (.iaload, 1) := by decide +kernel
theorem d_Model_line_33 : decode prog_8_method_40_code 33 = .ok (.aload_n 0, 1) := by decide +kernel
theorem d_Model_line_34 : decode prog_8_method_40_code 34 = .ok (.getfield 63, 3) := by decide +kernel
theorem d_Model_line_37 : decode prog_8_method_40_code 37 = .ok (.iload_n 1, 1) := by decide +kernel
theorem d_Model_line_38 : decode prog_8_method_40_code 38 = .ok (.iconst 1, 1) := by decide +kernel
theorem d_Model_line_39 : decode prog_8_method_40_code 39 = .ok (.iadd, 1) := by decide +kernel
theorem d_Model_line_40 : decode prog_8_method_40_code 40 = .ok (.iaload, 1) := by decide +kernel
theorem d_Model_line_41 : decode prog_8_method_40_code 41 = .ok (.iload 4, 2) := by decide +kernel
theorem d_Model_line_43 : decode prog_8_method_40_code 43 = .ok (.iload 5, 2) := by decide +kernel
theorem d_Model_line_45 : decode prog_8_method_40_code 45 = .ok (.invokestatic 226, 3) := by decide +kernel
theorem d_Model_line_48 : decode prog_8_method_40_code 48 = .ok (.lstore 6, 2) := by decide +kernel
theorem d_Model_line_50 : decode prog_8_method_40_code 50 = .ok (.aload_n 0, 1) := by decide +kernel
theorem d_Model_line_51 : decode prog_8_method_40_code 51 = .ok (.getfield 60, 3) := by decide +kernel
theorem d_Model_line_54 : decode prog_8_method_40_code 54 = .ok (.iload_n 1, 1) := by decide +kernel
theorem d_Model_line_55 : decode prog_8_method_40_code 55 = .ok (.iaload, 1) := by decide +kernel
theorem d_Model_line_56 : decode prog_8_method_40_code 56 = .ok (.aload_n 0, 1) := by decide +kernel
theorem d_Model_line_57 : decode prog_8_method_40_code 57 = .ok (.getfield 60, 3) := by decide +kernel
theorem d_Model_line_60 : decode prog_8_method_40_code 60 = .ok (.iload_n 1, 1) := by decide +kernel
theorem d_Model_line_61 : decode prog_8_method_40_code 61 = .ok (.iconst 1, 1) := by decide +kernel
theorem d_Model_line_62 : decode prog_8_method_40_code 62 = .ok (.iadd, 1) := by decide +kernel
theorem d_Model_line_63 : decode prog_8_method_40_code 63 = .ok (.iaload, 1) := by decide +kernel
theorem d_Model_line_64 : decode prog_8_method_40_code 64 = .ok (.iload 4, 2) := by decide +kernel
theorem d_Model_line_66 : decode prog_8_method_40_code 66 = .ok (.iload 5, 2) := by decide +kernel
theorem d_Model_line_68 : decode prog_8_method_40_code 68 = .ok (.invokestatic 226, 3) := by decide +kernel
theorem d_Model_line_71 : decode prog_8_method_40_code 71 = .ok (.lstore 8, 2) := by decide +kernel
theorem d_Model_line_73 : decode prog_8_method_40_code 73 = .ok (.iconst 0, 1) := by decide +kernel
theorem d_Model_line_74 : decode prog_8_method_40_code 74 = .ok (.istore 10, 2) := by decide +kernel
theorem d_Model_line_76 : decode prog_8_method_40_code 76 = .ok (.iconst 0, 1) := by decide +kernel
theorem d_Model_line_77 : decode prog_8_method_40_code 77 = .ok (.istore 11, 2) := by decide +kernel
theorem d_Model_line_79 : decode prog_8_method_40_code 79 = .ok (.iload 11, 2) := by decide +kernel
theorem d_Model_line_81 : decode prog_8_method_40_code 81 = .ok (.bipush 64, 2) := by decide +kernel
theorem d_Model_line_83 : decode prog_8_method_40_code 83 = .ok (.if_icmp .ge 53, 3) := by decide +kernel
theorem d_Model_line_86 : decode prog_8_method_40_code 86 = .ok (.iload 11, 2) := by decide +kernel
theorem d_Model_line_88 : decode prog_8_method_40_code 88 = .ok (.i2l, 1) := by decide +kernel
theorem d_Model_line_89 : decode prog_8_method_40_code 89 = .ok (.lload 6, 2) := by decide +kernel
theorem d_Model_line_91 : decode prog_8_method_40_code 91 = .ok (.lcmp, 1) := by decide +kernel
theorem d_Model_line_92 : decode prog_8_method_40_code 92 = .ok (.ifCond .lt 38, 3) := by decide +kernel
theorem d_Model_line_95 : decode prog_8_method_40_code 95 = .ok (.iload 11, 2) := by decide +kernel
theorem d_Model_line_97 : decode prog_8_method_40_code 97 = .ok (.i2l, 1) := by decide +kernel
theorem d_Model_line_98 : decode prog_8_method_40_code 98 = .ok (.lload 8, 2) := by decide +kernel
theorem d_Model_line_100 : decode prog_8_method_40_code 100 = .ok (.lcmp, 1) := by decide +kernel
theorem d_Model_line_101 : decode prog_8_method_40_code 101 = .ok (.ifCond .gt 29, 3) := by decide +kernel
theorem d_Model_line_104 : decode prog_8_method_40_code 104 = .ok (.aload_n 0, 1) := by decide +kernel
theorem d_Model_line_105 : decode prog_8_method_40_code 105 = .ok (.getfield 19, 3) := by decide +kernel
theorem d_Model_line_108 : decode prog_8_method_40_code 108 = .ok (.sipush 2560, 3) := by decide +kernel
theorem d_Model_line_111 : decode prog_8_method_40_code 111 = .ok (.aload_n 0, 1) := by decide +kernel
theorem d_Model_line_112 : decode prog_8_method_40_code 112 = .ok (.getfield 91, 3) := by decide +kernel
theorem d_Model_line_115 : decode prog_8_method_40_code 115 = .ok (.imul, 1) := by decide +kernel
theorem d_Model_line_116 : decode prog_8_method_40_code 116 = .ok (.bipush 64, 2) := by decide +kernel
theorem d_Model_line_118 : decode prog_8_method_40_code 118 = .ok (.iload_n 2, 1) := by decide +kernel
theorem d_Model_line_119 : decode prog_8_method_40_code 119 = .ok (.imul, 1) := by decide +kernel
theorem d_Model_line_120 : decode prog_8_method_40_code 120 = .ok (.iadd, 1) := by decide +kernel
theorem d_Model_line_121 : decode prog_8_method_40_code 121 = .ok (.iload 11, 2) := by decide +kernel
theorem d_Model_line_123 : decode prog_8_method_40_code 123 = .ok (.iadd, 1) := by decide +kernel
theorem d_Model_line_124 : decode prog_8_method_40_code 124 = .ok (.iload_n 3, 1) := by decide +kernel
theorem d_Model_line_125 : decode prog_8_method_40_code 125 = .ok (.i2b, 1) := by decide +kernel
theorem d_Model_line_126 : decode prog_8_method_40_code 126 = .ok (.bastore, 1) := by decide +kernel
theorem d_Model_line_127 : decode prog_8_method_40_code 127 = .ok (.iconst 1, 1) := by decide +kernel
theorem d_Model_line_128 : decode prog_8_method_40_code 128 = .ok (.istore 10, 2) := by decide +kernel
theorem d_Model_line_130 : decode prog_8_method_40_code 130 = .ok (.iinc 11 1, 3) := by decide +kernel
theorem d_Model_line_133 : decode prog_8_method_40_code 133 = .ok (.goto (-54), 3) := by decide +kernel
theorem d_Model_line_136 : decode prog_8_method_40_code 136 = .ok (.aload_n 0, 1) := by decide +kernel
theorem d_Model_line_137 : decode prog_8_method_40_code 137 = .ok (.iload 10, 2) := by decide +kernel
theorem d_Model_line_139 : decode prog_8_method_40_code 139 = .ok (.ifCond .eq 12, 3) := by decide +kernel
theorem d_Model_line_142 : decode prog_8_method_40_code 142 = .ok (.aload_n 0, 1) := by decide +kernel
theorem d_Model_line_143 : decode prog_8_method_40_code 143 = .ok (.getfield 162, 3) := by decide +kernel
theorem d_Model_line_146 : decode prog_8_method_40_code 146 = .ok (.iconst 1, 1) := by decide +kernel
theorem d_Model_line_147 : decode prog_8_method_40_code 147 = .ok (.iadd, 1) := by decide +kernel
theorem d_Model_line_148 : decode prog_8_method_40_code 148 = .ok (.goto 7, 3) := by decide +kernel
theorem d_Model_line_151 : decode prog_8_method_40_code 151 = .ok (.aload_n 0, 1) := by decide +kernel
theorem d_Model_line_152 : decode prog_8_method_40_code 152 = .ok (.getfield 162, 3) := by decide +kernel
theorem d_Model_line_155 : decode prog_8_method_40_code 155 = .ok (.putfield 162, 3) := by decide +kernel
theorem d_Model_line_158 : decode prog_8_method_40_code 158 = .ok (.return_, 1) := by decide +kernel
theorem d_Model_channel_0 : decode prog_8_method_41_code 0 = .ok (.iload_n 1, 1) := by decide +kernel
theorem d_Model_channel_1 : decode prog_8_method_41_code 1 = .ok (.iconst 0, 1) := by decide +kernel
theorem d_Model_channel_2 : decode prog_8_method_41_code 2 = .ok (.bipush 15, 2) := by decide +kernel
theorem d_Model_channel_4 : decode prog_8_method_41_code 4 = .ok (.invokestatic 69, 3) := by decide +kernel
theorem d_Model_channel_7 : decode prog_8_method_41_code 7 = .ok (.ifCond .ne 5, 3) := by decide +kernel
theorem d_Model_channel_10 : decode prog_8_method_41_code 10 = .ok (.iconst (-1), 1) := by decide +kernel
theorem d_Model_channel_11 : decode prog_8_method_41_code 11 = .ok (.ireturn, 1) := by decide +kernel
theorem d_Model_channel_12 : decode prog_8_method_41_code 12 = .ok (.iload_n 2, 1) := by decide +kernel
theorem d_Model_channel_13 : decode prog_8_method_41_code 13 = .ok (.tableswitch 78 0 4 #[35, 42, 57, 64, 71], 35) := by decide +kernel
theorem d_Model_channel_48 : decode prog_8_method_41_code 48 = .ok (.aload_n 0, 1) := by decide +kernel
theorem d_Model_channel_49 : decode prog_8_method_41_code 49 = .ok (.getfield 23, 3) := by decide +kernel
theorem d_Model_channel_52 : decode prog_8_method_41_code 52 = .ok (.iload_n 1, 1) := by decide +kernel
theorem d_Model_channel_53 : decode prog_8_method_41_code 53 = .ok (.iaload, 1) := by decide +kernel
theorem d_Model_channel_54 : decode prog_8_method_41_code 54 = .ok (.ireturn, 1) := by decide +kernel
theorem d_Model_channel_55 : decode prog_8_method_41_code 55 = .ok (.aload_n 0, 1) := by decide +kernel
theorem d_Model_channel_56 : decode prog_8_method_41_code 56 = .ok (.getfield 38, 3) := by decide +kernel
theorem d_Model_channel_59 : decode prog_8_method_41_code 59 = .ok (.iload_n 1, 1) := by decide +kernel
theorem d_Model_channel_60 : decode prog_8_method_41_code 60 = .ok (.baload, 1) := by decide +kernel
theorem d_Model_channel_61 : decode prog_8_method_41_code 61 = .ok (.ifCond .eq 7, 3) := by decide +kernel
theorem d_Model_channel_64 : decode prog_8_method_41_code 64 = .ok (.iconst 1, 1) := by decide +kernel
theorem d_Model_channel_65 : decode prog_8_method_41_code 65 = .ok (.goto 4, 3) := by decide +kernel
theorem d_Model_channel_68 : decode prog_8_method_41_code 68 = .ok (.iconst 0, 1) := by decide +kernel
theorem d_Model_channel_69 : decode prog_8_method_41_code 69 = .ok (.ireturn, 1) := by decide +kernel
theorem d_Model_channel_70 : decode prog_8_method_41_code 70 = .ok (.aload_n 0, 1) := by decide +kernel
theorem d_Model_channel_71 : decode prog_8_method_41_code 71 = .ok (.getfield 26, 3) := by decide +kernel
theorem d_Model_channel_74 : decode prog_8_method_41_code 74 = .ok (.iload_n 1, 1) := by decide +kernel
theorem d_Model_channel_75 : decode prog_8_method_41_code 75 = .ok (.iaload, 1) := by decide +kernel
theorem d_Model_channel_76 : decode prog_8_method_41_code 76 = .ok (.ireturn, 1) := by decide +kernel
theorem d_Model_channel_77 : decode prog_8_method_41_code 77 = .ok (.aload_n 0, 1) := by decide +kernel
theorem d_Model_channel_78 : decode prog_8_method_41_code 78 = .ok (.getfield 29, 3) := by decide +kernel
theorem d_Model_channel_81 : decode prog_8_method_41_code 81 = .ok (.iload_n 1, 1) := by decide +kernel
theorem d_Model_channel_82 : decode prog_8_method_41_code 82 = .ok (.iaload, 1) := by decide +kernel
theorem d_Model_channel_83 : decode prog_8_method_41_code 83 = .ok (.ireturn, 1) := by decide +kernel
theorem d_Model_channel_84 : decode prog_8_method_41_code 84 = .ok (.aload_n 0, 1) := by decide +kernel
theorem d_Model_channel_85 : decode prog_8_method_41_code 85 = .ok (.getfield 32, 3) := by decide +kernel
theorem d_Model_channel_88 : decode prog_8_method_41_code 88 = .ok (.iload_n 1, 1) := by decide +kernel
theorem d_Model_channel_89 : decode prog_8_method_41_code 89 = .ok (.iaload, 1) := by decide +kernel
theorem d_Model_channel_90 : decode prog_8_method_41_code 90 = .ok (.ireturn, 1) := by decide +kernel
theorem d_Model_channel_91 : decode prog_8_method_41_code 91 = .ok (.iconst (-1), 1) := by decide +kernel
theorem d_Model_channel_92 : decode prog_8_method_41_code 92 = .ok (.ireturn, 1) := by decide +kernel
theorem d_Model_pixel_0 : decode prog_8_method_42_code 0 = .ok (.iload_n 1, 1) := by decide +kernel
theorem d_Model_pixel_1 : decode prog_8_method_42_code 1 = .ok (.iconst 0, 1) := by decide +kernel
theorem d_Model_pixel_2 : decode prog_8_method_42_code 2 = .ok (.iconst 3, 1) := by decide +kernel
theorem d_Model_pixel_3 : decode prog_8_method_42_code 3 = .ok (.invokestatic 69, 3) := by decide +kernel
theorem d_Model_pixel_6 : decode prog_8_method_42_code 6 = .ok (.ifCond .eq 43, 3) := by decide +kernel
theorem d_Model_pixel_9 : decode prog_8_method_42_code 9 = .ok (.iload_n 2, 1) := by decide +kernel
theorem d_Model_pixel_10 : decode prog_8_method_42_code 10 = .ok (.iconst 0, 1) := by decide +kernel
theorem d_Model_pixel_11 : decode prog_8_method_42_code 11 = .ok (.bipush 63, 2) := by decide +kernel
theorem d_Model_pixel_13 : decode prog_8_method_42_code 13 = .ok (.invokestatic 69, 3) := by decide +kernel
theorem d_Model_pixel_16 : decode prog_8_method_42_code 16 = .ok (.ifCond .eq 33, 3) := by decide +kernel
theorem d_Model_pixel_19 : decode prog_8_method_42_code 19 = .ok (.iload_n 3, 1) := by decide +kernel
theorem d_Model_pixel_20 : decode prog_8_method_42_code 20 = .ok (.iconst 0, 1) := by decide +kernel
theorem d_Model_pixel_21 : decode prog_8_method_42_code 21 = .ok (.bipush 39, 2) := by decide +kernel
theorem d_Model_pixel_23 : decode prog_8_method_42_code 23 = .ok (.invokestatic 69, 3) := by decide +kernel
theorem d_Model_pixel_26 : decode prog_8_method_42_code 26 = .ok (.ifCond .eq 23, 3) := by decide +kernel
theorem d_Model_pixel_29 : decode prog_8_method_42_code 29 = .ok (.aload_n 0, 1) := by decide +kernel
theorem d_Model_pixel_30 : decode prog_8_method_42_code 30 = .ok (.getfield 19, 3) := by decide +kernel
theorem d_Model_pixel_33 : decode prog_8_method_42_code 33 = .ok (.sipush 2560, 3) := by decide +kernel
theorem d_Model_pixel_36 : decode prog_8_method_42_code 36 = .ok (.iload_n 1, 1) := by decide +kernel
theorem d_Model_pixel_37 : decode prog_8_method_42_code 37 = .ok (.imul, 1) := by decide +kernel
theorem d_Model_pixel_38 : decode prog_8_method_42_code 38 = .ok (.bipush 64, 2) := by decide +kernel
theorem d_Model_pixel_40 : decode prog_8_method_42_code 40 = .ok (.iload_n 3, 1) := by decide +kernel
theorem d_Model_pixel_41 : decode prog_8_method_42_code 41 = .ok (.imul, 1) := by decide +kernel
theorem d_Model_pixel_42 : decode prog_8_method_42_code 42 = .ok (.iadd, 1) := by decide +kernel
theorem d_Model_pixel_43 : decode prog_8_method_42_code 43 = .ok (.iload_n 2, 1) := by decide +kernel
theorem d_Model_pixel_44 : decode prog_8_method_42_code 44 = .ok (.iadd, 1) := by decide +kernel
theorem d_Model_pixel_45 : decode prog_8_method_42_code 45 = .ok (.baload, 1) := by decide +kernel
theorem d_Model_pixel_46 : decode prog_8_method_42_code 46 = .ok (.goto 4, 3) := by decide +kernel
theorem d_Model_pixel_49 : decode prog_8_method_42_code 49 = .ok (.iconst (-1), 1) := by decide +kernel
theorem d_Model_pixel_50 : decode prog_8_method_42_code 50 = .ok (.ireturn, 1) := by decide +kernel
theorem d_Model_about_0 : decode prog_8_method_43_code 0 = .ok (.iload_n 1, 1) := by decide +kernel
theorem d_Model_about_1 : decode prog_8_method_43_code 1 = .ok (.tableswitch 69 0 5 #[39, 44, 49, 54, 59, 64], 39) := by decide +kernel
theorem d_Model_about_40 : decode prog_8_method_43_code 40 = .ok (.aload_n 0, 1) := by decide +kernel
theorem d_Model_about_41 : decode prog_8_method_43_code 41 = .ok (.getfield 91, 3) := by decide +kernel
theorem d_Model_about_44 : decode prog_8_method_43_code 44 = .ok (.ireturn, 1) := by decide +kernel
theorem d_Model_about_45 : decode prog_8_method_43_code 45 = .ok (.aload_n 0, 1) := by decide +kernel
theorem d_Model_about_46 : decode prog_8_method_43_code 46 = .ok (.getfield 88, 3) := by decide +kernel
theorem d_Model_about_49 : decode prog_8_method_43_code 49 = .ok (.ireturn, 1) := by decide +kernel
theorem d_Model_about_50 : decode prog_8_method_43_code 50 = .ok (.aload_n 0, 1) := by decide +kernel
theorem d_Model_about_51 : decode prog_8_method_43_code 51 = .ok (.getfield 159, 3) := by decide +kernel
theorem d_Model_about_54 : decode prog_8_method_43_code 54 = .ok (.ireturn, 1) := by decide +kernel
theorem d_Model_about_55 : decode prog_8_method_43_code 55 = .ok (.aload_n 0, 1) := by decide +kernel
theorem d_Model_about_56 : decode prog_8_method_43_code 56 = .ok (.getfield 123, 3) := by decide +kernel
theorem d_Model_about_59 : decode prog_8_method_43_code 59 = .ok (.ireturn, 1) := by decide +kernel
theorem d_Model_about_60 : decode prog_8_method_43_code 60 = .ok (.aload_n 0, 1) := by decide +kernel
theorem d_Model_about_61 : decode prog_8_method_43_code 61 = .ok (.getfield 162, 3) := by decide +kernel
theorem d_Model_about_64 : decode prog_8_method_43_code 64 = .ok (.ireturn, 1) := by decide +kernel
theorem d_Model_about_65 : decode prog_8_method_43_code 65 = .ok (.aload_n 0, 1) := by decide +kernel
theorem d_Model_about_66 : decode prog_8_method_43_code 66 = .ok (.getfield 165, 3) := by decide +kernel
theorem d_Model_about_69 : decode prog_8_method_43_code 69 = .ok (.ireturn, 1) := by decide +kernel
theorem d_Model_about_70 : decode prog_8_method_43_code 70 = .ok (.iconst (-1), 1) := by decide +kernel
theorem d_Model_about_71 : decode prog_8_method_43_code 71 = .ok (.ireturn, 1) := by decide +kernel
