theorem d_SM_put_0 : decode prog_1_method_2_code 0 = .ok (.aload_n 0, 1) := by decide +kernel
theorem d_SM_put_1 : decode prog_1_method_2_code 1 = .ok (.iload_n 1, 1) := by decide +kernel
theorem d_SM_put_2 : decode prog_1_method_2_code 2 = .ok (.invokevirtual 23, 3) := by decide +kernel
theorem d_SM_put_5 : decode prog_1_method_2_code 5 = .ok (.astore 4, 2) := by decide +kernel
theorem d_SM_put_7 : decode prog_1_method_2_code 7 = .ok (.aload 4, 2) := by decide +kernel
theorem d_SM_put_9 : decode prog_1_method_2_code 9 = .ok (.ifnull 14, 3) := by decide +kernel
theorem d_SM_put_12 : decode prog_1_method_2_code 12 = .ok (.iload_n 2, 1) := by decide +kernel
theorem d_SM_put_13 : decode prog_1_method_2_code 13 = .ok (.ifCond .lt 10, 3) := by decide +kernel
theorem d_SM_put_16 : decode prog_1_method_2_code 16 = .ok (.iload_n 2, 1) := by decide +kernel
theorem d_SM_put_17 : decode prog_1_method_2_code 17 = .ok (.sipush 1020, 3) := by decide +kernel
theorem d_SM_put_20 : decode prog_1_method_2_code 20 = .ok (.if_icmp .le 5, 3) := by decide +kernel
theorem d_SM_put_23 : decode prog_1_method_2_code 23 = .ok (.iconst 0, 1) := by decide +kernel
theorem d_SM_put_24 : decode prog_1_method_2_code 24 = .ok (.ireturn, 1) := by decide +kernel
theorem d_SM_put_25 : decode prog_1_method_2_code 25 = .ok (.iconst 0, 1) := by decide +kernel
theorem d_SM_put_26 : decode prog_1_method_2_code 26 = .ok (.istore 5, 2) := by decide +kernel
theorem d_SM_put_28 : decode prog_1_method_2_code 28 = .ok (.iload 5, 2) := by decide +kernel
theorem d_SM_put_30 : decode prog_1_method_2_code 30 = .ok (.iconst 4, 1) := by decide +kernel
theorem d_SM_put_31 : decode prog_1_method_2_code 31 = .ok (.if_icmp .ge 28, 3) := by decide +kernel
theorem d_SM_put_34 : decode prog_1_method_2_code 34 = .ok (.aload 4, 2) := by decide +kernel
theorem d_SM_put_36 : decode prog_1_method_2_code 36 = .ok (.iload_n 2, 1) := by decide +kernel
theorem d_SM_put_37 : decode prog_1_method_2_code 37 = .ok (.iload 5, 2) := by decide +kernel
theorem d_SM_put_39 : decode prog_1_method_2_code 39 = .ok (.iadd, 1) := by decide +kernel
theorem d_SM_put_40 : decode prog_1_method_2_code 40 = .ok (.iload_n 3, 1) := by decide +kernel
theorem d_SM_put_41 : decode prog_1_method_2_code 41 = .ok (.bipush 24, 2) := by decide +kernel
theorem d_SM_put_43 : decode prog_1_method_2_code 43 = .ok (.bipush 8, 2) := by decide +kernel
theorem d_SM_put_45 : decode prog_1_method_2_code 45 = .ok (.iload 5, 2) := by decide +kernel
theorem d_SM_put_47 : decode prog_1_method_2_code 47 = .ok (.imul, 1) := by decide +kernel
theorem d_SM_put_48 : decode prog_1_method_2_code 48 = .ok (.isub, 1) := by decide +kernel
theorem d_SM_put_49 : decode prog_1_method_2_code 49 = .ok (.ishr, 1) := by decide +kernel
theorem d_SM_put_50 : decode prog_1_method_2_code 50 = .ok (.invokevirtual 27, 3) := by decide +kernel
theorem d_SM_put_53 : decode prog_1_method_2_code 53 = .ok (.iinc 5 1, 3) := by decide +kernel
theorem d_SM_put_56 : decode prog_1_method_2_code 56 = .ok (.goto (-28), 3) := by decide +kernel
theorem d_SM_put_59 : decode prog_1_method_2_code 59 = .ok (.iconst 1, 1) := by decide +kernel
theorem d_SM_put_60 : decode prog_1_method_2_code 60 = .ok (.ireturn, 1) := by decide +kernel
theorem d_SM_byteAt_0 : decode prog_1_method_3_code 0 = .ok (.aload_n 0, 1) := by decide +kernel
theorem d_SM_byteAt_1 : decode prog_1_method_3_code 1 = .ok (.iload_n 1, 1) := by decide +kernel
theorem d_SM_byteAt_2 : decode prog_1_method_3_code 2 = .ok (.invokevirtual 23, 3) := by decide +kernel
theorem d_SM_byteAt_5 : decode prog_1_method_3_code 5 = .ok (.astore_n 3, 1) := by decide +kernel
theorem d_SM_byteAt_6 : decode prog_1_method_3_code 6 = .ok (.aload_n 3, 1) := by decide +kernel
theorem d_SM_byteAt_7 : decode prog_1_method_3_code 7 = .ok (.ifnull 14, 3) := by decide +kernel
theorem d_SM_byteAt_10 : decode prog_1_method_3_code 10 = .ok (.iload_n 2, 1) := by decide +kernel
theorem d_SM_byteAt_11 : decode prog_1_method_3_code 11 = .ok (.ifCond .lt 10, 3) := by decide +kernel
theorem d_SM_byteAt_14 : decode prog_1_method_3_code 14 = .ok (.iload_n 2, 1) := by decide +kernel
theorem d_SM_byteAt_15 : decode prog_1_method_3_code 15 = .ok (.sipush 1023, 3) := by decide +kernel
theorem d_SM_byteAt_18 : decode prog_1_method_3_code 18 = .ok (.if_icmp .le 5, 3) := by decide +kernel
theorem d_SM_byteAt_21 : decode prog_1_method_3_code 21 = .ok (.iconst (-1), 1) := by decide +kernel
theorem d_SM_byteAt_22 : decode prog_1_method_3_code 22 = .ok (.ireturn, 1) := by decide +kernel
theorem d_SM_byteAt_23 : decode prog_1_method_3_code 23 = .ok (.aload_n 3, 1) := by decide +kernel
theorem d_SM_byteAt_24 : decode prog_1_method_3_code 24 = .ok (.iload_n 2, 1) := by decide +kernel
theorem d_SM_byteAt_25 : decode prog_1_method_3_code 25 = .ok (.invokevirtual 33, 3) := by decide +kernel
theorem d_SM_byteAt_28 : decode prog_1_method_3_code 28 = .ok (.ireturn, 1) := by decide +kernel
theorem d_SM_set_0 : decode prog_1_method_4_code 0 = .ok (.iload_n 1, 1) := by decide +kernel
theorem d_SM_set_1 : decode prog_1_method_4_code 1 = .ok (.bipush 32, 2) := by decide +kernel
theorem d_SM_set_3 : decode prog_1_method_4_code 3 = .ok (.invokestatic 37, 3) := by decide +kernel
theorem d_SM_set_6 : decode prog_1_method_4_code 6 = .ok (.ifCond .ne 5, 3) := by decide +kernel
theorem d_SM_set_9 : decode prog_1_method_4_code 9 = .ok (.iconst 0, 1) := by decide +kernel
theorem d_SM_set_10 : decode prog_1_method_4_code 10 = .ok (.ireturn, 1) := by decide +kernel
theorem d_SM_set_11 : decode prog_1_method_4_code 11 = .ok (.aload_n 0, 1) := by decide +kernel
theorem d_SM_set_12 : decode prog_1_method_4_code 12 = .ok (.getfield 19, 3) := by decide +kernel
theorem d_SM_set_15 : decode prog_1_method_4_code 15 = .ok (.getfield 41, 3) := by decide +kernel
theorem d_SM_set_18 : decode prog_1_method_4_code 18 = .ok (.iload_n 1, 1) := by decide +kernel
theorem d_SM_set_19 : decode prog_1_method_4_code 19 = .ok (.iload_n 2, 1) := by decide +kernel
theorem d_SM_set_20 : decode prog_1_method_4_code 20 = .ok (.i2s, 1) := by decide +kernel
theorem d_SM_set_21 : decode prog_1_method_4_code 21 = .ok (.iastore, 1) := by decide +kernel
theorem d_SM_set_22 : decode prog_1_method_4_code 22 = .ok (.iconst 1, 1) := by decide +kernel
theorem d_SM_set_23 : decode prog_1_method_4_code 23 = .ok (.ireturn, 1) := by decide +kernel
theorem d_SM_get_0 : decode prog_1_method_5_code 0 = .ok (.iload_n 1, 1) := by decide +kernel
theorem d_SM_get_1 : decode prog_1_method_5_code 1 = .ok (.bipush 32, 2) := by decide +kernel
theorem d_SM_get_3 : decode prog_1_method_5_code 3 = .ok (.invokestatic 37, 3) := by decide +kernel
theorem d_SM_get_6 : decode prog_1_method_5_code 6 = .ok (.ifCond .eq 15, 3) := by decide +kernel
theorem d_SM_get_9 : decode prog_1_method_5_code 9 = .ok (.aload_n 0, 1) := by decide +kernel
theorem d_SM_get_10 : decode prog_1_method_5_code 10 = .ok (.getfield 19, 3) := by decide +kernel
theorem d_SM_get_13 : decode prog_1_method_5_code 13 = .ok (.getfield 41, 3) := by decide +kernel
theorem d_SM_get_16 : decode prog_1_method_5_code 16 = .ok (.iload_n 1, 1) := by decide +kernel
theorem d_SM_get_17 : decode prog_1_method_5_code 17 = .ok (.iaload, 1) := by decide +kernel
theorem d_SM_get_18 : decode prog_1_method_5_code 18 = .ok (.goto 4, 3) := by decide +kernel
theorem d_SM_get_21 : decode prog_1_method_5_code 21 = .ok (.iconst 0, 1) := by decide +kernel
theorem d_SM_get_22 : decode prog_1_method_5_code 22 = .ok (.ireturn, 1) := by decide +kernel
theorem d_SM_ask_0 : decode prog_1_method_6_code 0 = .ok (.iload_n 1, 1) := by decide +kernel
theorem d_SM_ask_1 : decode prog_1_method_6_code 1 = .ok (.bipush 16, 2) := by decide +kernel
theorem d_SM_ask_3 : decode prog_1_method_6_code 3 = .ok (.invokestatic 37, 3) := by decide +kernel
theorem d_SM_ask_6 : decode prog_1_method_6_code 6 = .ok (.ifCond .eq 15, 3) := by decide +kernel
theorem d_SM_ask_9 : decode prog_1_method_6_code 9 = .ok (.iload_n 2, 1) := by decide +kernel
theorem d_SM_ask_10 : decode prog_1_method_6_code 10 = .ok (.iconst (-1), 1) := by decide +kernel
theorem d_SM_ask_11 : decode prog_1_method_6_code 11 = .ok (.if_icmp .lt 10, 3) := by decide +kernel
theorem d_SM_ask_14 : decode prog_1_method_6_code 14 = .ok (.iload_n 2, 1) := by decide +kernel
theorem d_SM_ask_15 : decode prog_1_method_6_code 15 = .ok (.sipush 1023, 3) := by decide +kernel
theorem d_SM_ask_18 : decode prog_1_method_6_code 18 = .ok (.if_icmp .le 5, 3) := by decide +kernel
theorem d_SM_ask_21 : decode prog_1_method_6_code 21 = .ok (.iconst 0, 1) := by decide +kernel
theorem d_SM_ask_22 : decode prog_1_method_6_code 22 = .ok (.ireturn, 1) := by decide +kernel
theorem d_SM_ask_23 : decode prog_1_method_6_code 23 = .ok (.aload_n 0, 1) := by decide +kernel
theorem d_SM_ask_24 : decode prog_1_method_6_code 24 = .ok (.getfield 19, 3) := by decide +kernel
theorem d_SM_ask_27 : decode prog_1_method_6_code 27 = .ok (.getfield 45, 3) := by decide +kernel
theorem d_SM_ask_30 : decode prog_1_method_6_code 30 = .ok (.iload_n 1, 1) := by decide +kernel
theorem d_SM_ask_31 : decode prog_1_method_6_code 31 = .ok (.aaload, 1) := by decide +kernel
theorem d_SM_ask_32 : decode prog_1_method_6_code 32 = .ok (.iload_n 2, 1) := by decide +kernel
theorem d_SM_ask_33 : decode prog_1_method_6_code 33 = .ok (.putfield 49, 3) := by decide +kernel
theorem d_SM_ask_36 : decode prog_1_method_6_code 36 = .ok (.iconst 1, 1) := by decide +kernel
theorem d_SM_ask_37 : decode prog_1_method_6_code 37 = .ok (.ireturn, 1) := by decide +kernel
theorem d_SM_frame_0 : decode prog_1_method_7_code 0 = .ok (.iload_n 1, 1) := by decide +kernel
theorem d_SM_frame_1 : decode prog_1_method_7_code 1 = .ok (.iconst 1, 1) := by decide +kernel
theorem d_SM_frame_2 : decode prog_1_method_7_code 2 = .ok (.if_icmp .lt 10, 3) := by decide +kernel
theorem d_SM_frame_5 : decode prog_1_method_7_code 5 = .ok (.iload_n 1, 1) := by decide +kernel
theorem d_SM_frame_6 : decode prog_1_method_7_code 6 = .ok (.sipush 500, 3) := by decide +kernel
theorem d_SM_frame_9 : decode prog_1_method_7_code 9 = .ok (.if_icmp .le 5, 3) := by decide +kernel
theorem d_SM_frame_12 : decode prog_1_method_7_code 12 = .ok (.iconst (-1), 1) := by decide +kernel
theorem d_SM_frame_13 : decode prog_1_method_7_code 13 = .ok (.ireturn, 1) := by decide +kernel
theorem d_SM_frame_14 : decode prog_1_method_7_code 14 = .ok (.aload_n 0, 1) := by decide +kernel
theorem d_SM_frame_15 : decode prog_1_method_7_code 15 = .ok (.dup, 1) := by decide +kernel
theorem d_SM_frame_16 : decode prog_1_method_7_code 16 = .ok (.getfield 9, 3) := by decide +kernel
theorem d_SM_frame_19 : decode prog_1_method_7_code 19 = .ok (.iconst 1, 1) := by decide +kernel
theorem d_SM_frame_20 : decode prog_1_method_7_code 20 = .ok (.iadd, 1) := by decide +kernel
theorem d_SM_frame_21 : decode prog_1_method_7_code 21 = .ok (.putfield 9, 3) := by decide +kernel
theorem d_SM_frame_24 : decode prog_1_method_7_code 24 = .ok (.aload_n 0, 1) := by decide +kernel
theorem d_SM_frame_25 : decode prog_1_method_7_code 25 = .ok (.iconst 0, 1) := by decide +kernel
theorem d_SM_frame_26 : decode prog_1_method_7_code 26 = .ok (.putfield 13, 3) := by decide +kernel
theorem d_SM_frame_29 : decode prog_1_method_7_code 29 = .ok (.aload_n 0, 1) := by decide +kernel
theorem d_SM_frame_30 : decode prog_1_method_7_code 30 = .ok (.getfield 19, 3) := by decide +kernel
theorem d_SM_frame_33 : decode prog_1_method_7_code 33 = .ok (.getfield 54, 3) := by decide +kernel
theorem d_SM_frame_36 : decode prog_1_method_7_code 36 = .ok (.invokevirtual 58, 3) := by decide +kernel
theorem d_SM_frame_39 : decode prog_1_method_7_code 39 = .ok (.iconst 0, 1) := by decide +kernel
theorem d_SM_frame_40 : decode prog_1_method_7_code 40 = .ok (.istore_n 2, 1) := by decide +kernel
theorem d_SM_frame_41 : decode prog_1_method_7_code 41 = .ok (.iload_n 2, 1) := by decide +kernel
theorem d_SM_frame_42 : decode prog_1_method_7_code 42 = .ok (.bipush 16, 2) := by decide +kernel
theorem d_SM_frame_44 : decode prog_1_method_7_code 44 = .ok (.if_icmp .ge 21, 3) := by decide +kernel
theorem d_SM_frame_47 : decode prog_1_method_7_code 47 = .ok (.aload_n 0, 1) := by decide +kernel
theorem d_SM_frame_48 : decode prog_1_method_7_code 48 = .ok (.getfield 19, 3) := by decide +kernel
theorem d_SM_frame_51 : decode prog_1_method_7_code 51 = .ok (.getfield 45, 3) := by decide +kernel
theorem d_SM_frame_54 : decode prog_1_method_7_code 54 = .ok (.iload_n 2, 1) := by decide +kernel
theorem d_SM_frame_55 : decode prog_1_method_7_code 55 = .ok (.aaload, 1) := by decide +kernel
theorem d_SM_frame_56 : decode prog_1_method_7_code 56 = .ok (.invokevirtual 63, 3) := by decide +kernel
theorem d_SM_frame_59 : decode prog_1_method_7_code 59 = .ok (.iinc 2 1, 3) := by decide +kernel
theorem d_SM_frame_62 : decode prog_1_method_7_code 62 = .ok (.goto (-21), 3) := by decide +kernel
theorem d_SM_frame_65 : decode prog_1_method_7_code 65 = .ok (.iconst 0, 1) := by decide +kernel
theorem d_SM_frame_66 : decode prog_1_method_7_code 66 = .ok (.istore_n 2, 1) := by decide +kernel
theorem d_SM_frame_67 : decode prog_1_method_7_code 67 = .ok (.iconst 0, 1) := by decide +kernel
theorem d_SM_frame_68 : decode prog_1_method_7_code 68 = .ok (.istore_n 3, 1) := by decide +kernel
theorem d_SM_frame_69 : decode prog_1_method_7_code 69 = .ok (.iload_n 3, 1) := by decide +kernel
theorem d_SM_frame_70 : decode prog_1_method_7_code 70 = .ok (.bipush 16, 2) := by decide +kernel
theorem d_SM_frame_72 : decode prog_1_method_7_code 72 = .ok (.if_icmp .ge 53, 3) := by decide +kernel
theorem d_SM_frame_75 : decode prog_1_method_7_code 75 = .ok (.aload_n 0, 1) := by decide +kernel
theorem d_SM_frame_76 : decode prog_1_method_7_code 76 = .ok (.getfield 19, 3) := by decide +kernel
theorem d_SM_frame_79 : decode prog_1_method_7_code 79 = .ok (.getfield 45, 3) := by decide +kernel
theorem d_SM_frame_82 : decode prog_1_method_7_code 82 = .ok (.iload_n 3, 1) := by decide +kernel
theorem d_SM_frame_83 : decode prog_1_method_7_code 83 = .ok (.aaload, 1) := by decide +kernel
theorem d_SM_frame_84 : decode prog_1_method_7_code 84 = .ok (.invokevirtual 66, 3) := by decide +kernel
theorem d_SM_frame_87 : decode prog_1_method_7_code 87 = .ok (.ifCond .eq 32, 3) := by decide +kernel
theorem d_SM_frame_90 : decode prog_1_method_7_code 90 = .ok (.aload_n 0, 1) := by decide +kernel
theorem d_SM_frame_91 : decode prog_1_method_7_code 91 = .ok (.dup, 1) := by decide +kernel
theorem d_SM_frame_92 : decode prog_1_method_7_code 92 = .ok (.getfield 13, 3) := by decide +kernel
theorem d_SM_frame_95 : decode prog_1_method_7_code 95 = .ok (.aload_n 0, 1) := by decide +kernel
theorem d_SM_frame_96 : decode prog_1_method_7_code 96 = .ok (.getfield 19, 3) := by decide +kernel
theorem d_SM_frame_99 : decode prog_1_method_7_code 99 = .ok (.aload_n 0, 1) := by decide +kernel
theorem d_SM_frame_100 : decode prog_1_method_7_code 100 = .ok (.getfield 19, 3) := by decide +kernel
theorem d_SM_frame_103 : decode prog_1_method_7_code 103 = .ok (.getfield 45, 3) := by decide +kernel
theorem d_SM_frame_106 : decode prog_1_method_7_code 106 = .ok (.iload_n 3, 1) := by decide +kernel
theorem d_SM_frame_107 : decode prog_1_method_7_code 107 = .ok (.aaload, 1) := by decide +kernel
theorem d_SM_frame_108 : decode prog_1_method_7_code 108 = .ok (.iload_n 1, 1) := by decide +kernel
theorem d_SM_frame_109 : decode prog_1_method_7_code 109 = .ok (.invokevirtual 70, 3) := by decide +kernel
theorem d_SM_frame_112 : decode prog_1_method_7_code 112 = .ok (.iadd, 1) := by decide +kernel
theorem d_SM_frame_113 : decode prog_1_method_7_code 113 = .ok (.putfield 13, 3) := by decide +kernel
theorem d_SM_frame_116 : decode prog_1_method_7_code 116 = .ok (.iinc 2 1, 3) := by decide +kernel
theorem d_SM_frame_119 : decode prog_1_method_7_code 119 = .ok (.iinc 3 1, 3) := by decide +kernel
theorem d_SM_frame_122 : decode prog_1_method_7_code 122 = .ok (.goto (-53), 3) := by decide +kernel
theorem d_SM_frame_125 : decode prog_1_method_7_code 125 = .ok (.iload_n 2, 1) := by decide +kernel
theorem d_SM_frame_126 : decode prog_1_method_7_code 126 = .ok (.ireturn, 1) := by decide +kernel
theorem d_SM_channel_0 : decode prog_1_method_8_code 0 = .ok (.iload_n 1, 1) := by decide +kernel
theorem d_SM_channel_1 : decode prog_1_method_8_code 1 = .ok (.bipush 16, 2) := by decide +kernel
theorem d_SM_channel_3 : decode prog_1_method_8_code 3 = .ok (.invokestatic 37, 3) := by decide +kernel
theorem d_SM_channel_6 : decode prog_1_method_8_code 6 = .ok (.ifCond .ne 5, 3) := by decide +kernel
theorem d_SM_channel_9 : decode prog_1_method_8_code 9 = .ok (.iconst (-1), 1) := by decide +kernel
theorem d_SM_channel_10 : decode prog_1_method_8_code 10 = .ok (.ireturn, 1) := by decide +kernel
theorem d_SM_channel_11 : decode prog_1_method_8_code 11 = .ok (.aload_n 0, 1) := by decide +kernel
theorem d_SM_channel_12 : decode prog_1_method_8_code 12 = .ok (.getfield 19, 3) := by decide +kernel
theorem d_SM_channel_15 : decode prog_1_method_8_code 15 = .ok (.getfield 45, 3) := by decide +kernel
theorem d_SM_channel_18 : decode prog_1_method_8_code 18 = .ok (.iload_n 1, 1) := by decide +kernel
theorem d_SM_channel_19 : decode prog_1_method_8_code 19 = .ok (.aaload, 1) := by decide +kernel
theorem d_SM_channel_20 : decode prog_1_method_8_code 20 = .ok (.astore_n 3, 1) := by decide +kernel
theorem d_SM_channel_21 : decode prog_1_method_8_code 21 = .ok (.iload_n 2, 1) := by decide +kernel
theorem d_SM_channel_22 : decode prog_1_method_8_code 22 = .ok (.tableswitch 67 0 4 #[34, 39, 52, 57, 62], 34) := by decide +kernel
theorem d_SM_channel_56 : decode prog_1_method_8_code 56 = .ok (.aload_n 3, 1) := by decide +kernel
theorem d_SM_channel_57 : decode prog_1_method_8_code 57 = .ok (.getfield 74, 3) := by decide +kernel
theorem d_SM_channel_60 : decode prog_1_method_8_code 60 = .ok (.ireturn, 1) := by decide +kernel
theorem d_SM_channel_61 : decode prog_1_method_8_code 61 = .ok (.aload_n 3, 1) := by decide +kernel
theorem d_SM_channel_62 : decode prog_1_method_8_code 62 = .ok (.getfield 77, 3) := by decide +kernel
theorem d_SM_channel_65 : decode prog_1_method_8_code 65 = .ok (.ifCond .eq 7, 3) := by decide +kernel
theorem d_SM_channel_68 : decode prog_1_method_8_code 68 = .ok (.iconst 1, 1) := by decide +kernel
theorem d_SM_channel_69 : decode prog_1_method_8_code 69 = .ok (.goto 4, 3) := by decide +kernel
theorem d_SM_channel_72 : decode prog_1_method_8_code 72 = .ok (.iconst 0, 1) := by decide +kernel
theorem d_SM_channel_73 : decode prog_1_method_8_code 73 = .ok (.ireturn, 1) := by decide +kernel
theorem d_SM_channel_74 : decode prog_1_method_8_code 74 = .ok (.aload_n 3, 1) := by decide +kernel
theorem d_SM_channel_75 : decode prog_1_method_8_code 75 = .ok (.getfield 81, 3) := by decide +kernel
theorem d_SM_channel_78 : decode prog_1_method_8_code 78 = .ok (.ireturn, 1) := by decide +kernel
theorem d_SM_channel_79 : decode prog_1_method_8_code 79 = .ok (.aload_n 3, 1) := by decide +kernel
theorem d_SM_channel_80 : decode prog_1_method_8_code 80 = .ok (.getfield 84, 3) := by decide +kernel
theorem d_SM_channel_83 : decode prog_1_method_8_code 83 = .ok (.ireturn, 1) := by decide +kernel
theorem d_SM_channel_84 : decode prog_1_method_8_code 84 = .ok (.aload_n 3, 1) := by decide +kernel
theorem d_SM_channel_85 : decode prog_1_method_8_code 85 = .ok (.getfield 49, 3) := by decide +kernel
theorem d_SM_channel_88 : decode prog_1_method_8_code 88 = .ok (.ireturn, 1) := by decide +kernel
theorem d_SM_channel_89 : decode prog_1_method_8_code 89 = .ok (.iconst (-1), 1) := by decide +kernel
theorem d_SM_channel_90 : decode prog_1_method_8_code 90 = .ok (.ireturn, 1) := by decide +kernel
theorem d_SM_pixel_0 : decode prog_1_method_9_code 0 = .ok (.iload_n 1, 1) := by decide +kernel
theorem d_SM_pixel_1 : decode prog_1_method_9_code 1 = .ok (.iconst 4, 1) := by decide +kernel
theorem d_SM_pixel_2 : decode prog_1_method_9_code 2 = .ok (.invokestatic 37, 3) := by decide +kernel
theorem d_SM_pixel_5 : decode prog_1_method_9_code 5 = .ok (.ifCond .eq 21, 3) := by decide +kernel
theorem d_SM_pixel_8 : decode prog_1_method_9_code 8 = .ok (.iload_n 2, 1) := by decide +kernel
theorem d_SM_pixel_9 : decode prog_1_method_9_code 9 = .ok (.bipush 64, 2) := by decide +kernel
theorem d_SM_pixel_11 : decode prog_1_method_9_code 11 = .ok (.invokestatic 37, 3) := by decide +kernel
theorem d_SM_pixel_14 : decode prog_1_method_9_code 14 = .ok (.ifCond .eq 12, 3) := by decide +kernel
theorem d_SM_pixel_17 : decode prog_1_method_9_code 17 = .ok (.iload_n 3, 1) := by decide +kernel
theorem d_SM_pixel_18 : decode prog_1_method_9_code 18 = .ok (.bipush 40, 2) := by decide +kernel
theorem d_SM_pixel_20 : decode prog_1_method_9_code 20 = .ok (.invokestatic 37, 3) := by decide +kernel
theorem d_SM_pixel_23 : decode prog_1_method_9_code 23 = .ok (.ifCond .ne 5, 3) := by decide +kernel
theorem d_SM_pixel_26 : decode prog_1_method_9_code 26 = .ok (.iconst (-1), 1) := by decide +kernel
theorem d_SM_pixel_27 : decode prog_1_method_9_code 27 = .ok (.ireturn, 1) := by decide +kernel
theorem d_SM_pixel_28 : decode prog_1_method_9_code 28 = .ok (.aload_n 0, 1) := by decide +kernel
theorem d_SM_pixel_29 : decode prog_1_method_9_code 29 = .ok (.getfield 19, 3) := by decide +kernel
theorem d_SM_pixel_32 : decode prog_1_method_9_code 32 = .ok (.getfield 54, 3) := by decide +kernel
theorem d_SM_pixel_35 : decode prog_1_method_9_code 35 = .ok (.getfield 87, 3) := by decide +kernel
theorem d_SM_pixel_38 : decode prog_1_method_9_code 38 = .ok (.iload_n 1, 1) := by decide +kernel
theorem d_SM_pixel_39 : decode prog_1_method_9_code 39 = .ok (.iload_n 2, 1) := by decide +kernel
theorem d_SM_pixel_40 : decode prog_1_method_9_code 40 = .ok (.iload_n 3, 1) := by decide +kernel
theorem d_SM_pixel_41 : decode prog_1_method_9_code 41 = .ok (.invokevirtual 91, 3) := by decide +kernel
theorem d_SM_pixel_44 : decode prog_1_method_9_code 44 = .ok (.ireturn, 1) := by decide +kernel
theorem d_SM_about_0 : decode prog_1_method_10_code 0 = .ok (.iload_n 1, 1) := by decide +kernel
theorem d_SM_about_1 : decode prog_1_method_10_code 1 = .ok (.tableswitch 99 0 5 #[39, 53, 67, 72, 77, 88], 39) := by decide +kernel
theorem d_SM_about_40 : decode prog_1_method_10_code 40 = .ok (.aload_n 0, 1) := by decide +kernel
theorem d_SM_about_41 : decode prog_1_method_10_code 41 = .ok (.getfield 19, 3) := by decide +kernel
theorem d_SM_about_44 : decode prog_1_method_10_code 44 = .ok (.getfield 54, 3) := by decide +kernel
theorem d_SM_about_47 : decode prog_1_method_10_code 47 = .ok (.getfield 87, 3) := by decide +kernel
theorem d_SM_about_50 : decode prog_1_method_10_code 50 = .ok (.getfield 97, 3) := by decide +kernel
theorem d_SM_about_53 : decode prog_1_method_10_code 53 = .ok (.ireturn, 1) := by decide +kernel
theorem d_SM_about_54 : decode prog_1_method_10_code 54 = .ok (.aload_n 0, 1) := by decide +kernel
theorem d_SM_about_55 : decode prog_1_method_10_code 55 = .ok (.getfield 19, 3) := by decide +kernel
theorem d_SM_about_58 : decode prog_1_method_10_code 58 = .ok (.getfield 54, 3) := by decide +kernel
theorem d_SM_about_61 : decode prog_1_method_10_code 61 = .ok (.getfield 87, 3) := by decide +kernel
theorem d_SM_about_64 : decode prog_1_method_10_code 64 = .ok (.getfield 100, 3) := by decide +kernel
theorem d_SM_about_67 : decode prog_1_method_10_code 67 = .ok (.ireturn, 1) := by decide +kernel
theorem d_SM_about_68 : decode prog_1_method_10_code 68 = .ok (.aload_n 0, 1) := by decide +kernel
theorem d_SM_about_69 : decode prog_1_method_10_code 69 = .ok (.getfield 9, 3) := by decide +kernel
theorem d_SM_about_72 : decode prog_1_method_10_code 72 = .ok (.ireturn, 1) := by decide +kernel
theorem d_SM_about_73 : decode prog_1_method_10_code 73 = .ok (.aload_n 0, 1) := by decide +kernel
theorem d_SM_about_74 : decode prog_1_method_10_code 74 = .ok (.getfield 13, 3) := by decide +kernel
theorem d_SM_about_77 : decode prog_1_method_10_code 77 = .ok (.ireturn, 1) := by decide +kernel
theorem d_SM_about_78 : decode prog_1_method_10_code 78 = .ok (.aload_n 0, 1) := by decide +kernel
theorem d_SM_about_79 : decode prog_1_method_10_code 79 = .ok (.getfield 19, 3) := by decide +kernel
theorem d_SM_about_82 : decode prog_1_method_10_code 82 = .ok (.getfield 54, 3) := by decide +kernel
theorem d_SM_about_85 : decode prog_1_method_10_code 85 = .ok (.getfield 103, 3) := by decide +kernel
theorem d_SM_about_88 : decode prog_1_method_10_code 88 = .ok (.ireturn, 1) := by decide +kernel
theorem d_SM_about_89 : decode prog_1_method_10_code 89 = .ok (.aload_n 0, 1) := by decide +kernel
theorem d_SM_about_90 : decode prog_1_method_10_code 90 = .ok (.getfield 19, 3) := by decide +kernel
theorem d_SM_about_93 : decode prog_1_method_10_code 93 = .ok (.getfield 54, 3) := by decide +kernel
theorem d_SM_about_96 : decode prog_1_method_10_code 96 = .ok (.getfield 106, 3) := by decide +kernel
theorem d_SM_about_99 : decode prog_1_method_10_code 99 = .ok (.ireturn, 1) := by decide +kernel
theorem d_SM_about_100 : decode prog_1_method_10_code 100 = .ok (.iconst (-1), 1) := by decide +kernel
theorem d_SM_about_101 : decode prog_1_method_10_code 101 = .ok (.ireturn, 1) := by decide +kernel
theorem d_SM_bytesOf_0 : decode prog_1_method_11_code 0 = .ok (.iload_n 1, 1) := by decide +kernel
theorem d_SM_bytesOf_1 : decode prog_1_method_11_code 1 = .ok (.ifCond .ne 11, 3) := by decide +kernel
theorem d_SM_bytesOf_4 : decode prog_1_method_11_code 4 = .ok (.aload_n 0, 1) := by decide +kernel
theorem d_SM_bytesOf_5 : decode prog_1_method_11_code 5 = .ok (.getfield 19, 3) := by decide +kernel
theorem d_SM_bytesOf_8 : decode prog_1_method_11_code 8 = .ok (.getfield 109, 3) := by decide +kernel
theorem d_SM_bytesOf_11 : decode prog_1_method_11_code 11 = .ok (.areturn, 1) := by decide +kernel
theorem d_SM_bytesOf_12 : decode prog_1_method_11_code 12 = .ok (.iload_n 1, 1) := by decide +kernel
theorem d_SM_bytesOf_13 : decode prog_1_method_11_code 13 = .ok (.iconst 1, 1) := by decide +kernel
theorem d_SM_bytesOf_14 : decode prog_1_method_11_code 14 = .ok (.if_icmp .ne 16, 3) := by decide +kernel
theorem d_SM_bytesOf_17 : decode prog_1_method_11_code 17 = .ok (.aload_n 0, 1) := by decide +kernel
theorem d_SM_bytesOf_18 : decode prog_1_method_11_code 18 = .ok (.getfield 19, 3) := by decide +kernel
theorem d_SM_bytesOf_21 : decode prog_1_method_11_code 21 = .ok (.getfield 54, 3) := by decide +kernel
theorem d_SM_bytesOf_24 : decode prog_1_method_11_code 24 = .ok (.getfield 113, 3) := by decide +kernel
theorem d_SM_bytesOf_27 : decode prog_1_method_11_code 27 = .ok (.goto 4, 3) := by decide +kernel
theorem d_SM_bytesOf_30 : decode prog_1_method_11_code 30 = .ok (.aconst_null, 1) := by decide +kernel
theorem d_SM_bytesOf_31 : decode prog_1_method_11_code 31 = .ok (.areturn, 1) := by decide +kernel
theorem d_SM_isBelow_0 : decode prog_1_method_12_code 0 = .ok (.iload_n 0, 1) := by decide +kernel
theorem d_SM_isBelow_1 : decode prog_1_method_12_code 1 = .ok (.ifCond .lt 12, 3) := by decide +kernel
theorem d_SM_isBelow_4 : decode prog_1_method_12_code 4 = .ok (.iload_n 0, 1) := by decide +kernel
theorem d_SM_isBelow_5 : decode prog_1_method_12_code 5 = .ok (.iload_n 1, 1) := by decide +kernel
theorem d_SM_isBelow_6 : decode prog_1_method_12_code 6 = .ok (.if_icmp .ge 7, 3) := by decide +kernel
theorem d_SM_isBelow_9 : decode prog_1_method_12_code 9 = .ok (.iconst 1, 1) := by decide +kernel
theorem d_SM_isBelow_10 : decode prog_1_method_12_code 10 = .ok (.goto 4, 3) := by decide +kernel
theorem d_SM_isBelow_13 : decode prog_1_method_12_code 13 = .ok (.iconst 0, 1) := by decide +kernel
theorem d_SM_isBelow_14 : decode prog_1_method_12_code 14 = .ok (.ireturn, 1) := by decide +kernel
theorem d_Bytes_read_0 : decode prog_2_method_2_code 0 = .ok (.aload_n 0, 1) := by decide +kernel
theorem d_Bytes_read_1 : decode prog_2_method_2_code 1 = .ok (.getfield 9, 3) := by decide +kernel
theorem d_Bytes_read_4 : decode prog_2_method_2_code 4 = .ok (.iload_n 1, 1) := by decide +kernel
theorem d_Bytes_read_5 : decode prog_2_method_2_code 5 = .ok (.sipush 1023, 3) := by decide +kernel
theorem d_Bytes_read_8 : decode prog_2_method_2_code 8 = .ok (.iand, 1) := by decide +kernel
theorem d_Bytes_read_9 : decode prog_2_method_2_code 9 = .ok (.iaload, 1) := by decide +kernel
theorem d_Bytes_read_10 : decode prog_2_method_2_code 10 = .ok (.ireturn, 1) := by decide +kernel
theorem d_Bytes_readPair_0 : decode prog_2_method_3_code 0 = .ok (.aload_n 0, 1) := by decide +kernel
theorem d_Bytes_readPair_1 : decode prog_2_method_3_code 1 = .ok (.getfield 9, 3) := by decide +kernel
theorem d_Bytes_readPair_4 : decode prog_2_method_3_code 4 = .ok (.iload_n 1, 1) := by decide +kernel
theorem d_Bytes_readPair_5 : decode prog_2_method_3_code 5 = .ok (.sipush 1023, 3) := by decide +kernel
theorem d_Bytes_readPair_8 : decode prog_2_method_3_code 8 = .ok (.iand, 1) := by decide +kernel
theorem d_Bytes_readPair_9 : decode prog_2_method_3_code 9 = .ok (.iaload, 1) := by decide +kernel
theorem d_Bytes_readPair_10 : decode prog_2_method_3_code 10 = .ok (.istore_n 2, 1) := by decide +kernel
theorem d_Bytes_readPair_11 : decode prog_2_method_3_code 11 = .ok (.iload_n 2, 1) := by decide +kernel
theorem d_Bytes_readPair_12 : decode prog_2_method_3_code 12 = .ok (.bipush 8, 2) := by decide +kernel
theorem d_Bytes_readPair_14 : decode prog_2_method_3_code 14 = .ok (.ishl, 1) := by decide +kernel
theorem d_Bytes_readPair_15 : decode prog_2_method_3_code 15 = .ok (.aload_n 0, 1) := by decide +kernel
theorem d_Bytes_readPair_16 : decode prog_2_method_3_code 16 = .ok (.getfield 9, 3) := by decide +kernel
theorem d_Bytes_readPair_19 : decode prog_2_method_3_code 19 = .ok (.iload_n 1, 1) := by decide +kernel
theorem d_Bytes_readPair_20 : decode prog_2_method_3_code 20 = .ok (.iconst 1, 1) := by decide +kernel
theorem d_Bytes_readPair_21 : decode prog_2_method_3_code 21 = .ok (.iadd, 1) := by decide +kernel
theorem d_Bytes_readPair_22 : decode prog_2_method_3_code 22 = .ok (.sipush 1023, 3) := by decide +kernel
theorem d_Bytes_readPair_25 : decode prog_2_method_3_code 25 = .ok (.iand, 1) := by decide +kernel
theorem d_Bytes_readPair_26 : decode prog_2_method_3_code 26 = .ok (.iaload, 1) := by decide +kernel
theorem d_Bytes_readPair_27 : decode prog_2_method_3_code 27 = .ok (.ior, 1) := by decide +kernel
theorem d_Bytes_readPair_28 : decode prog_2_method_3_code 28 = .ok (.ireturn, 1) := by decide +kernel
theorem d_Bytes_write_0 : decode prog_2_method_4_code 0 = .ok (.aload_n 0, 1) := by decide +kernel
theorem d_Bytes_write_1 : decode prog_2_method_4_code 1 = .ok (.getfield 9, 3) := by decide +kernel
theorem d_Bytes_write_4 : decode prog_2_method_4_code 4 = .ok (.iload_n 1, 1) := by decide +kernel
theorem d_Bytes_write_5 : decode prog_2_method_4_code 5 = .ok (.sipush 1023, 3) := by decide +kernel
theorem d_Bytes_write_8 : decode prog_2_method_4_code 8 = .ok (.iand, 1) := by decide +kernel
theorem d_Bytes_write_9 : decode prog_2_method_4_code 9 = .ok (.iload_n 2, 1) := by decide +kernel
theorem d_Bytes_write_10 : decode prog_2_method_4_code 10 = .ok (.sipush 255, 3) := by decide +kernel
theorem d_Bytes_write_13 : decode prog_2_method_4_code 13 = .ok (.iand, 1) := by decide +kernel
theorem d_Bytes_write_14 : decode prog_2_method_4_code 14 = .ok (.iastore, 1) := by decide +kernel
theorem d_Bytes_write_15 : decode prog_2_method_4_code 15 = .ok (.return_, 1) := by decide +kernel
theorem d_Channel_isRunning_0 : decode prog_3_method_2_code 0 = .ok (.aload_n 0, 1) := by decide +kernel
theorem d_Channel_isRunning_1 : decode prog_3_method_2_code 1 = .ok (.getfield 19, 3) := by decide +kernel
theorem d_Channel_isRunning_4 : decode prog_3_method_2_code 4 = .ok (.iconst (-1), 1) := by decide +kernel
theorem d_Channel_isRunning_5 : decode prog_3_method_2_code 5 = .ok (.if_icmp .eq 14, 3) := by decide +kernel
theorem d_Channel_isRunning_8 : decode prog_3_method_2_code 8 = .ok (.aload_n 0, 1) := by decide +kernel
theorem d_Channel_isRunning_9 : decode prog_3_method_2_code 9 = .ok (.getfield 22, 3) := by decide +kernel
theorem d_Channel_isRunning_12 : decode prog_3_method_2_code 12 = .ok (.ifCond .ne 7, 3) := by decide +kernel
theorem d_Channel_isRunning_15 : decode prog_3_method_2_code 15 = .ok (.iconst 1, 1) := by decide +kernel
theorem d_Channel_isRunning_16 : decode prog_3_method_2_code 16 = .ok (.goto 4, 3) := by decide +kernel
theorem d_Channel_isRunning_19 : decode prog_3_method_2_code 19 = .ok (.iconst 0, 1) := by decide +kernel
theorem d_Channel_isRunning_20 : decode prog_3_method_2_code 20 = .ok (.ireturn, 1) := by decide +kernel
theorem d_Channel_settleAsked_0 : decode prog_3_method_3_code 0 = .ok (.aload_n 0, 1) := by decide +kernel
theorem d_Channel_settleAsked_1 : decode prog_3_method_3_code 1 = .ok (.getfield 29, 3) := by decide +kernel
theorem d_Channel_settleAsked_4 : decode prog_3_method_3_code 4 = .ok (.bipush (-2), 2) := by decide +kernel
theorem d_Channel_settleAsked_6 : decode prog_3_method_3_code 6 = .ok (.if_icmp .eq 22, 3) := by decide +kernel
theorem d_Channel_settleAsked_9 : decode prog_3_method_3_code 9 = .ok (.aload_n 0, 1) := by decide +kernel
theorem d_Channel_settleAsked_10 : decode prog_3_method_3_code 10 = .ok (.aload_n 0, 1) := by decide +kernel
theorem d_Channel_settleAsked_11 : decode prog_3_method_3_code 11 = .ok (.getfield 29, 3) := by decide +kernel
theorem d_Channel_settleAsked_14 : decode prog_3_method_3_code 14 = .ok (.putfield 19, 3) := by decide +kernel
theorem d_Channel_settleAsked_17 : decode prog_3_method_3_code 17 = .ok (.aload_n 0, 1) := by decide +kernel
theorem d_Channel_settleAsked_18 : decode prog_3_method_3_code 18 = .ok (.iconst 0, 1) := by decide +kernel
theorem d_Channel_settleAsked_19 : decode prog_3_method_3_code 19 = .ok (.putfield 15, 3) := by decide +kernel
theorem d_Channel_settleAsked_22 : decode prog_3_method_3_code 22 = .ok (.aload_n 0, 1) := by decide +kernel
theorem d_Channel_settleAsked_23 : decode prog_3_method_3_code 23 = .ok (.bipush (-2), 2) := by decide +kernel
theorem d_Channel_settleAsked_25 : decode prog_3_method_3_code 25 = .ok (.putfield 29, 3) := by decide +kernel
theorem d_Channel_settleAsked_28 : decode prog_3_method_3_code 28 = .ok (.aload_n 0, 1) := by decide +kernel
theorem d_Channel_settleAsked_29 : decode prog_3_method_3_code 29 = .ok (.getfield 32, 3) := by decide +kernel
theorem d_Channel_settleAsked_32 : decode prog_3_method_3_code 32 = .ok (.bipush (-2), 2) := by decide +kernel
theorem d_Channel_settleAsked_34 : decode prog_3_method_3_code 34 = .ok (.if_icmp .eq 26, 3) := by decide +kernel
theorem d_Channel_settleAsked_37 : decode prog_3_method_3_code 37 = .ok (.aload_n 0, 1) := by decide +kernel
theorem d_Channel_settleAsked_38 : decode prog_3_method_3_code 38 = .ok (.aload_n 0, 1) := by decide +kernel
theorem d_Channel_settleAsked_39 : decode prog_3_method_3_code 39 = .ok (.getfield 32, 3) := by decide +kernel
theorem d_Channel_settleAsked_42 : decode prog_3_method_3_code 42 = .ok (.iconst 1, 1) := by decide +kernel
theorem d_Channel_settleAsked_43 : decode prog_3_method_3_code 43 = .ok (.if_icmp .ne 7, 3) := by decide +kernel
theorem d_Channel_settleAsked_46 : decode prog_3_method_3_code 46 = .ok (.iconst 1, 1) := by decide +kernel
theorem d_Channel_settleAsked_47 : decode prog_3_method_3_code 47 = .ok (.goto 4, 3) := by decide +kernel
theorem d_Channel_settleAsked_50 : decode prog_3_method_3_code 50 = .ok (.iconst 0, 1) := by decide +kernel
theorem d_Channel_settleAsked_51 : decode prog_3_method_3_code 51 = .ok (.putfield 22, 3) := by decide +kernel
theorem d_Channel_settleAsked_54 : decode prog_3_method_3_code 54 = .ok (.aload_n 0, 1) := by decide +kernel
theorem d_Channel_settleAsked_55 : decode prog_3_method_3_code 55 = .ok (.bipush (-2), 2) := by decide +kernel
theorem d_Channel_settleAsked_57 : decode prog_3_method_3_code 57 = .ok (.putfield 32, 3) := by decide +kernel
theorem d_Channel_settleAsked_60 : decode prog_3_method_3_code 60 = .ok (.return_, 1) := by decide +kernel
theorem d_Channel_pushReturn_0 : decode prog_3_method_4_code 0 = .ok (.aload_n 0, 1) := by decide +kernel
theorem d_Channel_pushReturn_1 : decode prog_3_method_4_code 1 = .ok (.getfield 15, 3) := by decide +kernel
theorem d_Channel_pushReturn_4 : decode prog_3_method_4_code 4 = .ok (.ifCond .lt 12, 3) := by decide +kernel
theorem d_Channel_pushReturn_7 : decode prog_3_method_4_code 7 = .ok (.aload_n 0, 1) := by decide +kernel
theorem d_Channel_pushReturn_8 : decode prog_3_method_4_code 8 = .ok (.getfield 15, 3) := by decide +kernel
theorem d_Channel_pushReturn_11 : decode prog_3_method_4_code 11 = .ok (.bipush 8, 2) := by decide +kernel
theorem d_Channel_pushReturn_13 : decode prog_3_method_4_code 13 = .ok (.if_icmp .lt 5, 3) := by decide +kernel
theorem d_Channel_pushReturn_16 : decode prog_3_method_4_code 16 = .ok (.iconst 0, 1) := by decide +kernel
theorem d_Channel_pushReturn_17 : decode prog_3_method_4_code 17 = .ok (.ireturn, 1) := by decide +kernel
theorem d_Channel_pushReturn_18 : decode prog_3_method_4_code 18 = .ok (.aload_n 0, 1) := by decide +kernel
theorem d_Channel_pushReturn_19 : decode prog_3_method_4_code 19 = .ok (.getfield 9, 3) := by decide +kernel
theorem d_Channel_pushReturn_22 : decode prog_3_method_4_code 22 = .ok (.aload_n 0, 1) := by decide +kernel
theorem d_Channel_pushReturn_23 : decode prog_3_method_4_code 23 = .ok (.getfield 15, 3) := by decide +kernel
theorem d_Channel_pushReturn_26 : decode prog_3_method_4_code 26 = .ok (.iload_n 1, 1) := by decide +kernel
theorem d_Channel_pushReturn_27 : decode prog_3_method_4_code 27 = .ok (.iastore, 1) := by decide +kernel
theorem d_Channel_pushReturn_28 : decode prog_3_method_4_code 28 = .ok (.aload_n 0, 1) := by decide +kernel
theorem d_Channel_pushReturn_29 : decode prog_3_method_4_code 29 = .ok (.dup, 1) := by decide +kernel
theorem d_Channel_pushReturn_30 : decode prog_3_method_4_code 30 = .ok (.getfield 15, 3) := by decide +kernel
theorem d_Channel_pushReturn_33 : decode prog_3_method_4_code 33 = .ok (.iconst 1, 1) := by decide +kernel
theorem d_Channel_pushReturn_34 : decode prog_3_method_4_code 34 = .ok (.iadd, 1) := by decide +kernel
theorem d_Channel_pushReturn_35 : decode prog_3_method_4_code 35 = .ok (.putfield 15, 3) := by decide +kernel
theorem d_Channel_pushReturn_38 : decode prog_3_method_4_code 38 = .ok (.iconst 1, 1) := by decide +kernel
theorem d_Channel_pushReturn_39 : decode prog_3_method_4_code 39 = .ok (.ireturn, 1) := by decide +kernel
theorem d_Channel_popReturn_0 : decode prog_3_method_5_code 0 = .ok (.aload_n 0, 1) := by decide +kernel
theorem d_Channel_popReturn_1 : decode prog_3_method_5_code 1 = .ok (.getfield 15, 3) := by decide +kernel
theorem d_Channel_popReturn_4 : decode prog_3_method_5_code 4 = .ok (.iconst 1, 1) := by decide +kernel
theorem d_Channel_popReturn_5 : decode prog_3_method_5_code 5 = .ok (.if_icmp .lt 12, 3) := by decide +kernel
theorem d_Channel_popReturn_8 : decode prog_3_method_5_code 8 = .ok (.aload_n 0, 1) := by decide +kernel
theorem d_Channel_popReturn_9 : decode prog_3_method_5_code 9 = .ok (.getfield 15, 3) := by decide +kernel
theorem d_Channel_popReturn_12 : decode prog_3_method_5_code 12 = .ok (.bipush 8, 2) := by decide +kernel
theorem d_Channel_popReturn_14 : decode prog_3_method_5_code 14 = .ok (.if_icmp .le 5, 3) := by decide +kernel
theorem d_Channel_popReturn_17 : decode prog_3_method_5_code 17 = .ok (.iconst (-1), 1) := by decide +kernel
theorem d_Channel_popReturn_18 : decode prog_3_method_5_code 18 = .ok (.ireturn, 1) := by decide +kernel
theorem d_Channel_popReturn_19 : decode prog_3_method_5_code 19 = .ok (.aload_n 0, 1) := by decide +kernel
theorem d_Channel_popReturn_20 : decode prog_3_method_5_code 20 = .ok (.dup, 1) := by decide +kernel
theorem d_Channel_popReturn_21 : decode prog_3_method_5_code 21 = .ok (.getfield 15, 3) := by decide +kernel
theorem d_Channel_popReturn_24 : decode prog_3_method_5_code 24 = .ok (.iconst 1, 1) := by decide +kernel
theorem d_Channel_popReturn_25 : decode prog_3_method_5_code 25 = .ok (.isub, 1) := by decide +kernel
theorem d_Channel_popReturn_26 : decode prog_3_method_5_code 26 = .ok (.putfield 15, 3) := by decide +kernel
theorem d_Channel_popReturn_29 : decode prog_3_method_5_code 29 = .ok (.aload_n 0, 1) := by decide +kernel
theorem d_Channel_popReturn_30 : decode prog_3_method_5_code 30 = .ok (.getfield 9, 3) := by decide +kernel
theorem d_Channel_popReturn_33 : decode prog_3_method_5_code 33 = .ok (.aload_n 0, 1) := by decide +kernel
theorem d_Channel_popReturn_34 : decode prog_3_method_5_code 34 = .ok (.getfield 15, 3) := by decide +kernel
theorem d_Channel_popReturn_37 : decode prog_3_method_5_code 37 = .ok (.iaload, 1) := by decide +kernel
theorem d_Channel_popReturn_38 : decode prog_3_method_5_code 38 = .ok (.ireturn, 1) := by decide +kernel
theorem d_Pages_pageOf_0 : decode prog_4_method_2_code 0 = .ok (.iload_n 1, 1) := by decide +kernel
theorem d_Pages_pageOf_1 : decode prog_4_method_2_code 1 = .ok (.sipush 128, 3) := by decide +kernel
theorem d_Pages_pageOf_4 : decode prog_4_method_2_code 4 = .ok (.if_icmp .ge 7, 3) := by decide +kernel
theorem d_Pages_pageOf_7 : decode prog_4_method_2_code 7 = .ok (.iload_n 1, 1) := by decide +kernel
theorem d_Pages_pageOf_8 : decode prog_4_method_2_code 8 = .ok (.iconst 3, 1) := by decide +kernel
theorem d_Pages_pageOf_9 : decode prog_4_method_2_code 9 = .ok (.iand, 1) := by decide +kernel
theorem d_Pages_pageOf_10 : decode prog_4_method_2_code 10 = .ok (.ireturn, 1) := by decide +kernel
theorem d_Pages_pageOf_11 : decode prog_4_method_2_code 11 = .ok (.iload_n 1, 1) := by decide +kernel
theorem d_Pages_pageOf_12 : decode prog_4_method_2_code 12 = .ok (.sipush 254, 3) := by decide +kernel
theorem d_Pages_pageOf_15 : decode prog_4_method_2_code 15 = .ok (.if_icmp .ne 10, 3) := by decide +kernel
theorem d_Pages_pageOf_18 : decode prog_4_method_2_code 18 = .ok (.aload_n 0, 1) := by decide +kernel
theorem d_Pages_pageOf_19 : decode prog_4_method_2_code 19 = .ok (.getfield 19, 3) := by decide +kernel
theorem d_Pages_pageOf_22 : decode prog_4_method_2_code 22 = .ok (.goto 7, 3) := by decide +kernel
theorem d_Pages_pageOf_25 : decode prog_4_method_2_code 25 = .ok (.aload_n 0, 1) := by decide +kernel
theorem d_Pages_pageOf_26 : decode prog_4_method_2_code 26 = .ok (.getfield 15, 3) := by decide +kernel
theorem d_Pages_pageOf_29 : decode prog_4_method_2_code 29 = .ok (.ireturn, 1) := by decide +kernel
theorem d_Pages_colourAt_0 : decode prog_4_method_3_code 0 = .ok (.aload_n 0, 1) := by decide +kernel
theorem d_Pages_colourAt_1 : decode prog_4_method_3_code 1 = .ok (.getfield 11, 3) := by decide +kernel
theorem d_Pages_colourAt_4 : decode prog_4_method_3_code 4 = .ok (.iload_n 1, 1) := by decide +kernel
theorem d_Pages_colourAt_5 : decode prog_4_method_3_code 5 = .ok (.sipush 2560, 3) := by decide +kernel
theorem d_Pages_colourAt_8 : decode prog_4_method_3_code 8 = .ok (.imul, 1) := by decide +kernel
theorem d_Pages_colourAt_9 : decode prog_4_method_3_code 9 = .ok (.iload_n 3, 1) := by decide +kernel
theorem d_Pages_colourAt_10 : decode prog_4_method_3_code 10 = .ok (.bipush 64, 2) := by decide +kernel
theorem d_Pages_colourAt_12 : decode prog_4_method_3_code 12 = .ok (.imul, 1) := by decide +kernel
theorem d_Pages_colourAt_13 : decode prog_4_method_3_code 13 = .ok (.iadd, 1) := by decide +kernel
theorem d_Pages_colourAt_14 : decode prog_4_method_3_code 14 = .ok (.iload_n 2, 1) := by decide +kernel
theorem d_Pages_colourAt_15 : decode prog_4_method_3_code 15 = .ok (.iadd, 1) := by decide +kernel
theorem d_Pages_colourAt_16 : decode prog_4_method_3_code 16 = .ok (.baload, 1) := by decide +kernel
theorem d_Pages_colourAt_17 : decode prog_4_method_3_code 17 = .ok (.ireturn, 1) := by decide +kernel
theorem d_Pages_fill_0 : decode prog_4_method_4_code 0 = .ok (.iload_n 1, 1) := by decide +kernel
theorem d_Pages_fill_1 : decode prog_4_method_4_code 1 = .ok (.sipush 2560, 3) := by decide +kernel
theorem d_Pages_fill_4 : decode prog_4_method_4_code 4 = .ok (.imul, 1) := by decide +kernel
theorem d_Pages_fill_5 : decode prog_4_method_4_code 5 = .ok (.istore_n 3, 1) := by decide +kernel
theorem d_Pages_fill_6 : decode prog_4_method_4_code 6 = .ok (.aload_n 0, 1) := by decide +kernel
theorem d_Pages_fill_7 : decode prog_4_method_4_code 7 = .ok (.getfield 11, 3) := by decide +kernel
theorem d_Pages_fill_10 : decode prog_4_method_4_code 10 = .ok (.iload_n 3, 1) := by decide +kernel
theorem d_Pages_fill_11 : decode prog_4_method_4_code 11 = .ok (.iload_n 3, 1) := by decide +kernel
theorem d_Pages_fill_12 : decode prog_4_method_4_code 12 = .ok (.sipush 2560, 3) := by decide +kernel
theorem d_Pages_fill_15 : decode prog_4_method_4_code 15 = .ok (.iadd, 1) := by decide +kernel
theorem d_Pages_fill_16 : decode prog_4_method_4_code 16 = .ok (.iload_n 2, 1) := by decide +kernel
theorem d_Pages_fill_17 : decode prog_4_method_4_code 17 = .ok (.i2b, 1) := by decide +kernel
theorem d_Pages_fill_18 : decode prog_4_method_4_code 18 = .ok (.invokestatic 22, 3) := by decide +kernel
theorem d_Pages_fill_21 : decode prog_4_method_4_code 21 = .ok (.return_, 1) := by decide +kernel
theorem d_Pages_copy_0 : decode prog_4_method_5_code 0 = .ok (.aload_n 0, 1) := by decide +kernel
theorem d_Pages_copy_1 : decode prog_4_method_5_code 1 = .ok (.getfield 11, 3) := by decide +kernel
theorem d_Pages_copy_4 : decode prog_4_method_5_code 4 = .ok (.iload_n 2, 1) := by decide +kernel
theorem d_Pages_copy_5 : decode prog_4_method_5_code 5 = .ok (.sipush 2560, 3) := by decide +kernel
theorem d_Pages_copy_8 : decode prog_4_method_5_code 8 = .ok (.imul, 1) := by decide +kernel
theorem d_Pages_copy_9 : decode prog_4_method_5_code 9 = .ok (.aload_n 0, 1) := by decide +kernel
theorem d_Pages_copy_10 : decode prog_4_method_5_code 10 = .ok (.getfield 11, 3) := by decide +kernel
theorem d_Pages_copy_13 : decode prog_4_method_5_code 13 = .ok (.iload_n 1, 1) := by decide +kernel
theorem d_Pages_copy_14 : decode prog_4_method_5_code 14 = .ok (.sipush 2560, 3) := by decide +kernel
theorem d_Pages_copy_17 : decode prog_4_method_5_code 17 = .ok (.imul, 1) := by decide +kernel
theorem d_Pages_copy_18 : decode prog_4_method_5_code 18 = .ok (.sipush 2560, 3) := by decide +kernel
theorem d_Pages_copy_21 : decode prog_4_method_5_code 21 = .ok (.invokestatic 28, 3) := by decide +kernel
theorem d_Pages_copy_24 : decode prog_4_method_5_code 24 = .ok (.return_, 1) := by decide +kernel
theorem d_Pages_startOfRow_0 : decode prog_4_method_6_code 0 = .ok (.aload_n 0, 1) := by decide +kernel
theorem d_Pages_startOfRow_1 : decode prog_4_method_6_code 1 = .ok (.getfield 15, 3) := by decide +kernel
theorem d_Pages_startOfRow_4 : decode prog_4_method_6_code 4 = .ok (.sipush 2560, 3) := by decide +kernel
theorem d_Pages_startOfRow_7 : decode prog_4_method_6_code 7 = .ok (.imul, 1) := by decide +kernel
theorem d_Pages_startOfRow_8 : decode prog_4_method_6_code 8 = .ok (.iload_n 1, 1) := by decide +kernel
theorem d_Pages_startOfRow_9 : decode prog_4_method_6_code 9 = .ok (.bipush 64, 2) := by decide +kernel
theorem d_Pages_startOfRow_11 : decode prog_4_method_6_code 11 = .ok (.imul, 1) := by decide +kernel
theorem d_Pages_startOfRow_12 : decode prog_4_method_6_code 12 = .ok (.iadd, 1) := by decide +kernel
theorem d_Pages_startOfRow_13 : decode prog_4_method_6_code 13 = .ok (.ireturn, 1) := by decide +kernel
theorem d_Painter_forgetCounts_0 : decode prog_5_method_2_code 0 = .ok (.aload_n 0, 1) := by decide +kernel
theorem d_Painter_forgetCounts_1 : decode prog_5_method_2_code 1 = .ok (.iconst 0, 1) := by decide +kernel
theorem d_Painter_forgetCounts_2 : decode prog_5_method_2_code 2 = .ok (.putfield 39, 3) := by decide +kernel
theorem d_Painter_forgetCounts_5 : decode prog_5_method_2_code 5 = .ok (.aload_n 0, 1) := by decide +kernel
theorem d_Painter_forgetCounts_6 : decode prog_5_method_2_code 6 = .ok (.iconst 0, 1) := by decide +kernel
theorem d_Painter_forgetCounts_7 : decode prog_5_method_2_code 7 = .ok (.putfield 42, 3) := by decide +kernel
theorem d_Painter_forgetCounts_10 : decode prog_5_method_2_code 10 = .ok (.return_, 1) := by decide +kernel
theorem d_Painter_drawShape_0 : decode prog_5_method_3_code 0 = .ok (.aload_n 0, 1) := by decide +kernel
theorem d_Painter_drawShape_1 : decode prog_5_method_3_code 1 = .ok (.getfield 35, 3) := by decide +kernel
theorem d_Painter_drawShape_4 : decode prog_5_method_3_code 4 = .ok (.sipush 200, 3) := by decide +kernel
theorem d_Painter_drawShape_7 : decode prog_5_method_3_code 7 = .ok (.if_icmp .lt 4, 3) := by decide +kernel
theorem d_Painter_drawShape_10 : decode prog_5_method_3_code 10 = .ok (.return_, 1) := by decide +kernel
theorem d_Painter_drawShape_11 : decode prog_5_method_3_code 11 = .ok (.aload_n 0, 1) := by decide +kernel
theorem d_Painter_drawShape_12 : decode prog_5_method_3_code 12 = .ok (.dup, 1) := by decide +kernel
theorem d_Painter_drawShape_13 : decode prog_5_method_3_code 13 = .ok (.getfield 35, 3) := by decide +kernel
theorem d_Painter_drawShape_16 : decode prog_5_method_3_code 16 = .ok (.iconst 1, 1) := by decide +kernel
theorem d_Painter_drawShape_17 : decode prog_5_method_3_code 17 = .ok (.iadd, 1) := by decide +kernel
theorem d_Painter_drawShape_18 : decode prog_5_method_3_code 18 = .ok (.putfield 35, 3) := by decide +kernel
theorem d_Painter_drawShape_21 : decode prog_5_method_3_code 21 = .ok (.aload_n 0, 1) := by decide +kernel
theorem d_Painter_drawShape_22 : decode prog_5_method_3_code 22 = .ok (.dup, 1) := by decide +kernel
theorem d_Painter_drawShape_23 : decode prog_5_method_3_code 23 = .ok (.getfield 39, 3) := by decide +kernel
theorem d_Painter_drawShape_26 : decode prog_5_method_3_code 26 = .ok (.iconst 1, 1) := by decide +kernel
theorem d_Painter_drawShape_27 : decode prog_5_method_3_code 27 = .ok (.iadd, 1) := by decide +kernel
theorem d_Painter_drawShape_28 : decode prog_5_method_3_code 28 = .ok (.putfield 39, 3) := by decide +kernel
theorem d_Painter_drawShape_31 : decode prog_5_method_3_code 31 = .ok (.aload_n 0, 1) := by decide +kernel
theorem d_Painter_drawShape_32 : decode prog_5_method_3_code 32 = .ok (.getfield 12, 3) := by decide +kernel
theorem d_Painter_drawShape_35 : decode prog_5_method_3_code 35 = .ok (.iload_n 1, 1) := by decide +kernel
theorem d_Painter_drawShape_36 : decode prog_5_method_3_code 36 = .ok (.invokevirtual 45, 3) := by decide +kernel
theorem d_Painter_drawShape_39 : decode prog_5_method_3_code 39 = .ok (.istore 7, 2) := by decide +kernel
theorem d_Painter_drawShape_41 : decode prog_5_method_3_code 41 = .ok (.iload 7, 2) := by decide +kernel
theorem d_Painter_drawShape_43 : decode prog_5_method_3_code 43 = .ok (.sipush 192, 3) := by decide +kernel
theorem d_Painter_drawShape_46 : decode prog_5_method_3_code 46 = .ok (.if_icmp .lt 48, 3) := by decide +kernel
theorem d_Painter_drawShape_49 : decode prog_5_method_3_code 49 = .ok (.aload_n 0, 1) := by decide +kernel
theorem d_Painter_drawShape_50 : decode prog_5_method_3_code 50 = .ok (.iload_n 1, 1) := by decide +kernel
theorem d_Painter_drawShape_51 : decode prog_5_method_3_code 51 = .ok (.iload_n 2, 1) := by decide +kernel
theorem d_Painter_drawShape_52 : decode prog_5_method_3_code 52 = .ok (.iload_n 3, 1) := by decide +kernel
theorem d_Painter_drawShape_53 : decode prog_5_method_3_code 53 = .ok (.iload 4, 2) := by decide +kernel
theorem d_Painter_drawShape_55 : decode prog_5_method_3_code 55 = .ok (.invokevirtual 49, 3) := by decide +kernel
theorem d_Painter_drawShape_58 : decode prog_5_method_3_code 58 = .ok (.aload_n 0, 1) := by decide +kernel
theorem d_Painter_drawShape_59 : decode prog_5_method_3_code 59 = .ok (.aload_n 0, 1) := by decide +kernel
theorem d_Painter_drawShape_60 : decode prog_5_method_3_code 60 = .ok (.getfield 12, 3) := by decide +kernel
theorem d_Painter_drawShape_63 : decode prog_5_method_3_code 63 = .ok (.iload_n 1, 1) := by decide +kernel
theorem d_Painter_drawShape_64 : decode prog_5_method_3_code 64 = .ok (.iconst 3, 1) := by decide +kernel
theorem d_Painter_drawShape_65 : decode prog_5_method_3_code 65 = .ok (.iadd, 1) := by decide +kernel
theorem d_Painter_drawShape_66 : decode prog_5_method_3_code 66 = .ok (.invokevirtual 45, 3) := by decide +kernel
theorem d_Painter_drawShape_69 : decode prog_5_method_3_code 69 = .ok (.bipush 15, 2) := by decide +kernel
theorem d_Painter_drawShape_71 : decode prog_5_method_3_code 71 = .ok (.iand, 1) := by decide +kernel
theorem d_Painter_drawShape_72 : decode prog_5_method_3_code 72 = .ok (.iload 5, 2) := by decide +kernel
theorem d_Painter_drawShape_74 : decode prog_5_method_3_code 74 = .ok (.iconst (-1), 1) := by decide +kernel
theorem d_Painter_drawShape_75 : decode prog_5_method_3_code 75 = .ok (.if_icmp .ne 11, 3) := by decide +kernel
theorem d_Painter_drawShape_78 : decode prog_5_method_3_code 78 = .ok (.iload 7, 2) := by decide +kernel
theorem d_Painter_drawShape_80 : decode prog_5_method_3_code 80 = .ok (.bipush 15, 2) := by decide +kernel
theorem d_Painter_drawShape_82 : decode prog_5_method_3_code 82 = .ok (.iand, 1) := by decide +kernel
theorem d_Painter_drawShape_83 : decode prog_5_method_3_code 83 = .ok (.goto 5, 3) := by decide +kernel
theorem d_Painter_drawShape_86 : decode prog_5_method_3_code 86 = .ok (.iload 5, 2) := by decide +kernel
theorem d_Painter_drawShape_88 : decode prog_5_method_3_code 88 = .ok (.invokevirtual 53, 3) := by decide +kernel
theorem d_Painter_drawShape_91 : decode prog_5_method_3_code 91 = .ok (.goto 28, 3) := by decide +kernel
theorem d_Painter_drawShape_94 : decode prog_5_method_3_code 94 = .ok (.iload 7, 2) := by decide +kernel
theorem d_Painter_drawShape_96 : decode prog_5_method_3_code 96 = .ok (.iconst 2, 1) := by decide +kernel
theorem d_Painter_drawShape_97 : decode prog_5_method_3_code 97 = .ok (.if_icmp .ne 22, 3) := by decide +kernel
theorem d_Painter_drawShape_100 : decode prog_5_method_3_code 100 = .ok (.iload 6, 2) := by decide +kernel
theorem d_Painter_drawShape_102 : decode prog_5_method_3_code 102 = .ok (.iconst 4, 1) := by decide +kernel
theorem d_Painter_drawShape_103 : decode prog_5_method_3_code 103 = .ok (.if_icmp .gt 16, 3) := by decide +kernel
theorem d_Painter_drawShape_106 : decode prog_5_method_3_code 106 = .ok (.aload_n 0, 1) := by decide +kernel
theorem d_Painter_drawShape_107 : decode prog_5_method_3_code 107 = .ok (.iload_n 1, 1) := by decide +kernel
theorem d_Painter_drawShape_108 : decode prog_5_method_3_code 108 = .ok (.iload_n 2, 1) := by decide +kernel
theorem d_Painter_drawShape_109 : decode prog_5_method_3_code 109 = .ok (.iload_n 3, 1) := by decide +kernel
theorem d_Painter_drawShape_110 : decode prog_5_method_3_code 110 = .ok (.iload 4, 2) := by decide +kernel
theorem d_Painter_drawShape_112 : decode prog_5_method_3_code 112 = .ok (.iload 5, 2) := by decide +kernel
theorem d_Painter_drawShape_114 : decode prog_5_method_3_code 114 = .ok (.iload 6, 2) := by decide +kernel
theorem d_Painter_drawShape_116 : decode prog_5_method_3_code 116 = .ok (.invokevirtual 57, 3) := by decide +kernel
theorem d_Painter_drawShape_119 : decode prog_5_method_3_code 119 = .ok (.return_, 1) := by decide +kernel
theorem d_Painter_drawGroup_0 : decode prog_5_method_4_code 0 = .ok (.iload_n 2, 1) := by decide +kernel
theorem d_Painter_drawGroup_1 : decode prog_5_method_4_code 1 = .ok (.aload_n 0, 1) := by decide +kernel
theorem d_Painter_drawGroup_2 : decode prog_5_method_4_code 2 = .ok (.getfield 12, 3) := by decide +kernel
theorem d_Painter_drawGroup_5 : decode prog_5_method_4_code 5 = .ok (.iload_n 1, 1) := by decide +kernel
theorem d_Painter_drawGroup_6 : decode prog_5_method_4_code 6 = .ok (.iconst 1, 1) := by decide +kernel
theorem d_Painter_drawGroup_7 : decode prog_5_method_4_code 7 = .ok (.iadd, 1) := by decide +kernel
theorem d_Painter_drawGroup_8 : decode prog_5_method_4_code 8 = .ok (.invokevirtual 45, 3) := by decide +kernel
theorem d_Painter_drawGroup_11 : decode prog_5_method_4_code 11 = .ok (.iload 4, 2) := by decide +kernel
theorem d_Painter_drawGroup_13 : decode prog_5_method_4_code 13 = .ok (.invokestatic 61, 3) := by decide +kernel
theorem d_Painter_drawGroup_16 : decode prog_5_method_4_code 16 = .ok (.isub, 1) := by decide +kernel
theorem d_Painter_drawGroup_17 : decode prog_5_method_4_code 17 = .ok (.istore 7, 2) := by decide +kernel
theorem d_Painter_drawGroup_19 : decode prog_5_method_4_code 19 = .ok (.iload_n 3, 1) := by decide +kernel
theorem d_Painter_drawGroup_20 : decode prog_5_method_4_code 20 = .ok (.aload_n 0, 1) := by decide +kernel
theorem d_Painter_drawGroup_21 : decode prog_5_method_4_code 21 = .ok (.getfield 12, 3) := by decide +kernel
theorem d_Painter_drawGroup_24 : decode prog_5_method_4_code 24 = .ok (.iload_n 1, 1) := by decide +kernel
theorem d_Painter_drawGroup_25 : decode prog_5_method_4_code 25 = .ok (.iconst 2, 1) := by decide +kernel
theorem d_Painter_drawGroup_26 : decode prog_5_method_4_code 26 = .ok (.iadd, 1) := by decide +kernel
theorem d_Painter_drawGroup_27 : decode prog_5_method_4_code 27 = .ok (.invokevirtual 45, 3) := by decide +kernel
theorem d_Painter_drawGroup_30 : decode prog_5_method_4_code 30 = .ok (.iload 4, 2) := by decide +kernel
theorem d_Painter_drawGroup_32 : decode prog_5_method_4_code 32 = .ok (.invokestatic 61, 3) := by decide +kernel
theorem d_Painter_drawGroup_35 : decode prog_5_method_4_code 35 = .ok (.isub, 1) := by decide +kernel
theorem d_Painter_drawGroup_36 : decode prog_5_method_4_code 36 = .ok (.istore 8, 2) := by decide +kernel
theorem d_Painter_drawGroup_38 : decode prog_5_method_4_code 38 = .ok (.aload_n 0, 1) := by decide +kernel
theorem d_Painter_drawGroup_39 : decode prog_5_method_4_code 39 = .ok (.getfield 12, 3) := by decide +kernel
theorem d_Painter_drawGroup_42 : decode prog_5_method_4_code 42 = .ok (.iload_n 1, 1) := by decide +kernel
theorem d_Painter_drawGroup_43 : decode prog_5_method_4_code 43 = .ok (.iconst 3, 1) := by decide +kernel
theorem d_Painter_drawGroup_44 : decode prog_5_method_4_code 44 = .ok (.iadd, 1) := by decide +kernel
theorem d_Painter_drawGroup_45 : decode prog_5_method_4_code 45 = .ok (.invokevirtual 45, 3) := by decide +kernel
theorem d_Painter_drawGroup_48 : decode prog_5_method_4_code 48 = .ok (.bipush 15, 2) := by decide +kernel
theorem d_Painter_drawGroup_50 : decode prog_5_method_4_code 50 = .ok (.iand, 1) := by decide +kernel
theorem d_Painter_drawGroup_51 : decode prog_5_method_4_code 51 = .ok (.istore 9, 2) := by decide +kernel
theorem d_Painter_drawGroup_53 : decode prog_5_method_4_code 53 = .ok (.iload_n 1, 1) := by decide +kernel
theorem d_Painter_drawGroup_54 : decode prog_5_method_4_code 54 = .ok (.iconst 4, 1) := by decide +kernel
theorem d_Painter_drawGroup_55 : decode prog_5_method_4_code 55 = .ok (.iadd, 1) := by decide +kernel
theorem d_Painter_drawGroup_56 : decode prog_5_method_4_code 56 = .ok (.istore 10, 2) := by decide +kernel
theorem d_Painter_drawGroup_58 : decode prog_5_method_4_code 58 = .ok (.iconst 0, 1) := by decide +kernel
theorem d_Painter_drawGroup_59 : decode prog_5_method_4_code 59 = .ok (.istore 11, 2) := by decide +kernel
theorem d_Painter_drawGroup_61 : decode prog_5_method_4_code 61 = .ok (.iload 11, 2) := by decide +kernel
theorem d_Painter_drawGroup_63 : decode prog_5_method_4_code 63 = .ok (.iload 9, 2) := by decide +kernel
theorem d_Painter_drawGroup_65 : decode prog_5_method_4_code 65 = .ok (.if_icmp .ge 140, 3) := by decide +kernel
theorem d_Painter_drawGroup_68 : decode prog_5_method_4_code 68 = .ok (.aload_n 0, 1) := by decide +kernel
theorem d_Painter_drawGroup_69 : decode prog_5_method_4_code 69 = .ok (.getfield 12, 3) := by decide +kernel
theorem d_Painter_drawGroup_72 : decode prog_5_method_4_code 72 = .ok (.iload 10, 2) := by decide +kernel
theorem d_Painter_drawGroup_74 : decode prog_5_method_4_code 74 = .ok (.invokevirtual 65, 3) := by decide +kernel
theorem d_Painter_drawGroup_77 : decode prog_5_method_4_code 77 = .ok (.istore 12, 2) := by decide +kernel
theorem d_Painter_drawGroup_79 : decode prog_5_method_4_code 79 = .ok (.iload 7, 2) := by decide +kernel
theorem d_Painter_drawGroup_81 : decode prog_5_method_4_code 81 = .ok (.aload_n 0, 1) := by decide +kernel
theorem d_Painter_drawGroup_82 : decode prog_5_method_4_code 82 = .ok (.getfield 12, 3) := by decide +kernel
theorem d_Painter_drawGroup_85 : decode prog_5_method_4_code 85 = .ok (.iload 10, 2) := by decide +kernel
theorem d_Painter_drawGroup_87 : decode prog_5_method_4_code 87 = .ok (.iconst 2, 1) := by decide +kernel
theorem d_Painter_drawGroup_88 : decode prog_5_method_4_code 88 = .ok (.iadd, 1) := by decide +kernel
theorem d_Painter_drawGroup_89 : decode prog_5_method_4_code 89 = .ok (.invokevirtual 45, 3) := by decide +kernel
theorem d_Painter_drawGroup_92 : decode prog_5_method_4_code 92 = .ok (.iload 4, 2) := by decide +kernel
theorem d_Painter_drawGroup_94 : decode prog_5_method_4_code 94 = .ok (.invokestatic 61, 3) := by decide +kernel
theorem d_Painter_drawGroup_97 : decode prog_5_method_4_code 97 = .ok (.iadd, 1) := by decide +kernel
theorem d_Painter_drawGroup_98 : decode prog_5_method_4_code 98 = .ok (.istore 13, 2) := by decide +kernel
theorem d_Painter_drawGroup_100 : decode prog_5_method_4_code 100 = .ok (.iload 8, 2) := by decide +kernel
theorem d_Painter_drawGroup_102 : decode prog_5_method_4_code 102 = .ok (.aload_n 0, 1) := by decide +kernel
theorem d_Painter_drawGroup_103 : decode prog_5_method_4_code 103 = .ok (.getfield 12, 3) := by decide +kernel
theorem d_Painter_drawGroup_106 : decode prog_5_method_4_code 106 = .ok (.iload 10, 2) := by decide +kernel
theorem d_Painter_drawGroup_108 : decode prog_5_method_4_code 108 = .ok (.iconst 3, 1) := by decide +kernel
theorem d_Painter_drawGroup_109 : decode prog_5_method_4_code 109 = .ok (.iadd, 1) := by decide +kernel
theorem d_Painter_drawGroup_110 : decode prog_5_method_4_code 110 = .ok (.invokevirtual 45, 3) := by decide +kernel
theorem d_Painter_drawGroup_113 : decode prog_5_method_4_code 113 = .ok (.iload 4, 2) := by decide +kernel
theorem d_Painter_drawGroup_115 : decode prog_5_method_4_code 115 = .ok (.invokestatic 61, 3) := by decide +kernel
theorem d_Painter_drawGroup_118 : decode prog_5_method_4_code 118 = .ok (.iadd, 1) := by decide +kernel
theorem d_Painter_drawGroup_119 : decode prog_5_method_4_code 119 = .ok (.istore 14, 2) := by decide +kernel
theorem d_Painter_drawGroup_121 : decode prog_5_method_4_code 121 = .ok (.iload 12, 2) := by decide +kernel
theorem d_Painter_drawGroup_123 : decode prog_5_method_4_code 123 = .ok (.ldc 68, 2) := by decide +kernel
theorem d_Painter_drawGroup_125 : decode prog_5_method_4_code 125 = .ok (.iand, 1) := by decide +kernel
theorem d_Painter_drawGroup_126 : decode prog_5_method_4_code 126 = .ok (.ifCond .eq 7, 3) := by decide +kernel
theorem d_Painter_drawGroup_129 : decode prog_5_method_4_code 129 = .ok (.iconst 1, 1) := by decide +kernel
theorem d_Painter_drawGroup_130 : decode prog_5_method_4_code 130 = .ok (.goto 4, 3) := by decide +kernel
theorem d_Painter_drawGroup_133 : decode prog_5_method_4_code 133 = .ok (.iconst 0, 1) := by decide +kernel
theorem d_Painter_drawGroup_134 : decode prog_5_method_4_code 134 = .ok (.istore 15, 2) := by decide +kernel
theorem d_Painter_drawGroup_136 : decode prog_5_method_4_code 136 = .ok (.iload 15, 2) := by decide +kernel
theorem d_Painter_drawGroup_138 : decode prog_5_method_4_code 138 = .ok (.ifCond .eq 20, 3) := by decide +kernel
theorem d_Painter_drawGroup_141 : decode prog_5_method_4_code 141 = .ok (.aload_n 0, 1) := by decide +kernel
theorem d_Painter_drawGroup_142 : decode prog_5_method_4_code 142 = .ok (.getfield 12, 3) := by decide +kernel
theorem d_Painter_drawGroup_145 : decode prog_5_method_4_code 145 = .ok (.iload 10, 2) := by decide +kernel
theorem d_Painter_drawGroup_147 : decode prog_5_method_4_code 147 = .ok (.iconst 4, 1) := by decide +kernel
theorem d_Painter_drawGroup_148 : decode prog_5_method_4_code 148 = .ok (.iadd, 1) := by decide +kernel
theorem d_Painter_drawGroup_149 : decode prog_5_method_4_code 149 = .ok (.invokevirtual 45, 3) := by decide +kernel
theorem d_Painter_drawGroup_152 : decode prog_5_method_4_code 152 = .ok (.bipush 15, 2) := by decide +kernel
theorem d_Painter_drawGroup_154 : decode prog_5_method_4_code 154 = .ok (.iand, 1) := by decide +kernel
theorem d_Painter_drawGroup_155 : decode prog_5_method_4_code 155 = .ok (.goto 5, 3) := by decide +kernel
theorem d_Painter_drawGroup_158 : decode prog_5_method_4_code 158 = .ok (.iload 5, 2) := by decide +kernel
theorem d_Painter_drawGroup_160 : decode prog_5_method_4_code 160 = .ok (.istore 16, 2) := by decide +kernel
theorem d_Painter_drawGroup_162 : decode prog_5_method_4_code 162 = .ok (.aload_n 0, 1) := by decide +kernel
theorem d_Painter_drawGroup_163 : decode prog_5_method_4_code 163 = .ok (.iload 12, 2) := by decide +kernel
theorem d_Painter_drawGroup_165 : decode prog_5_method_4_code 165 = .ok (.sipush 1023, 3) := by decide +kernel
theorem d_Painter_drawGroup_168 : decode prog_5_method_4_code 168 = .ok (.iand, 1) := by decide +kernel
theorem d_Painter_drawGroup_169 : decode prog_5_method_4_code 169 = .ok (.iload 13, 2) := by decide +kernel
theorem d_Painter_drawGroup_171 : decode prog_5_method_4_code 171 = .ok (.iload 14, 2) := by decide +kernel
theorem d_Painter_drawGroup_173 : decode prog_5_method_4_code 173 = .ok (.iload 4, 2) := by decide +kernel
theorem d_Painter_drawGroup_175 : decode prog_5_method_4_code 175 = .ok (.iload 16, 2) := by decide +kernel
theorem d_Painter_drawGroup_177 : decode prog_5_method_4_code 177 = .ok (.iload 6, 2) := by decide +kernel
theorem d_Painter_drawGroup_179 : decode prog_5_method_4_code 179 = .ok (.iconst 1, 1) := by decide +kernel
theorem d_Painter_drawGroup_180 : decode prog_5_method_4_code 180 = .ok (.iadd, 1) := by decide +kernel
theorem d_Painter_drawGroup_181 : decode prog_5_method_4_code 181 = .ok (.invokevirtual 69, 3) := by decide +kernel
theorem d_Painter_drawGroup_184 : decode prog_5_method_4_code 184 = .ok (.iload 10, 2) := by decide +kernel
theorem d_Painter_drawGroup_186 : decode prog_5_method_4_code 186 = .ok (.iload 15, 2) := by decide +kernel
theorem d_Painter_drawGroup_188 : decode prog_5_method_4_code 188 = .ok (.ifCond .eq 7, 3) := by decide +kernel
theorem d_Painter_drawGroup_191 : decode prog_5_method_4_code 191 = .ok (.iconst 5, 1) := by decide +kernel
theorem d_Painter_drawGroup_192 : decode prog_5_method_4_code 192 = .ok (.goto 4, 3) := by decide +kernel
theorem d_Painter_drawGroup_195 : decode prog_5_method_4_code 195 = .ok (.iconst 4, 1) := by decide +kernel
theorem d_Painter_drawGroup_196 : decode prog_5_method_4_code 196 = .ok (.iadd, 1) := by decide +kernel
theorem d_Painter_drawGroup_197 : decode prog_5_method_4_code 197 = .ok (.istore 10, 2) := by decide +kernel
theorem d_Painter_drawGroup_199 : decode prog_5_method_4_code 199 = .ok (.iinc 11 1, 3) := by decide +kernel
theorem d_Painter_drawGroup_202 : decode prog_5_method_4_code 202 = .ok (.goto (-141), 3) := by decide +kernel
theorem d_Painter_drawGroup_205 : decode prog_5_method_4_code 205 = .ok (.return_, 1) := by decide +kernel
theorem d_Painter_placePairs_0 : decode prog_5_method_5_code 0 = .ok (.iload_n 2, 1) := by decide +kernel
theorem d_Painter_placePairs_1 : decode prog_5_method_5_code 1 = .ok (.aload_n 0, 1) := by decide +kernel
theorem d_Painter_placePairs_2 : decode prog_5_method_5_code 2 = .ok (.getfield 12, 3) := by decide +kernel
theorem d_Painter_placePairs_5 : decode prog_5_method_5_code 5 = .ok (.iload_n 1, 1) := by decide +kernel
theorem d_Painter_placePairs_6 : decode prog_5_method_5_code 6 = .ok (.iconst 1, 1) := by decide +kernel
theorem d_Painter_placePairs_7 : decode prog_5_method_5_code 7 = .ok (.iadd, 1) := by decide +kernel
theorem d_Painter_placePairs_8 : decode prog_5_method_5_code 8 = .ok (.invokevirtual 45, 3) := by decide +kernel
theorem d_Painter_placePairs_11 : decode prog_5_method_5_code 11 = .ok (.iload 4, 2) := by decide +kernel
theorem d_Painter_placePairs_13 : decode prog_5_method_5_code 13 = .ok (.invokestatic 61, 3) := by decide +kernel
theorem d_Painter_placePairs_16 : decode prog_5_method_5_code 16 = .ok (.iconst 2, 1) := by decide +kernel
theorem d_Painter_placePairs_17 : decode prog_5_method_5_code 17 = .ok (.invokestatic 72, 3) := by decide +kernel
theorem d_Painter_placePairs_20 : decode prog_5_method_5_code 20 = .ok (.isub, 1) := by decide +kernel
theorem d_Painter_placePairs_21 : decode prog_5_method_5_code 21 = .ok (.istore 5, 2) := by decide +kernel
theorem d_Painter_placePairs_23 : decode prog_5_method_5_code 23 = .ok (.iload_n 3, 1) := by decide +kernel
theorem d_Painter_placePairs_24 : decode prog_5_method_5_code 24 = .ok (.aload_n 0, 1) := by decide +kernel
theorem d_Painter_placePairs_25 : decode prog_5_method_5_code 25 = .ok (.getfield 12, 3) := by decide +kernel
theorem d_Painter_placePairs_28 : decode prog_5_method_5_code 28 = .ok (.iload_n 1, 1) := by decide +kernel
theorem d_Painter_placePairs_29 : decode prog_5_method_5_code 29 = .ok (.iconst 2, 1) := by decide +kernel
theorem d_Painter_placePairs_30 : decode prog_5_method_5_code 30 = .ok (.iadd, 1) := by decide +kernel
theorem d_Painter_placePairs_31 : decode prog_5_method_5_code 31 = .ok (.invokevirtual 45, 3) := by decide +kernel
theorem d_Painter_placePairs_34 : decode prog_5_method_5_code 34 = .ok (.iload 4, 2) := by decide +kernel
theorem d_Painter_placePairs_36 : decode prog_5_method_5_code 36 = .ok (.invokestatic 61, 3) := by decide +kernel
theorem d_Painter_placePairs_39 : decode prog_5_method_5_code 39 = .ok (.iconst 2, 1) := by decide +kernel
theorem d_Painter_placePairs_40 : decode prog_5_method_5_code 40 = .ok (.invokestatic 72, 3) := by decide +kernel
theorem d_Painter_placePairs_43 : decode prog_5_method_5_code 43 = .ok (.isub, 1) := by decide +kernel
theorem d_Painter_placePairs_44 : decode prog_5_method_5_code 44 = .ok (.istore 6, 2) := by decide +kernel
theorem d_Painter_placePairs_46 : decode prog_5_method_5_code 46 = .ok (.aload_n 0, 1) := by decide +kernel
theorem d_Painter_placePairs_47 : decode prog_5_method_5_code 47 = .ok (.getfield 12, 3) := by decide +kernel
theorem d_Painter_placePairs_50 : decode prog_5_method_5_code 50 = .ok (.iload_n 1, 1) := by decide +kernel
theorem d_Painter_placePairs_51 : decode prog_5_method_5_code 51 = .ok (.iconst 3, 1) := by decide +kernel
theorem d_Painter_placePairs_52 : decode prog_5_method_5_code 52 = .ok (.iadd, 1) := by decide +kernel
theorem d_Painter_placePairs_53 : decode prog_5_method_5_code 53 = .ok (.invokevirtual 45, 3) := by decide +kernel
theorem d_Painter_placePairs_56 : decode prog_5_method_5_code 56 = .ok (.bipush 15, 2) := by decide +kernel
theorem d_Painter_placePairs_58 : decode prog_5_method_5_code 58 = .ok (.iand, 1) := by decide +kernel
theorem d_Painter_placePairs_59 : decode prog_5_method_5_code 59 = .ok (.istore 7, 2) := by decide +kernel
theorem d_Painter_placePairs_61 : decode prog_5_method_5_code 61 = .ok (.iload_n 1, 1) := by decide +kernel
theorem d_Painter_placePairs_62 : decode prog_5_method_5_code 62 = .ok (.iconst 4, 1) := by decide +kernel
theorem d_Painter_placePairs_63 : decode prog_5_method_5_code 63 = .ok (.iadd, 1) := by decide +kernel
theorem d_Painter_placePairs_64 : decode prog_5_method_5_code 64 = .ok (.istore 8, 2) := by decide +kernel
theorem d_Painter_placePairs_66 : decode prog_5_method_5_code 66 = .ok (.iconst 0, 1) := by decide +kernel
theorem d_Painter_placePairs_67 : decode prog_5_method_5_code 67 = .ok (.istore 9, 2) := by decide +kernel
theorem d_Painter_placePairs_69 : decode prog_5_method_5_code 69 = .ok (.iload 9, 2) := by decide +kernel
theorem d_Painter_placePairs_71 : decode prog_5_method_5_code 71 = .ok (.iload 7, 2) := by decide +kernel
theorem d_Painter_placePairs_73 : decode prog_5_method_5_code 73 = .ok (.if_icmp .ge 101, 3) := by decide +kernel
theorem d_Painter_placePairs_76 : decode prog_5_method_5_code 76 = .ok (.aload_n 0, 1) := by decide +kernel
theorem d_Painter_placePairs_77 : decode prog_5_method_5_code 77 = .ok (.getfield 25, 3) := by decide +kernel
theorem d_Painter_placePairs_80 : decode prog_5_method_5_code 80 = .ok (.iload 9, 2) := by decide +kernel
theorem d_Painter_placePairs_82 : decode prog_5_method_5_code 82 = .ok (.iload 5, 2) := by decide +kernel
theorem d_Painter_placePairs_84 : decode prog_5_method_5_code 84 = .ok (.aload_n 0, 1) := by decide +kernel
theorem d_Painter_placePairs_85 : decode prog_5_method_5_code 85 = .ok (.getfield 12, 3) := by decide +kernel
theorem d_Painter_placePairs_88 : decode prog_5_method_5_code 88 = .ok (.iload 8, 2) := by decide +kernel
theorem d_Painter_placePairs_90 : decode prog_5_method_5_code 90 = .ok (.iconst 2, 1) := by decide +kernel
theorem d_Painter_placePairs_91 : decode prog_5_method_5_code 91 = .ok (.iload 9, 2) := by decide +kernel
theorem d_Painter_placePairs_93 : decode prog_5_method_5_code 93 = .ok (.imul, 1) := by decide +kernel
theorem d_Painter_placePairs_94 : decode prog_5_method_5_code 94 = .ok (.iadd, 1) := by decide +kernel
theorem d_Painter_placePairs_95 : decode prog_5_method_5_code 95 = .ok (.invokevirtual 45, 3) := by decide +kernel
theorem d_Painter_placePairs_98 : decode prog_5_method_5_code 98 = .ok (.iload 4, 2) := by decide +kernel
theorem d_Painter_placePairs_100 : decode prog_5_method_5_code 100 = .ok (.invokestatic 61, 3) := by decide +kernel
theorem d_Painter_placePairs_103 : decode prog_5_method_5_code 103 = .ok (.iadd, 1) := by decide +kernel
theorem d_Painter_placePairs_104 : decode prog_5_method_5_code 104 = .ok (.iastore, 1) := by decide +kernel
theorem d_Painter_placePairs_105 : decode prog_5_method_5_code 105 = .ok (.aload_n 0, 1) := by decide +kernel
theorem d_Painter_placePairs_106 : decode prog_5_method_5_code 106 = .ok (.getfield 32, 3) := by decide +kernel
theorem d_Painter_placePairs_109 : decode prog_5_method_5_code 109 = .ok (.iload 9, 2) := by decide +kernel
theorem d_Painter_placePairs_111 : decode prog_5_method_5_code 111 = .ok (.iload 6, 2) := by decide +kernel
theorem d_Painter_placePairs_113 : decode prog_5_method_5_code 113 = .ok (.aload_n 0, 1) := by decide +kernel
theorem d_Painter_placePairs_114 : decode prog_5_method_5_code 114 = .ok (.getfield 12, 3) := by decide +kernel
theorem d_Painter_placePairs_117 : decode prog_5_method_5_code 117 = .ok (.iload 8, 2) := by decide +kernel
theorem d_Painter_placePairs_119 : decode prog_5_method_5_code 119 = .ok (.iconst 2, 1) := by decide +kernel
theorem d_Painter_placePairs_120 : decode prog_5_method_5_code 120 = .ok (.iload 9, 2) := by decide +kernel
theorem d_Painter_placePairs_122 : decode prog_5_method_5_code 122 = .ok (.imul, 1) := by decide +kernel
theorem d_Painter_placePairs_123 : decode prog_5_method_5_code 123 = .ok (.iadd, 1) := by decide +kernel
theorem d_Painter_placePairs_124 : decode prog_5_method_5_code 124 = .ok (.iconst 1, 1) := by decide +kernel
theorem d_Painter_placePairs_125 : decode prog_5_method_5_code 125 = .ok (.iadd, 1) := by decide +kernel
theorem d_Painter_placePairs_126 : decode prog_5_method_5_code 126 = .ok (.invokevirtual 45, 3) := by decide +kernel
theorem d_Painter_placePairs_129 : decode prog_5_method_5_code 129 = .ok (.iload 4, 2) := by decide +kernel
theorem d_Painter_placePairs_131 : decode prog_5_method_5_code 131 = .ok (.invokestatic 61, 3) := by decide +kernel
theorem d_Painter_placePairs_134 : decode prog_5_method_5_code 134 = .ok (.iadd, 1) := by decide +kernel
theorem d_Painter_placePairs_135 : decode prog_5_method_5_code 135 = .ok (.iastore, 1) := by decide +kernel
theorem d_Painter_placePairs_136 : decode prog_5_method_5_code 136 = .ok (.aload_n 0, 1) := by decide +kernel
theorem d_Painter_placePairs_137 : decode prog_5_method_5_code 137 = .ok (.getfield 29, 3) := by decide +kernel
theorem d_Painter_placePairs_140 : decode prog_5_method_5_code 140 = .ok (.iload 9, 2) := by decide +kernel
theorem d_Painter_placePairs_142 : decode prog_5_method_5_code 142 = .ok (.iload 5, 2) := by decide +kernel
theorem d_Painter_placePairs_144 : decode prog_5_method_5_code 144 = .ok (.aload_n 0, 1) := by decide +kernel
theorem d_Painter_placePairs_145 : decode prog_5_method_5_code 145 = .ok (.getfield 12, 3) := by decide +kernel
theorem d_Painter_placePairs_148 : decode prog_5_method_5_code 148 = .ok (.iload 8, 2) := by decide +kernel
theorem d_Painter_placePairs_150 : decode prog_5_method_5_code 150 = .ok (.iconst 2, 1) := by decide +kernel
theorem d_Painter_placePairs_151 : decode prog_5_method_5_code 151 = .ok (.iload 7, 2) := by decide +kernel
theorem d_Painter_placePairs_153 : decode prog_5_method_5_code 153 = .ok (.imul, 1) := by decide +kernel
theorem d_Painter_placePairs_154 : decode prog_5_method_5_code 154 = .ok (.iadd, 1) := by decide +kernel
theorem d_Painter_placePairs_155 : decode prog_5_method_5_code 155 = .ok (.iload 9, 2) := by decide +kernel
theorem d_Painter_placePairs_157 : decode prog_5_method_5_code 157 = .ok (.iadd, 1) := by decide +kernel
theorem d_Painter_placePairs_158 : decode prog_5_method_5_code 158 = .ok (.invokevirtual 45, 3) := by decide +kernel
theorem d_Painter_placePairs_161 : decode prog_5_method_5_code 161 = .ok (.iload 4, 2) := by decide +kernel
theorem d_Painter_placePairs_163 : decode prog_5_method_5_code 163 = .ok (.invokestatic 61, 3) := by decide +kernel
theorem d_Painter_placePairs_166 : decode prog_5_method_5_code 166 = .ok (.iadd, 1) := by decide +kernel
theorem d_Painter_placePairs_167 : decode prog_5_method_5_code 167 = .ok (.iastore, 1) := by decide +kernel
theorem d_Painter_placePairs_168 : decode prog_5_method_5_code 168 = .ok (.iinc 9 1, 3) := by decide +kernel
theorem d_Painter_placePairs_171 : decode prog_5_method_5_code 171 = .ok (.goto (-102), 3) := by decide +kernel
theorem d_Painter_placePairs_174 : decode prog_5_method_5_code 174 = .ok (.return_, 1) := by decide +kernel
theorem d_Painter_drawPolygon_0 : decode prog_5_method_6_code 0 = .ok (.iconst 0, 1) := by decide +kernel
theorem d_Painter_drawPolygon_1 : decode prog_5_method_6_code 1 = .ok (.istore_n 3, 1) := by decide +kernel
theorem d_Painter_drawPolygon_2 : decode prog_5_method_6_code 2 = .ok (.iload_n 3, 1) := by decide +kernel
theorem d_Painter_drawPolygon_3 : decode prog_5_method_6_code 3 = .ok (.iconst 1, 1) := by decide +kernel
theorem d_Painter_drawPolygon_4 : decode prog_5_method_6_code 4 = .ok (.iadd, 1) := by decide +kernel
theorem d_Painter_drawPolygon_5 : decode prog_5_method_6_code 5 = .ok (.iload_n 1, 1) := by decide +kernel
theorem d_Painter_drawPolygon_6 : decode prog_5_method_6_code 6 = .ok (.if_icmp .ge 39, 3) := by decide +kernel
theorem d_Painter_drawPolygon_9 : decode prog_5_method_6_code 9 = .ok (.aload_n 0, 1) := by decide +kernel
theorem d_Painter_drawPolygon_10 : decode prog_5_method_6_code 10 = .ok (.getfield 32, 3) := by decide +kernel
theorem d_Painter_drawPolygon_13 : decode prog_5_method_6_code 13 = .ok (.iload_n 3, 1) := by decide +kernel
theorem d_Painter_drawPolygon_14 : decode prog_5_method_6_code 14 = .ok (.iconst 1, 1) := by decide +kernel
theorem d_Painter_drawPolygon_15 : decode prog_5_method_6_code 15 = .ok (.iadd, 1) := by decide +kernel
theorem d_Painter_drawPolygon_16 : decode prog_5_method_6_code 16 = .ok (.iaload, 1) := by decide +kernel
theorem d_Painter_drawPolygon_17 : decode prog_5_method_6_code 17 = .ok (.aload_n 0, 1) := by decide +kernel
theorem d_Painter_drawPolygon_18 : decode prog_5_method_6_code 18 = .ok (.getfield 32, 3) := by decide +kernel
theorem d_Painter_drawPolygon_21 : decode prog_5_method_6_code 21 = .ok (.iload_n 3, 1) := by decide +kernel
theorem d_Painter_drawPolygon_22 : decode prog_5_method_6_code 22 = .ok (.iaload, 1) := by decide +kernel
theorem d_Painter_drawPolygon_23 : decode prog_5_method_6_code 23 = .ok (.isub, 1) := by decide +kernel
theorem d_Painter_drawPolygon_24 : decode prog_5_method_6_code 24 = .ok (.istore 4, 2) := by decide +kernel
theorem d_Painter_drawPolygon_26 : decode prog_5_method_6_code 26 = .ok (.iload 4, 2) := by decide +kernel
theorem d_Painter_drawPolygon_28 : decode prog_5_method_6_code 28 = .ok (.ifCond .le 11, 3) := by decide +kernel
theorem d_Painter_drawPolygon_31 : decode prog_5_method_6_code 31 = .ok (.aload_n 0, 1) := by decide +kernel
theorem d_Painter_drawPolygon_32 : decode prog_5_method_6_code 32 = .ok (.iload_n 3, 1) := by decide +kernel
theorem d_Painter_drawPolygon_33 : decode prog_5_method_6_code 33 = .ok (.iload 4, 2) := by decide +kernel
theorem d_Painter_drawPolygon_35 : decode prog_5_method_6_code 35 = .ok (.iload_n 2, 1) := by decide +kernel
theorem d_Painter_drawPolygon_36 : decode prog_5_method_6_code 36 = .ok (.invokevirtual 77, 3) := by decide +kernel
theorem d_Painter_drawPolygon_39 : decode prog_5_method_6_code 39 = .ok (.iinc 3 1, 3) := by decide +kernel
theorem d_Painter_drawPolygon_42 : decode prog_5_method_6_code 42 = .ok (.goto (-40), 3) := by decide +kernel
theorem d_Painter_drawPolygon_45 : decode prog_5_method_6_code 45 = .ok (.return_, 1) := by decide +kernel
theorem d_Painter_drawRows_0 : decode prog_5_method_7_code 0 = .ok (.aload_n 0, 1) := by decide +kernel
theorem d_Painter_drawRows_1 : decode prog_5_method_7_code 1 = .ok (.getfield 32, 3) := by decide +kernel
theorem d_Painter_drawRows_4 : decode prog_5_method_7_code 4 = .ok (.iload_n 1, 1) := by decide +kernel
theorem d_Painter_drawRows_5 : decode prog_5_method_7_code 5 = .ok (.iaload, 1) := by decide +kernel
theorem d_Painter_drawRows_6 : decode prog_5_method_7_code 6 = .ok (.istore 4, 2) := by decide +kernel
theorem d_Painter_drawRows_8 : decode prog_5_method_7_code 8 = .ok (.ldc2_w 81, 3) := by decide +kernel
theorem d_Painter_drawRows_11 : decode prog_5_method_7_code 11 = .ok (.aload_n 0, 1) := by decide +kernel
theorem d_Painter_drawRows_12 : decode prog_5_method_7_code 12 = .ok (.getfield 29, 3) := by decide +kernel
theorem d_Painter_drawRows_15 : decode prog_5_method_7_code 15 = .ok (.iload_n 1, 1) := by decide +kernel
theorem d_Painter_drawRows_16 : decode prog_5_method_7_code 16 = .ok (.iconst 1, 1) := by decide +kernel
theorem d_Painter_drawRows_17 : decode prog_5_method_7_code 17 = .ok (.iadd, 1) := by decide +kernel
theorem d_Painter_drawRows_18 : decode prog_5_method_7_code 18 = .ok (.iaload, 1) := by decide +kernel
theorem d_Painter_drawRows_19 : decode prog_5_method_7_code 19 = .ok (.aload_n 0, 1) := by decide +kernel
theorem d_Painter_drawRows_20 : decode prog_5_method_7_code 20 = .ok (.getfield 29, 3) := by decide +kernel
theorem d_Painter_drawRows_23 : decode prog_5_method_7_code 23 = .ok (.iload_n 1, 1) := by decide +kernel
theorem d_Painter_drawRows_24 : decode prog_5_method_7_code 24 = .ok (.iaload, 1) := by decide +kernel
theorem d_Painter_drawRows_25 : decode prog_5_method_7_code 25 = .ok (.isub, 1) := by decide +kernel
theorem d_Painter_drawRows_26 : decode prog_5_method_7_code 26 = .ok (.i2l, 1) := by decide +kernel
theorem d_Painter_drawRows_27 : decode prog_5_method_7_code 27 = .ok (.lmul, 1) := by decide +kernel
theorem d_Painter_drawRows_28 : decode prog_5_method_7_code 28 = .ok (.iload_n 2, 1) := by decide +kernel
theorem d_Painter_drawRows_29 : decode prog_5_method_7_code 29 = .ok (.i2l, 1) := by decide +kernel
theorem d_Painter_drawRows_30 : decode prog_5_method_7_code 30 = .ok (.invokestatic 83, 3) := by decide +kernel
theorem d_Painter_drawRows_33 : decode prog_5_method_7_code 33 = .ok (.lstore 5, 2) := by decide +kernel
theorem d_Painter_drawRows_35 : decode prog_5_method_7_code 35 = .ok (.ldc2_w 81, 3) := by decide +kernel
theorem d_Painter_drawRows_38 : decode prog_5_method_7_code 38 = .ok (.aload_n 0, 1) := by decide +kernel
theorem d_Painter_drawRows_39 : decode prog_5_method_7_code 39 = .ok (.getfield 25, 3) := by decide +kernel
theorem d_Painter_drawRows_42 : decode prog_5_method_7_code 42 = .ok (.iload_n 1, 1) := by decide +kernel
theorem d_Painter_drawRows_43 : decode prog_5_method_7_code 43 = .ok (.iconst 1, 1) := by decide +kernel
theorem d_Painter_drawRows_44 : decode prog_5_method_7_code 44 = .ok (.iadd, 1) := by decide +kernel
theorem d_Painter_drawRows_45 : decode prog_5_method_7_code 45 = .ok (.iaload, 1) := by decide +kernel
theorem d_Painter_drawRows_46 : decode prog_5_method_7_code 46 = .ok (.aload_n 0, 1) := by decide +kernel
theorem d_Painter_drawRows_47 : decode prog_5_method_7_code 47 = .ok (.getfield 25, 3) := by decide +kernel
theorem d_Painter_drawRows_50 : decode prog_5_method_7_code 50 = .ok (.iload_n 1, 1) := by decide +kernel
theorem d_Painter_drawRows_51 : decode prog_5_method_7_code 51 = .ok (.iaload, 1) := by decide +kernel
theorem d_Painter_drawRows_52 : decode prog_5_method_7_code 52 = .ok (.isub, 1) := by decide +kernel
theorem d_Painter_drawRows_53 : decode prog_5_method_7_code 53 = .ok (.i2l, 1) := by decide +kernel
theorem d_Painter_drawRows_54 : decode prog_5_method_7_code 54 = .ok (.lmul, 1) := by decide +kernel
theorem d_Painter_drawRows_55 : decode prog_5_method_7_code 55 = .ok (.iload_n 2, 1) := by decide +kernel
theorem d_Painter_drawRows_56 : decode prog_5_method_7_code 56 = .ok (.i2l, 1) := by decide +kernel
theorem d_Painter_drawRows_57 : decode prog_5_method_7_code 57 = .ok (.invokestatic 83, 3) := by decide +kernel
theorem d_Painter_drawRows_60 : decode prog_5_method_7_code 60 = .ok (.lstore 7, 2) := by decide +kernel
theorem d_Painter_drawRows_62 : decode prog_5_method_7_code 62 = .ok (.iconst 0, 1) := by decide +kernel
theorem d_Painter_drawRows_63 : decode prog_5_method_7_code 63 = .ok (.iload 4, 2) := by decide +kernel
theorem d_Painter_drawRows_65 : decode prog_5_method_7_code 65 = .ok (.ineg, 1) := by decide +kernel
theorem d_Painter_drawRows_66 : decode prog_5_method_7_code 66 = .ok (.invokestatic 86, 3) := by decide +kernel
theorem d_Painter_drawRows_69 : decode prog_5_method_7_code 69 = .ok (.istore 9, 2) := by decide +kernel
theorem d_Painter_drawRows_71 : decode prog_5_method_7_code 71 = .ok (.iload_n 2, 1) := by decide +kernel
theorem d_Painter_drawRows_72 : decode prog_5_method_7_code 72 = .ok (.bipush 40, 2) := by decide +kernel
theorem d_Painter_drawRows_74 : decode prog_5_method_7_code 74 = .ok (.iload 4, 2) := by decide +kernel
theorem d_Painter_drawRows_76 : decode prog_5_method_7_code 76 = .ok (.isub, 1) := by decide +kernel
theorem d_Painter_drawRows_77 : decode prog_5_method_7_code 77 = .ok (.invokestatic 89, 3) := by decide +kernel
theorem d_Painter_drawRows_80 : decode prog_5_method_7_code 80 = .ok (.istore 10, 2) := by decide +kernel
theorem d_Painter_drawRows_82 : decode prog_5_method_7_code 82 = .ok (.iload 9, 2) := by decide +kernel
theorem d_Painter_drawRows_84 : decode prog_5_method_7_code 84 = .ok (.istore 11, 2) := by decide +kernel
theorem d_Painter_drawRows_86 : decode prog_5_method_7_code 86 = .ok (.iload 11, 2) := by decide +kernel
theorem d_Painter_drawRows_88 : decode prog_5_method_7_code 88 = .ok (.iload 10, 2) := by decide +kernel
theorem d_Painter_drawRows_90 : decode prog_5_method_7_code 90 = .ok (.if_icmp .ge 103, 3) := by decide +kernel
theorem d_Painter_drawRows_93 : decode prog_5_method_7_code 93 = .ok (.aload_n 0, 1) := by decide +kernel
theorem d_Painter_drawRows_94 : decode prog_5_method_7_code 94 = .ok (.getfield 29, 3) := by decide +kernel
theorem d_Painter_drawRows_97 : decode prog_5_method_7_code 97 = .ok (.iload_n 1, 1) := by decide +kernel
theorem d_Painter_drawRows_98 : decode prog_5_method_7_code 98 = .ok (.iaload, 1) := by decide +kernel
theorem d_Painter_drawRows_99 : decode prog_5_method_7_code 99 = .ok (.lload 5, 2) := by decide +kernel
theorem d_Painter_drawRows_101 : decode prog_5_method_7_code 101 = .ok (.iload 11, 2) := by decide +kernel
theorem d_Painter_drawRows_103 : decode prog_5_method_7_code 103 = .ok (.invokestatic 92, 3) := by decide +kernel
theorem d_Painter_drawRows_106 : decode prog_5_method_7_code 106 = .ok (.iconst 0, 1) := by decide +kernel
theorem d_Painter_drawRows_107 : decode prog_5_method_7_code 107 = .ok (.invokestatic 86, 3) := by decide +kernel
theorem d_Painter_drawRows_110 : decode prog_5_method_7_code 110 = .ok (.istore 12, 2) := by decide +kernel
theorem d_Painter_drawRows_112 : decode prog_5_method_7_code 112 = .ok (.aload_n 0, 1) := by decide +kernel
theorem d_Painter_drawRows_113 : decode prog_5_method_7_code 113 = .ok (.getfield 25, 3) := by decide +kernel
theorem d_Painter_drawRows_116 : decode prog_5_method_7_code 116 = .ok (.iload_n 1, 1) := by decide +kernel
theorem d_Painter_drawRows_117 : decode prog_5_method_7_code 117 = .ok (.iaload, 1) := by decide +kernel
theorem d_Painter_drawRows_118 : decode prog_5_method_7_code 118 = .ok (.lload 7, 2) := by decide +kernel
theorem d_Painter_drawRows_120 : decode prog_5_method_7_code 120 = .ok (.iload 11, 2) := by decide +kernel
theorem d_Painter_drawRows_122 : decode prog_5_method_7_code 122 = .ok (.invokestatic 92, 3) := by decide +kernel
theorem d_Painter_drawRows_125 : decode prog_5_method_7_code 125 = .ok (.bipush 63, 2) := by decide +kernel
theorem d_Painter_drawRows_127 : decode prog_5_method_7_code 127 = .ok (.invokestatic 89, 3) := by decide +kernel
theorem d_Painter_drawRows_130 : decode prog_5_method_7_code 130 = .ok (.istore 13, 2) := by decide +kernel
theorem d_Painter_drawRows_132 : decode prog_5_method_7_code 132 = .ok (.iload 12, 2) := by decide +kernel
theorem d_Painter_drawRows_134 : decode prog_5_method_7_code 134 = .ok (.iload 13, 2) := by decide +kernel
theorem d_Painter_drawRows_136 : decode prog_5_method_7_code 136 = .ok (.if_icmp .gt 51, 3) := by decide +kernel
theorem d_Painter_drawRows_139 : decode prog_5_method_7_code 139 = .ok (.aload_n 0, 1) := by decide +kernel
theorem d_Painter_drawRows_140 : decode prog_5_method_7_code 140 = .ok (.getfield 21, 3) := by decide +kernel
theorem d_Painter_drawRows_143 : decode prog_5_method_7_code 143 = .ok (.iload 4, 2) := by decide +kernel
theorem d_Painter_drawRows_145 : decode prog_5_method_7_code 145 = .ok (.iload 11, 2) := by decide +kernel
theorem d_Painter_drawRows_147 : decode prog_5_method_7_code 147 = .ok (.iadd, 1) := by decide +kernel
theorem d_Painter_drawRows_148 : decode prog_5_method_7_code 148 = .ok (.invokevirtual 96, 3) := by decide +kernel
theorem d_Painter_drawRows_151 : decode prog_5_method_7_code 151 = .ok (.istore 14, 2) := by decide +kernel
theorem d_Painter_drawRows_153 : decode prog_5_method_7_code 153 = .ok (.aload_n 0, 1) := by decide +kernel
theorem d_Painter_drawRows_154 : decode prog_5_method_7_code 154 = .ok (.getfield 21, 3) := by decide +kernel
theorem d_Painter_drawRows_157 : decode prog_5_method_7_code 157 = .ok (.getfield 99, 3) := by decide +kernel
theorem d_Painter_drawRows_160 : decode prog_5_method_7_code 160 = .ok (.iload 14, 2) := by decide +kernel
theorem d_Painter_drawRows_162 : decode prog_5_method_7_code 162 = .ok (.iload 12, 2) := by decide +kernel
theorem d_Painter_drawRows_164 : decode prog_5_method_7_code 164 = .ok (.iadd, 1) := by decide +kernel
theorem d_Painter_drawRows_165 : decode prog_5_method_7_code 165 = .ok (.iload 14, 2) := by decide +kernel
theorem d_Painter_drawRows_167 : decode prog_5_method_7_code 167 = .ok (.iload 13, 2) := by decide +kernel
theorem d_Painter_drawRows_169 : decode prog_5_method_7_code 169 = .ok (.iadd, 1) := by decide +kernel
theorem d_Painter_drawRows_170 : decode prog_5_method_7_code 170 = .ok (.iconst 1, 1) := by decide +kernel
theorem d_Painter_drawRows_171 : decode prog_5_method_7_code 171 = .ok (.iadd, 1) := by decide +kernel
theorem d_Painter_drawRows_172 : decode prog_5_method_7_code 172 = .ok (.iload_n 3, 1) := by decide +kernel
theorem d_Painter_drawRows_173 : decode prog_5_method_7_code 173 = .ok (.i2b, 1) := by decide +kernel
theorem d_Painter_drawRows_174 : decode prog_5_method_7_code 174 = .ok (.invokestatic 103, 3) := by decide +kernel
theorem d_Painter_drawRows_177 : decode prog_5_method_7_code 177 = .ok (.aload_n 0, 1) := by decide +kernel
theorem d_Painter_drawRows_178 : decode prog_5_method_7_code 178 = .ok (.dup, 1) := by decide +kernel
theorem d_Painter_drawRows_179 : decode prog_5_method_7_code 179 = .ok (.getfield 42, 3) := by decide +kernel
theorem d_Painter_drawRows_182 : decode prog_5_method_7_code 182 = .ok (.iconst 1, 1) := by decide +kernel
theorem d_Painter_drawRows_183 : decode prog_5_method_7_code 183 = .ok (.iadd, 1) := by decide +kernel
theorem d_Painter_drawRows_184 : decode prog_5_method_7_code 184 = .ok (.putfield 42, 3) := by decide +kernel
theorem d_Painter_drawRows_187 : decode prog_5_method_7_code 187 = .ok (.iinc 11 1, 3) := by decide +kernel
theorem d_Painter_drawRows_190 : decode prog_5_method_7_code 190 = .ok (.goto (-104), 3) := by decide +kernel
theorem d_Painter_drawRows_193 : decode prog_5_method_7_code 193 = .ok (.return_, 1) := by decide +kernel
theorem d_Painter_edgeAt_0 : decode prog_5_method_8_code 0 = .ok (.ldc2_w 81, 3) := by decide +kernel
theorem d_Painter_edgeAt_3 : decode prog_5_method_8_code 3 = .ok (.iload_n 0, 1) := by decide +kernel
theorem d_Painter_edgeAt_4 : decode prog_5_method_8_code 4 = .ok (.i2l, 1) := by decide +kernel
theorem d_Painter_edgeAt_5 : decode prog_5_method_8_code 5 = .ok (.lmul, 1) := by decide +kernel
theorem d_Painter_edgeAt_6 : decode prog_5_method_8_code 6 = .ok (.ldc2_w 109, 3) := by decide +kernel
theorem d_Painter_edgeAt_9 : decode prog_5_method_8_code 9 = .ok (.ladd, 1) := by decide +kernel
theorem d_Painter_edgeAt_10 : decode prog_5_method_8_code 10 = .ok (.iload_n 3, 1) := by decide +kernel
theorem d_Painter_edgeAt_11 : decode prog_5_method_8_code 11 = .ok (.i2l, 1) := by decide +kernel
theorem d_Painter_edgeAt_12 : decode prog_5_method_8_code 12 = .ok (.lload_n 1, 1) := by decide +kernel
theorem d_Painter_edgeAt_13 : decode prog_5_method_8_code 13 = .ok (.lmul, 1) := by decide +kernel
theorem d_Painter_edgeAt_14 : decode prog_5_method_8_code 14 = .ok (.ladd, 1) := by decide +kernel
theorem d_Painter_edgeAt_15 : decode prog_5_method_8_code 15 = .ok (.bipush 16, 2) := by decide +kernel
theorem d_Painter_edgeAt_17 : decode prog_5_method_8_code 17 = .ok (.lshr, 1) := by decide +kernel
theorem d_Painter_edgeAt_18 : decode prog_5_method_8_code 18 = .ok (.l2i, 1) := by decide +kernel
theorem d_Painter_edgeAt_19 : decode prog_5_method_8_code 19 = .ok (.ireturn, 1) := by decide +kernel
theorem d_Painter_scaled_0 : decode prog_5_method_9_code 0 = .ok (.iload_n 0, 1) := by decide +kernel
theorem d_Painter_scaled_1 : decode prog_5_method_9_code 1 = .ok (.iload_n 1, 1) := by decide +kernel
theorem d_Painter_scaled_2 : decode prog_5_method_9_code 2 = .ok (.imul, 1) := by decide +kernel
theorem d_Painter_scaled_3 : decode prog_5_method_9_code 3 = .ok (.bipush 64, 2) := by decide +kernel
theorem d_Painter_scaled_5 : decode prog_5_method_9_code 5 = .ok (.invokestatic 72, 3) := by decide +kernel
theorem d_Painter_scaled_8 : decode prog_5_method_9_code 8 = .ok (.ireturn, 1) := by decide +kernel
theorem d_Player_takeTurn_0 : decode prog_6_method_2_code 0 = .ok (.aload_n 0, 1) := by decide +kernel
theorem d_Player_takeTurn_1 : decode prog_6_method_2_code 1 = .ok (.aload_n 1, 1) := by decide +kernel
theorem d_Player_takeTurn_2 : decode prog_6_method_2_code 2 = .ok (.getfield 44, 3) := by decide +kernel
theorem d_Player_takeTurn_5 : decode prog_6_method_2_code 5 = .ok (.putfield 35, 3) := by decide +kernel
theorem d_Player_takeTurn_8 : decode prog_6_method_2_code 8 = .ok (.aload_n 0, 1) := by decide +kernel
theorem d_Player_takeTurn_9 : decode prog_6_method_2_code 9 = .ok (.iconst 1, 1) := by decide +kernel
theorem d_Player_takeTurn_10 : decode prog_6_method_2_code 10 = .ok (.putfield 39, 3) := by decide +kernel
theorem d_Player_takeTurn_13 : decode prog_6_method_2_code 13 = .ok (.iconst 0, 1) := by decide +kernel
theorem d_Player_takeTurn_14 : decode prog_6_method_2_code 14 = .ok (.istore_n 3, 1) := by decide +kernel
theorem d_Player_takeTurn_15 : decode prog_6_method_2_code 15 = .ok (.iconst 0, 1) := by decide +kernel
theorem d_Player_takeTurn_16 : decode prog_6_method_2_code 16 = .ok (.istore 4, 2) := by decide +kernel
theorem d_Player_takeTurn_18 : decode prog_6_method_2_code 18 = .ok (.iload 4, 2) := by decide +kernel
theorem d_Player_takeTurn_20 : decode prog_6_method_2_code 20 = .ok (.iload_n 2, 1) := by decide +kernel
theorem d_Player_takeTurn_21 : decode prog_6_method_2_code 21 = .ok (.if_icmp .ge 24, 3) := by decide +kernel
theorem d_Player_takeTurn_24 : decode prog_6_method_2_code 24 = .ok (.aload_n 0, 1) := by decide +kernel
theorem d_Player_takeTurn_25 : decode prog_6_method_2_code 25 = .ok (.getfield 39, 3) := by decide +kernel
theorem d_Player_takeTurn_28 : decode prog_6_method_2_code 28 = .ok (.ifCond .eq 17, 3) := by decide +kernel
theorem d_Player_takeTurn_31 : decode prog_6_method_2_code 31 = .ok (.aload_n 0, 1) := by decide +kernel
theorem d_Player_takeTurn_32 : decode prog_6_method_2_code 32 = .ok (.aload_n 1, 1) := by decide +kernel
theorem d_Player_takeTurn_33 : decode prog_6_method_2_code 33 = .ok (.invokevirtual 47, 3) := by decide +kernel
theorem d_Player_takeTurn_36 : decode prog_6_method_2_code 36 = .ok (.iinc 3 1, 3) := by decide +kernel
theorem d_Player_takeTurn_39 : decode prog_6_method_2_code 39 = .ok (.iinc 4 1, 3) := by decide +kernel
theorem d_Player_takeTurn_42 : decode prog_6_method_2_code 42 = .ok (.goto (-24), 3) := by decide +kernel
theorem d_Player_takeTurn_45 : decode prog_6_method_2_code 45 = .ok (.aload_n 1, 1) := by decide +kernel
theorem d_Player_takeTurn_46 : decode prog_6_method_2_code 46 = .ok (.aload_n 0, 1) := by decide +kernel
theorem d_Player_takeTurn_47 : decode prog_6_method_2_code 47 = .ok (.getfield 35, 3) := by decide +kernel
theorem d_Player_takeTurn_50 : decode prog_6_method_2_code 50 = .ok (.putfield 44, 3) := by decide +kernel
theorem d_Player_takeTurn_53 : decode prog_6_method_2_code 53 = .ok (.iload_n 3, 1) := by decide +kernel
theorem d_Player_takeTurn_54 : decode prog_6_method_2_code 54 = .ok (.ireturn, 1) := by decide +kernel
theorem d_Player_doInstruction_0 : decode prog_6_method_3_code 0 = .ok (.aload_n 0, 1) := by decide +kernel
theorem d_Player_doInstruction_1 : decode prog_6_method_3_code 1 = .ok (.invokevirtual 51, 3) := by decide +kernel
theorem d_Player_doInstruction_4 : decode prog_6_method_3_code 4 = .ok (.istore_n 2, 1) := by decide +kernel
theorem d_Player_doInstruction_5 : decode prog_6_method_3_code 5 = .ok (.iload_n 2, 1) := by decide +kernel
theorem d_Player_doInstruction_6 : decode prog_6_method_3_code 6 = .ok (.bipush 8, 2) := by decide +kernel
theorem d_Player_doInstruction_8 : decode prog_6_method_3_code 8 = .ok (.if_icmp .gt 9, 3) := by decide +kernel
theorem d_Player_doInstruction_11 : decode prog_6_method_3_code 11 = .ok (.aload_n 0, 1) := by decide +kernel
theorem d_Player_doInstruction_12 : decode prog_6_method_3_code 12 = .ok (.iload_n 2, 1) := by decide +kernel
theorem d_Player_doInstruction_13 : decode prog_6_method_3_code 13 = .ok (.invokevirtual 55, 3) := by decide +kernel
theorem d_Player_doInstruction_16 : decode prog_6_method_3_code 16 = .ok (.return_, 1) := by decide +kernel
theorem d_Player_doInstruction_17 : decode prog_6_method_3_code 17 = .ok (.iload_n 2, 1) := by decide +kernel
theorem d_Player_doInstruction_18 : decode prog_6_method_3_code 18 = .ok (.tableswitch 157 9 22 #[70, 81, 89, 97, 104, 112, 120, 127, 134, 142, 142, 142, 142, 150], 70) := by decide +kernel
theorem d_Player_doInstruction_88 : decode prog_6_method_3_code 88 = .ok (.aload_n 0, 1) := by decide +kernel
theorem d_Player_doInstruction_89 : decode prog_6_method_3_code 89 = .ok (.aload_n 0, 1) := by decide +kernel
theorem d_Player_doInstruction_90 : decode prog_6_method_3_code 90 = .ok (.invokevirtual 59, 3) := by decide +kernel
theorem d_Player_doInstruction_93 : decode prog_6_method_3_code 93 = .ok (.putfield 35, 3) := by decide +kernel
theorem d_Player_doInstruction_96 : decode prog_6_method_3_code 96 = .ok (.goto 85, 3) := by decide +kernel
theorem d_Player_doInstruction_99 : decode prog_6_method_3_code 99 = .ok (.aload_n 0, 1) := by decide +kernel
theorem d_Player_doInstruction_100 : decode prog_6_method_3_code 100 = .ok (.aload_n 1, 1) := by decide +kernel
theorem d_Player_doInstruction_101 : decode prog_6_method_3_code 101 = .ok (.invokevirtual 62, 3) := by decide +kernel
theorem d_Player_doInstruction_104 : decode prog_6_method_3_code 104 = .ok (.goto 77, 3) := by decide +kernel
theorem d_Player_doInstruction_107 : decode prog_6_method_3_code 107 = .ok (.aload_n 0, 1) := by decide +kernel
theorem d_Player_doInstruction_108 : decode prog_6_method_3_code 108 = .ok (.aload_n 1, 1) := by decide +kernel
theorem d_Player_doInstruction_109 : decode prog_6_method_3_code 109 = .ok (.invokevirtual 65, 3) := by decide +kernel
theorem d_Player_doInstruction_112 : decode prog_6_method_3_code 112 = .ok (.goto 69, 3) := by decide +kernel
theorem d_Player_doInstruction_115 : decode prog_6_method_3_code 115 = .ok (.aload_n 0, 1) := by decide +kernel
theorem d_Player_doInstruction_116 : decode prog_6_method_3_code 116 = .ok (.invokevirtual 68, 3) := by decide +kernel
theorem d_Player_doInstruction_119 : decode prog_6_method_3_code 119 = .ok (.goto 62, 3) := by decide +kernel
theorem d_Player_doInstruction_122 : decode prog_6_method_3_code 122 = .ok (.aload_n 0, 1) := by decide +kernel
theorem d_Player_doInstruction_123 : decode prog_6_method_3_code 123 = .ok (.aload_n 1, 1) := by decide +kernel
theorem d_Player_doInstruction_124 : decode prog_6_method_3_code 124 = .ok (.invokevirtual 71, 3) := by decide +kernel
theorem d_Player_doInstruction_127 : decode prog_6_method_3_code 127 = .ok (.goto 54, 3) := by decide +kernel
theorem d_Player_doInstruction_130 : decode prog_6_method_3_code 130 = .ok (.aload_n 0, 1) := by decide +kernel
theorem d_Player_doInstruction_131 : decode prog_6_method_3_code 131 = .ok (.iconst 0, 1) := by decide +kernel
theorem d_Player_doInstruction_132 : decode prog_6_method_3_code 132 = .ok (.putfield 39, 3) := by decide +kernel
theorem d_Player_doInstruction_135 : decode prog_6_method_3_code 135 = .ok (.goto 46, 3) := by decide +kernel
theorem d_Player_doInstruction_138 : decode prog_6_method_3_code 138 = .ok (.aload_n 0, 1) := by decide +kernel
theorem d_Player_doInstruction_139 : decode prog_6_method_3_code 139 = .ok (.invokevirtual 74, 3) := by decide +kernel
theorem d_Player_doInstruction_142 : decode prog_6_method_3_code 142 = .ok (.goto 39, 3) := by decide +kernel
theorem d_Player_doInstruction_145 : decode prog_6_method_3_code 145 = .ok (.aload_n 0, 1) := by decide +kernel
theorem d_Player_doInstruction_146 : decode prog_6_method_3_code 146 = .ok (.invokevirtual 77, 3) := by decide +kernel
theorem d_Player_doInstruction_149 : decode prog_6_method_3_code 149 = .ok (.goto 32, 3) := by decide +kernel
theorem d_Player_doInstruction_152 : decode prog_6_method_3_code 152 = .ok (.aload_n 0, 1) := by decide +kernel
theorem d_Player_doInstruction_153 : decode prog_6_method_3_code 153 = .ok (.aload_n 1, 1) := by decide +kernel
theorem d_Player_doInstruction_154 : decode prog_6_method_3_code 154 = .ok (.invokevirtual 80, 3) := by decide +kernel
theorem d_Player_doInstruction_157 : decode prog_6_method_3_code 157 = .ok (.goto 24, 3) := by decide +kernel
theorem d_Player_doInstruction_160 : decode prog_6_method_3_code 160 = .ok (.aload_n 0, 1) := by decide +kernel
theorem d_Player_doInstruction_161 : decode prog_6_method_3_code 161 = .ok (.iload_n 2, 1) := by decide +kernel
theorem d_Player_doInstruction_162 : decode prog_6_method_3_code 162 = .ok (.invokevirtual 83, 3) := by decide +kernel
theorem d_Player_doInstruction_165 : decode prog_6_method_3_code 165 = .ok (.goto 16, 3) := by decide +kernel
theorem d_Player_doInstruction_168 : decode prog_6_method_3_code 168 = .ok (.aload_n 0, 1) := by decide +kernel
theorem d_Player_doInstruction_169 : decode prog_6_method_3_code 169 = .ok (.invokevirtual 86, 3) := by decide +kernel
theorem d_Player_doInstruction_172 : decode prog_6_method_3_code 172 = .ok (.goto 9, 3) := by decide +kernel
theorem d_Player_doInstruction_175 : decode prog_6_method_3_code 175 = .ok (.aload_n 0, 1) := by decide +kernel
theorem d_Player_doInstruction_176 : decode prog_6_method_3_code 176 = .ok (.aload_n 1, 1) := by decide +kernel
theorem d_Player_doInstruction_177 : decode prog_6_method_3_code 177 = .ok (.iconst 5, 1) := by decide +kernel
theorem d_Player_doInstruction_178 : decode prog_6_method_3_code 178 = .ok (.invokevirtual 89, 3) := by decide +kernel
theorem d_Player_doInstruction_181 : decode prog_6_method_3_code 181 = .ok (.return_, 1) := by decide +kernel
theorem d_Player_compute_0 : decode prog_6_method_4_code 0 = .ok (.aload_n 0, 1) := by decide +kernel
theorem d_Player_compute_1 : decode prog_6_method_4_code 1 = .ok (.invokevirtual 93, 3) := by decide +kernel
theorem d_Player_compute_4 : decode prog_6_method_4_code 4 = .ok (.istore_n 2, 1) := by decide +kernel
theorem d_Player_compute_5 : decode prog_6_method_4_code 5 = .ok (.iload_n 1, 1) := by decide +kernel
theorem d_Player_compute_6 : decode prog_6_method_4_code 6 = .ok (.tableswitch 202 0 7 #[46, 58, 75, 99, 118, 142, 161, 180], 46) := by decide +kernel
theorem d_Player_compute_52 : decode prog_6_method_4_code 52 = .ok (.aload_n 0, 1) := by decide +kernel
theorem d_Player_compute_53 : decode prog_6_method_4_code 53 = .ok (.iload_n 2, 1) := by decide +kernel
theorem d_Player_compute_54 : decode prog_6_method_4_code 54 = .ok (.aload_n 0, 1) := by decide +kernel
theorem d_Player_compute_55 : decode prog_6_method_4_code 55 = .ok (.invokevirtual 96, 3) := by decide +kernel
theorem d_Player_compute_58 : decode prog_6_method_4_code 58 = .ok (.invokevirtual 99, 3) := by decide +kernel
theorem d_Player_compute_61 : decode prog_6_method_4_code 61 = .ok (.goto 166, 3) := by decide +kernel
theorem d_Player_compute_64 : decode prog_6_method_4_code 64 = .ok (.aload_n 0, 1) := by decide +kernel
theorem d_Player_compute_65 : decode prog_6_method_4_code 65 = .ok (.iload_n 2, 1) := by decide +kernel
theorem d_Player_compute_66 : decode prog_6_method_4_code 66 = .ok (.aload_n 0, 1) := by decide +kernel
theorem d_Player_compute_67 : decode prog_6_method_4_code 67 = .ok (.getfield 18, 3) := by decide +kernel
theorem d_Player_compute_70 : decode prog_6_method_4_code 70 = .ok (.aload_n 0, 1) := by decide +kernel
theorem d_Player_compute_71 : decode prog_6_method_4_code 71 = .ok (.invokevirtual 93, 3) := by decide +kernel
theorem d_Player_compute_74 : decode prog_6_method_4_code 74 = .ok (.iaload, 1) := by decide +kernel
theorem d_Player_compute_75 : decode prog_6_method_4_code 75 = .ok (.invokevirtual 99, 3) := by decide +kernel
theorem d_Player_compute_78 : decode prog_6_method_4_code 78 = .ok (.goto 149, 3) := by decide +kernel
theorem d_Player_compute_81 : decode prog_6_method_4_code 81 = .ok (.aload_n 0, 1) := by decide +kernel
theorem d_Player_compute_82 : decode prog_6_method_4_code 82 = .ok (.iload_n 2, 1) := by decide +kernel
theorem d_Player_compute_83 : decode prog_6_method_4_code 83 = .ok (.aload_n 0, 1) := by decide +kernel
theorem d_Player_compute_84 : decode prog_6_method_4_code 84 = .ok (.getfield 18, 3) := by decide +kernel
theorem d_Player_compute_87 : decode prog_6_method_4_code 87 = .ok (.iload_n 2, 1) := by decide +kernel
theorem d_Player_compute_88 : decode prog_6_method_4_code 88 = .ok (.iaload, 1) := by decide +kernel
theorem d_Player_compute_89 : decode prog_6_method_4_code 89 = .ok (.aload_n 0, 1) := by decide +kernel
theorem d_Player_compute_90 : decode prog_6_method_4_code 90 = .ok (.getfield 18, 3) := by decide +kernel
theorem d_Player_compute_93 : decode prog_6_method_4_code 93 = .ok (.aload_n 0, 1) := by decide +kernel
theorem d_Player_compute_94 : decode prog_6_method_4_code 94 = .ok (.invokevirtual 93, 3) := by decide +kernel
theorem d_Player_compute_97 : decode prog_6_method_4_code 97 = .ok (.iaload, 1) := by decide +kernel
theorem d_Player_compute_98 : decode prog_6_method_4_code 98 = .ok (.iadd, 1) := by decide +kernel
theorem d_Player_compute_99 : decode prog_6_method_4_code 99 = .ok (.invokevirtual 99, 3) := by decide +kernel
theorem d_Player_compute_102 : decode prog_6_method_4_code 102 = .ok (.goto 125, 3) := by decide +kernel
theorem d_Player_compute_105 : decode prog_6_method_4_code 105 = .ok (.aload_n 0, 1) := by decide +kernel
theorem d_Player_compute_106 : decode prog_6_method_4_code 106 = .ok (.iload_n 2, 1) := by decide +kernel
theorem d_Player_compute_107 : decode prog_6_method_4_code 107 = .ok (.aload_n 0, 1) := by decide +kernel
theorem d_Player_compute_108 : decode prog_6_method_4_code 108 = .ok (.getfield 18, 3) := by decide +kernel
theorem d_Player_compute_111 : decode prog_6_method_4_code 111 = .ok (.iload_n 2, 1) := by decide +kernel
theorem d_Player_compute_112 : decode prog_6_method_4_code 112 = .ok (.iaload, 1) := by decide +kernel
theorem d_Player_compute_113 : decode prog_6_method_4_code 113 = .ok (.aload_n 0, 1) := by decide +kernel
theorem d_Player_compute_114 : decode prog_6_method_4_code 114 = .ok (.invokevirtual 96, 3) := by decide +kernel
theorem d_Player_compute_117 : decode prog_6_method_4_code 117 = .ok (.iadd, 1) := by decide +kernel
theorem d_Player_compute_118 : decode prog_6_method_4_code 118 = .ok (.invokevirtual 99, 3) := by decide +kernel
theorem d_Player_compute_121 : decode prog_6_method_4_code 121 = .ok (.goto 106, 3) := by decide +kernel
theorem d_Player_compute_124 : decode prog_6_method_4_code 124 = .ok (.aload_n 0, 1) := by decide +kernel
theorem d_Player_compute_125 : decode prog_6_method_4_code 125 = .ok (.iload_n 2, 1) := by decide +kernel
theorem d_Player_compute_126 : decode prog_6_method_4_code 126 = .ok (.aload_n 0, 1) := by decide +kernel
theorem d_Player_compute_127 : decode prog_6_method_4_code 127 = .ok (.getfield 18, 3) := by decide +kernel
theorem d_Player_compute_130 : decode prog_6_method_4_code 130 = .ok (.iload_n 2, 1) := by decide +kernel
theorem d_Player_compute_131 : decode prog_6_method_4_code 131 = .ok (.iaload, 1) := by decide +kernel
theorem d_Player_compute_132 : decode prog_6_method_4_code 132 = .ok (.aload_n 0, 1) := by decide +kernel
theorem d_Player_compute_133 : decode prog_6_method_4_code 133 = .ok (.getfield 18, 3) := by decide +kernel
theorem d_Player_compute_136 : decode prog_6_method_4_code 136 = .ok (.aload_n 0, 1) := by decide +kernel
theorem d_Player_compute_137 : decode prog_6_method_4_code 137 = .ok (.invokevirtual 93, 3) := by decide +kernel
theorem d_Player_compute_140 : decode prog_6_method_4_code 140 = .ok (.iaload, 1) := by decide +kernel
theorem d_Player_compute_141 : decode prog_6_method_4_code 141 = .ok (.isub, 1) := by decide +kernel
theorem d_Player_compute_142 : decode prog_6_method_4_code 142 = .ok (.invokevirtual 99, 3) := by decide +kernel
theorem d_Player_compute_145 : decode prog_6_method_4_code 145 = .ok (.goto 82, 3) := by decide +kernel
theorem d_Player_compute_148 : decode prog_6_method_4_code 148 = .ok (.aload_n 0, 1) := by decide +kernel
theorem d_Player_compute_149 : decode prog_6_method_4_code 149 = .ok (.iload_n 2, 1) := by decide +kernel
theorem d_Player_compute_150 : decode prog_6_method_4_code 150 = .ok (.aload_n 0, 1) := by decide +kernel
theorem d_Player_compute_151 : decode prog_6_method_4_code 151 = .ok (.getfield 18, 3) := by decide +kernel
theorem d_Player_compute_154 : decode prog_6_method_4_code 154 = .ok (.iload_n 2, 1) := by decide +kernel
theorem d_Player_compute_155 : decode prog_6_method_4_code 155 = .ok (.iaload, 1) := by decide +kernel
theorem d_Player_compute_156 : decode prog_6_method_4_code 156 = .ok (.aload_n 0, 1) := by decide +kernel
theorem d_Player_compute_157 : decode prog_6_method_4_code 157 = .ok (.invokevirtual 96, 3) := by decide +kernel
theorem d_Player_compute_160 : decode prog_6_method_4_code 160 = .ok (.iand, 1) := by decide +kernel
theorem d_Player_compute_161 : decode prog_6_method_4_code 161 = .ok (.invokevirtual 99, 3) := by decide +kernel
theorem d_Player_compute_164 : decode prog_6_method_4_code 164 = .ok (.goto 63, 3) := by decide +kernel
theorem d_Player_compute_167 : decode prog_6_method_4_code 167 = .ok (.aload_n 0, 1) := by decide +kernel
theorem d_Player_compute_168 : decode prog_6_method_4_code 168 = .ok (.iload_n 2, 1) := by decide +kernel
theorem d_Player_compute_169 : decode prog_6_method_4_code 169 = .ok (.aload_n 0, 1) := by decide +kernel
theorem d_Player_compute_170 : decode prog_6_method_4_code 170 = .ok (.getfield 18, 3) := by decide +kernel
theorem d_Player_compute_173 : decode prog_6_method_4_code 173 = .ok (.iload_n 2, 1) := by decide +kernel
theorem d_Player_compute_174 : decode prog_6_method_4_code 174 = .ok (.iaload, 1) := by decide +kernel
theorem d_Player_compute_175 : decode prog_6_method_4_code 175 = .ok (.aload_n 0, 1) := by decide +kernel
theorem d_Player_compute_176 : decode prog_6_method_4_code 176 = .ok (.invokevirtual 96, 3) := by decide +kernel
theorem d_Player_compute_179 : decode prog_6_method_4_code 179 = .ok (.ior, 1) := by decide +kernel
theorem d_Player_compute_180 : decode prog_6_method_4_code 180 = .ok (.invokevirtual 99, 3) := by decide +kernel
theorem d_Player_compute_183 : decode prog_6_method_4_code 183 = .ok (.goto 44, 3) := by decide +kernel
theorem d_Player_compute_186 : decode prog_6_method_4_code 186 = .ok (.aload_n 0, 1) := by decide +kernel
theorem d_Player_compute_187 : decode prog_6_method_4_code 187 = .ok (.iload_n 2, 1) := by decide +kernel
theorem d_Player_compute_188 : decode prog_6_method_4_code 188 = .ok (.aload_n 0, 1) := by decide +kernel
theorem d_Player_compute_189 : decode prog_6_method_4_code 189 = .ok (.getfield 18, 3) := by decide +kernel
theorem d_Player_compute_192 : decode prog_6_method_4_code 192 = .ok (.iload_n 2, 1) := by decide +kernel
theorem d_Player_compute_193 : decode prog_6_method_4_code 193 = .ok (.iaload, 1) := by decide +kernel
theorem d_Player_compute_194 : decode prog_6_method_4_code 194 = .ok (.aload_n 0, 1) := by decide +kernel
theorem d_Player_compute_195 : decode prog_6_method_4_code 195 = .ok (.invokevirtual 51, 3) := by decide +kernel
theorem d_Player_compute_198 : decode prog_6_method_4_code 198 = .ok (.bipush 15, 2) := by decide +kernel
theorem d_Player_compute_200 : decode prog_6_method_4_code 200 = .ok (.iand, 1) := by decide +kernel
theorem d_Player_compute_201 : decode prog_6_method_4_code 201 = .ok (.ishl, 1) := by decide +kernel
theorem d_Player_compute_202 : decode prog_6_method_4_code 202 = .ok (.invokevirtual 99, 3) := by decide +kernel
theorem d_Player_compute_205 : decode prog_6_method_4_code 205 = .ok (.goto 22, 3) := by decide +kernel
theorem d_Player_compute_208 : decode prog_6_method_4_code 208 = .ok (.aload_n 0, 1) := by decide +kernel
theorem d_Player_compute_209 : decode prog_6_method_4_code 209 = .ok (.iload_n 2, 1) := by decide +kernel
theorem d_Player_compute_210 : decode prog_6_method_4_code 210 = .ok (.aload_n 0, 1) := by decide +kernel
theorem d_Player_compute_211 : decode prog_6_method_4_code 211 = .ok (.getfield 18, 3) := by decide +kernel
theorem d_Player_compute_214 : decode prog_6_method_4_code 214 = .ok (.iload_n 2, 1) := by decide +kernel
theorem d_Player_compute_215 : decode prog_6_method_4_code 215 = .ok (.iaload, 1) := by decide +kernel
theorem d_Player_compute_216 : decode prog_6_method_4_code 216 = .ok (.aload_n 0, 1) := by decide +kernel
theorem d_Player_compute_217 : decode prog_6_method_4_code 217 = .ok (.invokevirtual 51, 3) := by decide +kernel
theorem d_Player_compute_220 : decode prog_6_method_4_code 220 = .ok (.bipush 15, 2) := by decide +kernel
theorem d_Player_compute_222 : decode prog_6_method_4_code 222 = .ok (.iand, 1) := by decide +kernel
theorem d_Player_compute_223 : decode prog_6_method_4_code 223 = .ok (.ishr, 1) := by decide +kernel
theorem d_Player_compute_224 : decode prog_6_method_4_code 224 = .ok (.invokevirtual 99, 3) := by decide +kernel
theorem d_Player_compute_227 : decode prog_6_method_4_code 227 = .ok (.return_, 1) := by decide +kernel
theorem d_Player_callAddress_0 : decode prog_6_method_5_code 0 = .ok (.aload_n 0, 1) := by decide +kernel
theorem d_Player_callAddress_1 : decode prog_6_method_5_code 1 = .ok (.invokevirtual 59, 3) := by decide +kernel
theorem d_Player_callAddress_4 : decode prog_6_method_5_code 4 = .ok (.istore_n 2, 1) := by decide +kernel
theorem d_Player_callAddress_5 : decode prog_6_method_5_code 5 = .ok (.aload_n 1, 1) := by decide +kernel
theorem d_Player_callAddress_6 : decode prog_6_method_5_code 6 = .ok (.aload_n 0, 1) := by decide +kernel
theorem d_Player_callAddress_7 : decode prog_6_method_5_code 7 = .ok (.getfield 35, 3) := by decide +kernel
theorem d_Player_callAddress_10 : decode prog_6_method_5_code 10 = .ok (.invokevirtual 103, 3) := by decide +kernel
theorem d_Player_callAddress_13 : decode prog_6_method_5_code 13 = .ok (.ifCond .eq 11, 3) := by decide +kernel
theorem d_Player_callAddress_16 : decode prog_6_method_5_code 16 = .ok (.aload_n 0, 1) := by decide +kernel
theorem d_Player_callAddress_17 : decode prog_6_method_5_code 17 = .ok (.iload_n 2, 1) := by decide +kernel
theorem d_Player_callAddress_18 : decode prog_6_method_5_code 18 = .ok (.putfield 35, 3) := by decide +kernel
theorem d_Player_callAddress_21 : decode prog_6_method_5_code 21 = .ok (.goto 9, 3) := by decide +kernel
theorem d_Player_callAddress_24 : decode prog_6_method_5_code 24 = .ok (.aload_n 0, 1) := by decide +kernel
theorem d_Player_callAddress_25 : decode prog_6_method_5_code 25 = .ok (.aload_n 1, 1) := by decide +kernel
theorem d_Player_callAddress_26 : decode prog_6_method_5_code 26 = .ok (.iconst 1, 1) := by decide +kernel
theorem d_Player_callAddress_27 : decode prog_6_method_5_code 27 = .ok (.invokevirtual 89, 3) := by decide +kernel
theorem d_Player_callAddress_30 : decode prog_6_method_5_code 30 = .ok (.return_, 1) := by decide +kernel
theorem d_Player_comeBack_0 : decode prog_6_method_6_code 0 = .ok (.aload_n 1, 1) := by decide +kernel
theorem d_Player_comeBack_1 : decode prog_6_method_6_code 1 = .ok (.invokevirtual 107, 3) := by decide +kernel
theorem d_Player_comeBack_4 : decode prog_6_method_6_code 4 = .ok (.istore_n 2, 1) := by decide +kernel
theorem d_Player_comeBack_5 : decode prog_6_method_6_code 5 = .ok (.iload_n 2, 1) := by decide +kernel
theorem d_Player_comeBack_6 : decode prog_6_method_6_code 6 = .ok (.iconst (-1), 1) := by decide +kernel
theorem d_Player_comeBack_7 : decode prog_6_method_6_code 7 = .ok (.if_icmp .ne 12, 3) := by decide +kernel
theorem d_Player_comeBack_10 : decode prog_6_method_6_code 10 = .ok (.aload_n 0, 1) := by decide +kernel
theorem d_Player_comeBack_11 : decode prog_6_method_6_code 11 = .ok (.aload_n 1, 1) := by decide +kernel
theorem d_Player_comeBack_12 : decode prog_6_method_6_code 12 = .ok (.iconst 2, 1) := by decide +kernel
theorem d_Player_comeBack_13 : decode prog_6_method_6_code 13 = .ok (.invokevirtual 89, 3) := by decide +kernel
theorem d_Player_comeBack_16 : decode prog_6_method_6_code 16 = .ok (.goto 8, 3) := by decide +kernel
theorem d_Player_comeBack_19 : decode prog_6_method_6_code 19 = .ok (.aload_n 0, 1) := by decide +kernel
theorem d_Player_comeBack_20 : decode prog_6_method_6_code 20 = .ok (.iload_n 2, 1) := by decide +kernel
theorem d_Player_comeBack_21 : decode prog_6_method_6_code 21 = .ok (.putfield 35, 3) := by decide +kernel
theorem d_Player_comeBack_24 : decode prog_6_method_6_code 24 = .ok (.return_, 1) := by decide +kernel
theorem d_Player_loop_0 : decode prog_6_method_7_code 0 = .ok (.aload_n 0, 1) := by decide +kernel
theorem d_Player_loop_1 : decode prog_6_method_7_code 1 = .ok (.invokevirtual 93, 3) := by decide +kernel
theorem d_Player_loop_4 : decode prog_6_method_7_code 4 = .ok (.istore_n 1, 1) := by decide +kernel
theorem d_Player_loop_5 : decode prog_6_method_7_code 5 = .ok (.aload_n 0, 1) := by decide +kernel
theorem d_Player_loop_6 : decode prog_6_method_7_code 6 = .ok (.invokevirtual 59, 3) := by decide +kernel
theorem d_Player_loop_9 : decode prog_6_method_7_code 9 = .ok (.istore_n 2, 1) := by decide +kernel
theorem d_Player_loop_10 : decode prog_6_method_7_code 10 = .ok (.aload_n 0, 1) := by decide +kernel
theorem d_Player_loop_11 : decode prog_6_method_7_code 11 = .ok (.iload_n 1, 1) := by decide +kernel
theorem d_Player_loop_12 : decode prog_6_method_7_code 12 = .ok (.aload_n 0, 1) := by decide +kernel
theorem d_Player_loop_13 : decode prog_6_method_7_code 13 = .ok (.getfield 18, 3) := by decide +kernel
theorem d_Player_loop_16 : decode prog_6_method_7_code 16 = .ok (.iload_n 1, 1) := by decide +kernel
theorem d_Player_loop_17 : decode prog_6_method_7_code 17 = .ok (.iaload, 1) := by decide +kernel
theorem d_Player_loop_18 : decode prog_6_method_7_code 18 = .ok (.iconst 1, 1) := by decide +kernel
theorem d_Player_loop_19 : decode prog_6_method_7_code 19 = .ok (.isub, 1) := by decide +kernel
theorem d_Player_loop_20 : decode prog_6_method_7_code 20 = .ok (.invokevirtual 99, 3) := by decide +kernel
theorem d_Player_loop_23 : decode prog_6_method_7_code 23 = .ok (.aload_n 0, 1) := by decide +kernel
theorem d_Player_loop_24 : decode prog_6_method_7_code 24 = .ok (.getfield 18, 3) := by decide +kernel
theorem d_Player_loop_27 : decode prog_6_method_7_code 27 = .ok (.iload_n 1, 1) := by decide +kernel
theorem d_Player_loop_28 : decode prog_6_method_7_code 28 = .ok (.iaload, 1) := by decide +kernel
theorem d_Player_loop_29 : decode prog_6_method_7_code 29 = .ok (.ifCond .eq 8, 3) := by decide +kernel
theorem d_Player_loop_32 : decode prog_6_method_7_code 32 = .ok (.aload_n 0, 1) := by decide +kernel
theorem d_Player_loop_33 : decode prog_6_method_7_code 33 = .ok (.iload_n 2, 1) := by decide +kernel
theorem d_Player_loop_34 : decode prog_6_method_7_code 34 = .ok (.putfield 35, 3) := by decide +kernel
theorem d_Player_loop_37 : decode prog_6_method_7_code 37 = .ok (.return_, 1) := by decide +kernel
theorem d_Player_jumpIf_0 : decode prog_6_method_8_code 0 = .ok (.aload_n 0, 1) := by decide +kernel
theorem d_Player_jumpIf_1 : decode prog_6_method_8_code 1 = .ok (.invokevirtual 51, 3) := by decide +kernel
theorem d_Player_jumpIf_4 : decode prog_6_method_8_code 4 = .ok (.istore_n 2, 1) := by decide +kernel
theorem d_Player_jumpIf_5 : decode prog_6_method_8_code 5 = .ok (.aload_n 0, 1) := by decide +kernel
theorem d_Player_jumpIf_6 : decode prog_6_method_8_code 6 = .ok (.getfield 18, 3) := by decide +kernel
theorem d_Player_jumpIf_9 : decode prog_6_method_8_code 9 = .ok (.aload_n 0, 1) := by decide +kernel
theorem d_Player_jumpIf_10 : decode prog_6_method_8_code 10 = .ok (.invokevirtual 93, 3) := by decide +kernel
theorem d_Player_jumpIf_13 : decode prog_6_method_8_code 13 = .ok (.iaload, 1) := by decide +kernel
theorem d_Player_jumpIf_14 : decode prog_6_method_8_code 14 = .ok (.istore_n 3, 1) := by decide +kernel
theorem d_Player_jumpIf_15 : decode prog_6_method_8_code 15 = .ok (.aload_n 0, 1) := by decide +kernel
theorem d_Player_jumpIf_16 : decode prog_6_method_8_code 16 = .ok (.iload_n 2, 1) := by decide +kernel
theorem d_Player_jumpIf_17 : decode prog_6_method_8_code 17 = .ok (.invokevirtual 110, 3) := by decide +kernel
theorem d_Player_jumpIf_20 : decode prog_6_method_8_code 20 = .ok (.istore 4, 2) := by decide +kernel
theorem d_Player_jumpIf_22 : decode prog_6_method_8_code 22 = .ok (.iload_n 2, 1) := by decide +kernel
theorem d_Player_jumpIf_23 : decode prog_6_method_8_code 23 = .ok (.bipush 7, 2) := by decide +kernel
theorem d_Player_jumpIf_25 : decode prog_6_method_8_code 25 = .ok (.iand, 1) := by decide +kernel
theorem d_Player_jumpIf_26 : decode prog_6_method_8_code 26 = .ok (.istore 5, 2) := by decide +kernel
theorem d_Player_jumpIf_28 : decode prog_6_method_8_code 28 = .ok (.iload 5, 2) := by decide +kernel
theorem d_Player_jumpIf_30 : decode prog_6_method_8_code 30 = .ok (.iconst 5, 1) := by decide +kernel
theorem d_Player_jumpIf_31 : decode prog_6_method_8_code 31 = .ok (.if_icmp .le 10, 3) := by decide +kernel
theorem d_Player_jumpIf_34 : decode prog_6_method_8_code 34 = .ok (.aload_n 0, 1) := by decide +kernel
theorem d_Player_jumpIf_35 : decode prog_6_method_8_code 35 = .ok (.aload_n 1, 1) := by decide +kernel
theorem d_Player_jumpIf_36 : decode prog_6_method_8_code 36 = .ok (.iconst 3, 1) := by decide +kernel
theorem d_Player_jumpIf_37 : decode prog_6_method_8_code 37 = .ok (.invokevirtual 89, 3) := by decide +kernel
theorem d_Player_jumpIf_40 : decode prog_6_method_8_code 40 = .ok (.return_, 1) := by decide +kernel
theorem d_Player_jumpIf_41 : decode prog_6_method_8_code 41 = .ok (.aload_n 0, 1) := by decide +kernel
theorem d_Player_jumpIf_42 : decode prog_6_method_8_code 42 = .ok (.invokevirtual 59, 3) := by decide +kernel
theorem d_Player_jumpIf_45 : decode prog_6_method_8_code 45 = .ok (.istore 6, 2) := by decide +kernel
theorem d_Player_jumpIf_47 : decode prog_6_method_8_code 47 = .ok (.iload 5, 2) := by decide +kernel
theorem d_Player_jumpIf_49 : decode prog_6_method_8_code 49 = .ok (.iload_n 3, 1) := by decide +kernel
theorem d_Player_jumpIf_50 : decode prog_6_method_8_code 50 = .ok (.iload 4, 2) := by decide +kernel
theorem d_Player_jumpIf_52 : decode prog_6_method_8_code 52 = .ok (.invokestatic 114, 3) := by decide +kernel
theorem d_Player_jumpIf_55 : decode prog_6_method_8_code 55 = .ok (.ifCond .eq 9, 3) := by decide +kernel
theorem d_Player_jumpIf_58 : decode prog_6_method_8_code 58 = .ok (.aload_n 0, 1) := by decide +kernel
theorem d_Player_jumpIf_59 : decode prog_6_method_8_code 59 = .ok (.iload 6, 2) := by decide +kernel
theorem d_Player_jumpIf_61 : decode prog_6_method_8_code 61 = .ok (.putfield 35, 3) := by decide +kernel
theorem d_Player_jumpIf_64 : decode prog_6_method_8_code 64 = .ok (.return_, 1) := by decide +kernel
theorem d_Player_nextCompared_0 : decode prog_6_method_9_code 0 = .ok (.iload_n 1, 1) := by decide +kernel
theorem d_Player_nextCompared_1 : decode prog_6_method_9_code 1 = .ok (.sipush 128, 3) := by decide +kernel
theorem d_Player_nextCompared_4 : decode prog_6_method_9_code 4 = .ok (.iand, 1) := by decide +kernel
theorem d_Player_nextCompared_5 : decode prog_6_method_9_code 5 = .ok (.ifCond .eq 13, 3) := by decide +kernel
theorem d_Player_nextCompared_8 : decode prog_6_method_9_code 8 = .ok (.aload_n 0, 1) := by decide +kernel
theorem d_Player_nextCompared_9 : decode prog_6_method_9_code 9 = .ok (.getfield 18, 3) := by decide +kernel
theorem d_Player_nextCompared_12 : decode prog_6_method_9_code 12 = .ok (.aload_n 0, 1) := by decide +kernel
theorem d_Player_nextCompared_13 : decode prog_6_method_9_code 13 = .ok (.invokevirtual 93, 3) := by decide +kernel
theorem d_Player_nextCompared_16 : decode prog_6_method_9_code 16 = .ok (.iaload, 1) := by decide +kernel
theorem d_Player_nextCompared_17 : decode prog_6_method_9_code 17 = .ok (.ireturn, 1) := by decide +kernel
theorem d_Player_nextCompared_18 : decode prog_6_method_9_code 18 = .ok (.iload_n 1, 1) := by decide +kernel
theorem d_Player_nextCompared_19 : decode prog_6_method_9_code 19 = .ok (.bipush 64, 2) := by decide +kernel
theorem d_Player_nextCompared_21 : decode prog_6_method_9_code 21 = .ok (.iand, 1) := by decide +kernel
theorem d_Player_nextCompared_22 : decode prog_6_method_9_code 22 = .ok (.ifCond .eq 10, 3) := by decide +kernel
theorem d_Player_nextCompared_25 : decode prog_6_method_9_code 25 = .ok (.aload_n 0, 1) := by decide +kernel
theorem d_Player_nextCompared_26 : decode prog_6_method_9_code 26 = .ok (.invokevirtual 96, 3) := by decide +kernel
theorem d_Player_nextCompared_29 : decode prog_6_method_9_code 29 = .ok (.goto 7, 3) := by decide +kernel
theorem d_Player_nextCompared_32 : decode prog_6_method_9_code 32 = .ok (.aload_n 0, 1) := by decide +kernel
theorem d_Player_nextCompared_33 : decode prog_6_method_9_code 33 = .ok (.invokevirtual 51, 3) := by decide +kernel
theorem d_Player_nextCompared_36 : decode prog_6_method_9_code 36 = .ok (.ireturn, 1) := by decide +kernel
theorem d_Player_compares_0 : decode prog_6_method_10_code 0 = .ok (.iload_n 0, 1) := by decide +kernel
theorem d_Player_compares_1 : decode prog_6_method_10_code 1 = .ok (.tableswitch 90 0 4 #[35, 46, 57, 68, 79], 35) := by decide +kernel
theorem d_Player_compares_36 : decode prog_6_method_10_code 36 = .ok (.iload_n 1, 1) := by decide +kernel
theorem d_Player_compares_37 : decode prog_6_method_10_code 37 = .ok (.iload_n 2, 1) := by decide +kernel
theorem d_Player_compares_38 : decode prog_6_method_10_code 38 = .ok (.if_icmp .ne 7, 3) := by decide +kernel
theorem d_Player_compares_41 : decode prog_6_method_10_code 41 = .ok (.iconst 1, 1) := by decide +kernel
theorem d_Player_compares_42 : decode prog_6_method_10_code 42 = .ok (.goto 4, 3) := by decide +kernel
theorem d_Player_compares_45 : decode prog_6_method_10_code 45 = .ok (.iconst 0, 1) := by decide +kernel
theorem d_Player_compares_46 : decode prog_6_method_10_code 46 = .ok (.ireturn, 1) := by decide +kernel
theorem d_Player_compares_47 : decode prog_6_method_10_code 47 = .ok (.iload_n 1, 1) := by decide +kernel
theorem d_Player_compares_48 : decode prog_6_method_10_code 48 = .ok (.iload_n 2, 1) := by decide +kernel
theorem d_Player_compares_49 : decode prog_6_method_10_code 49 = .ok (.if_icmp .eq 7, 3) := by decide +kernel
theorem d_Player_compares_52 : decode prog_6_method_10_code 52 = .ok (.iconst 1, 1) := by decide +kernel
theorem d_Player_compares_53 : decode prog_6_method_10_code 53 = .ok (.goto 4, 3) := by decide +kernel
theorem d_Player_compares_56 : decode prog_6_method_10_code 56 = .ok (.iconst 0, 1) := by decide +kernel
theorem d_Player_compares_57 : decode prog_6_method_10_code 57 = .ok (.ireturn, 1) := by decide +kernel
theorem d_Player_compares_58 : decode prog_6_method_10_code 58 = .ok (.iload_n 1, 1) := by decide +kernel
theorem d_Player_compares_59 : decode prog_6_method_10_code 59 = .ok (.iload_n 2, 1) := by decide +kernel
theorem d_Player_compares_60 : decode prog_6_method_10_code 60 = .ok (.if_icmp .le 7, 3) := by decide +kernel
theorem d_Player_compares_63 : decode prog_6_method_10_code 63 = .ok (.iconst 1, 1) := by decide +kernel
theorem d_Player_compares_64 : decode prog_6_method_10_code 64 = .ok (.goto 4, 3) := by decide +kernel
theorem d_Player_compares_67 : decode prog_6_method_10_code 67 = .ok (.iconst 0, 1) := by decide +kernel
theorem d_Player_compares_68 : decode prog_6_method_10_code 68 = .ok (.ireturn, 1) := by decide +kernel
theorem d_Player_compares_69 : decode prog_6_method_10_code 69 = .ok (.iload_n 1, 1) := by decide +kernel
theorem d_Player_compares_70 : decode prog_6_method_10_code 70 = .ok (.iload_n 2, 1) := by decide +kernel
theorem d_Player_compares_71 : decode prog_6_method_10_code 71 = .ok (.if_icmp .lt 7, 3) := by decide +kernel
theorem d_Player_compares_74 : decode prog_6_method_10_code 74 = .ok (.iconst 1, 1) := by decide +kernel
theorem d_Player_compares_75 : decode prog_6_method_10_code 75 = .ok (.goto 4, 3) := by decide +kernel
theorem d_Player_compares_78 : decode prog_6_method_10_code 78 = .ok (.iconst 0, 1) := by decide +kernel
theorem d_Player_compares_79 : decode prog_6_method_10_code 79 = .ok (.ireturn, 1) := by decide +kernel
theorem d_Player_compares_80 : decode prog_6_method_10_code 80 = .ok (.iload_n 1, 1) := by decide +kernel
theorem d_Player_compares_81 : decode prog_6_method_10_code 81 = .ok (.iload_n 2, 1) := by decide +kernel
theorem d_Player_compares_82 : decode prog_6_method_10_code 82 = .ok (.if_icmp .ge 7, 3) := by decide +kernel
theorem d_Player_compares_85 : decode prog_6_method_10_code 85 = .ok (.iconst 1, 1) := by decide +kernel
theorem d_Player_compares_86 : decode prog_6_method_10_code 86 = .ok (.goto 4, 3) := by decide +kernel
theorem d_Player_compares_89 : decode prog_6_method_10_code 89 = .ok (.iconst 0, 1) := by decide +kernel
theorem d_Player_compares_90 : decode prog_6_method_10_code 90 = .ok (.ireturn, 1) := by decide +kernel
theorem d_Player_compares_91 : decode prog_6_method_10_code 91 = .ok (.iload_n 1, 1) := by decide +kernel
theorem d_Player_compares_92 : decode prog_6_method_10_code 92 = .ok (.iload_n 2, 1) := by decide +kernel
theorem d_Player_compares_93 : decode prog_6_method_10_code 93 = .ok (.if_icmp .gt 7, 3) := by decide +kernel
theorem d_Player_compares_96 : decode prog_6_method_10_code 96 = .ok (.iconst 1, 1) := by decide +kernel
theorem d_Player_compares_97 : decode prog_6_method_10_code 97 = .ok (.goto 4, 3) := by decide +kernel
theorem d_Player_compares_100 : decode prog_6_method_10_code 100 = .ok (.iconst 0, 1) := by decide +kernel
theorem d_Player_compares_101 : decode prog_6_method_10_code 101 = .ok (.ireturn, 1) := by decide +kernel
theorem d_Player_startOther_0 : decode prog_6_method_11_code 0 = .ok (.aload_n 0, 1) := by decide +kernel
theorem d_Player_startOther_1 : decode prog_6_method_11_code 1 = .ok (.invokevirtual 51, 3) := by decide +kernel
theorem d_Player_startOther_4 : decode prog_6_method_11_code 4 = .ok (.bipush 15, 2) := by decide +kernel
theorem d_Player_startOther_6 : decode prog_6_method_11_code 6 = .ok (.iand, 1) := by decide +kernel
theorem d_Player_startOther_7 : decode prog_6_method_11_code 7 = .ok (.istore_n 1, 1) := by decide +kernel
theorem d_Player_startOther_8 : decode prog_6_method_11_code 8 = .ok (.aload_n 0, 1) := by decide +kernel
theorem d_Player_startOther_9 : decode prog_6_method_11_code 9 = .ok (.getfield 24, 3) := by decide +kernel
theorem d_Player_startOther_12 : decode prog_6_method_11_code 12 = .ok (.iload_n 1, 1) := by decide +kernel
theorem d_Player_startOther_13 : decode prog_6_method_11_code 13 = .ok (.aaload, 1) := by decide +kernel
theorem d_Player_startOther_14 : decode prog_6_method_11_code 14 = .ok (.aload_n 0, 1) := by decide +kernel
theorem d_Player_startOther_15 : decode prog_6_method_11_code 15 = .ok (.invokevirtual 59, 3) := by decide +kernel
theorem d_Player_startOther_18 : decode prog_6_method_11_code 18 = .ok (.putfield 118, 3) := by decide +kernel
theorem d_Player_startOther_21 : decode prog_6_method_11_code 21 = .ok (.return_, 1) := by decide +kernel
theorem d_Player_askOfEach_0 : decode prog_6_method_12_code 0 = .ok (.aload_n 0, 1) := by decide +kernel
theorem d_Player_askOfEach_1 : decode prog_6_method_12_code 1 = .ok (.invokevirtual 51, 3) := by decide +kernel
theorem d_Player_askOfEach_4 : decode prog_6_method_12_code 4 = .ok (.bipush 15, 2) := by decide +kernel
theorem d_Player_askOfEach_6 : decode prog_6_method_12_code 6 = .ok (.iand, 1) := by decide +kernel
theorem d_Player_askOfEach_7 : decode prog_6_method_12_code 7 = .ok (.istore_n 2, 1) := by decide +kernel
theorem d_Player_askOfEach_8 : decode prog_6_method_12_code 8 = .ok (.aload_n 0, 1) := by decide +kernel
theorem d_Player_askOfEach_9 : decode prog_6_method_12_code 9 = .ok (.invokevirtual 51, 3) := by decide +kernel
theorem d_Player_askOfEach_12 : decode prog_6_method_12_code 12 = .ok (.bipush 15, 2) := by decide +kernel
theorem d_Player_askOfEach_14 : decode prog_6_method_12_code 14 = .ok (.iand, 1) := by decide +kernel
theorem d_Player_askOfEach_15 : decode prog_6_method_12_code 15 = .ok (.istore_n 3, 1) := by decide +kernel
theorem d_Player_askOfEach_16 : decode prog_6_method_12_code 16 = .ok (.aload_n 0, 1) := by decide +kernel
theorem d_Player_askOfEach_17 : decode prog_6_method_12_code 17 = .ok (.invokevirtual 51, 3) := by decide +kernel
theorem d_Player_askOfEach_20 : decode prog_6_method_12_code 20 = .ok (.istore 4, 2) := by decide +kernel
theorem d_Player_askOfEach_22 : decode prog_6_method_12_code 22 = .ok (.iload 4, 2) := by decide +kernel
theorem d_Player_askOfEach_24 : decode prog_6_method_12_code 24 = .ok (.iconst 2, 1) := by decide +kernel
theorem d_Player_askOfEach_25 : decode prog_6_method_12_code 25 = .ok (.if_icmp .le 10, 3) := by decide +kernel
theorem d_Player_askOfEach_28 : decode prog_6_method_12_code 28 = .ok (.aload_n 0, 1) := by decide +kernel
theorem d_Player_askOfEach_29 : decode prog_6_method_12_code 29 = .ok (.aload_n 1, 1) := by decide +kernel
theorem d_Player_askOfEach_30 : decode prog_6_method_12_code 30 = .ok (.iconst 4, 1) := by decide +kernel
theorem d_Player_askOfEach_31 : decode prog_6_method_12_code 31 = .ok (.invokevirtual 89, 3) := by decide +kernel
theorem d_Player_askOfEach_34 : decode prog_6_method_12_code 34 = .ok (.return_, 1) := by decide +kernel
theorem d_Player_askOfEach_35 : decode prog_6_method_12_code 35 = .ok (.iload_n 2, 1) := by decide +kernel
theorem d_Player_askOfEach_36 : decode prog_6_method_12_code 36 = .ok (.istore 5, 2) := by decide +kernel
theorem d_Player_askOfEach_38 : decode prog_6_method_12_code 38 = .ok (.iload 5, 2) := by decide +kernel
theorem d_Player_askOfEach_40 : decode prog_6_method_12_code 40 = .ok (.iload_n 3, 1) := by decide +kernel
theorem d_Player_askOfEach_41 : decode prog_6_method_12_code 41 = .ok (.if_icmp .gt 41, 3) := by decide +kernel
theorem d_Player_askOfEach_44 : decode prog_6_method_12_code 44 = .ok (.iload 4, 2) := by decide +kernel
theorem d_Player_askOfEach_46 : decode prog_6_method_12_code 46 = .ok (.iconst 2, 1) := by decide +kernel
theorem d_Player_askOfEach_47 : decode prog_6_method_12_code 47 = .ok (.if_icmp .ne 17, 3) := by decide +kernel
theorem d_Player_askOfEach_50 : decode prog_6_method_12_code 50 = .ok (.aload_n 0, 1) := by decide +kernel
theorem d_Player_askOfEach_51 : decode prog_6_method_12_code 51 = .ok (.getfield 24, 3) := by decide +kernel
theorem d_Player_askOfEach_54 : decode prog_6_method_12_code 54 = .ok (.iload 5, 2) := by decide +kernel
theorem d_Player_askOfEach_56 : decode prog_6_method_12_code 56 = .ok (.aaload, 1) := by decide +kernel
theorem d_Player_askOfEach_57 : decode prog_6_method_12_code 57 = .ok (.iconst (-1), 1) := by decide +kernel
theorem d_Player_askOfEach_58 : decode prog_6_method_12_code 58 = .ok (.putfield 118, 3) := by decide +kernel
theorem d_Player_askOfEach_61 : decode prog_6_method_12_code 61 = .ok (.goto 15, 3) := by decide +kernel
theorem d_Player_askOfEach_64 : decode prog_6_method_12_code 64 = .ok (.aload_n 0, 1) := by decide +kernel
theorem d_Player_askOfEach_65 : decode prog_6_method_12_code 65 = .ok (.getfield 24, 3) := by decide +kernel
theorem d_Player_askOfEach_68 : decode prog_6_method_12_code 68 = .ok (.iload 5, 2) := by decide +kernel
theorem d_Player_askOfEach_70 : decode prog_6_method_12_code 70 = .ok (.aaload, 1) := by decide +kernel
theorem d_Player_askOfEach_71 : decode prog_6_method_12_code 71 = .ok (.iload 4, 2) := by decide +kernel
theorem d_Player_askOfEach_73 : decode prog_6_method_12_code 73 = .ok (.putfield 121, 3) := by decide +kernel
theorem d_Player_askOfEach_76 : decode prog_6_method_12_code 76 = .ok (.iinc 5 1, 3) := by decide +kernel
theorem d_Player_askOfEach_79 : decode prog_6_method_12_code 79 = .ok (.goto (-41), 3) := by decide +kernel
theorem d_Player_askOfEach_82 : decode prog_6_method_12_code 82 = .ok (.return_, 1) := by decide +kernel
theorem d_Player_handlePages_0 : decode prog_6_method_13_code 0 = .ok (.aload_n 0, 1) := by decide +kernel
theorem d_Player_handlePages_1 : decode prog_6_method_13_code 1 = .ok (.getfield 31, 3) := by decide +kernel
theorem d_Player_handlePages_4 : decode prog_6_method_13_code 4 = .ok (.getfield 124, 3) := by decide +kernel
theorem d_Player_handlePages_7 : decode prog_6_method_13_code 7 = .ok (.astore_n 2, 1) := by decide +kernel
theorem d_Player_handlePages_8 : decode prog_6_method_13_code 8 = .ok (.aload_n 2, 1) := by decide +kernel
theorem d_Player_handlePages_9 : decode prog_6_method_13_code 9 = .ok (.aload_n 0, 1) := by decide +kernel
theorem d_Player_handlePages_10 : decode prog_6_method_13_code 10 = .ok (.invokevirtual 51, 3) := by decide +kernel
theorem d_Player_handlePages_13 : decode prog_6_method_13_code 13 = .ok (.invokevirtual 128, 3) := by decide +kernel
theorem d_Player_handlePages_16 : decode prog_6_method_13_code 16 = .ok (.istore_n 3, 1) := by decide +kernel
theorem d_Player_handlePages_17 : decode prog_6_method_13_code 17 = .ok (.iload_n 1, 1) := by decide +kernel
theorem d_Player_handlePages_18 : decode prog_6_method_13_code 18 = .ok (.tableswitch 65 18 20 #[26, 34, 49], 26) := by decide +kernel
theorem d_Player_handlePages_44 : decode prog_6_method_13_code 44 = .ok (.aload_n 2, 1) := by decide +kernel
theorem d_Player_handlePages_45 : decode prog_6_method_13_code 45 = .ok (.iload_n 3, 1) := by decide +kernel
theorem d_Player_handlePages_46 : decode prog_6_method_13_code 46 = .ok (.putfield 133, 3) := by decide +kernel
theorem d_Player_handlePages_49 : decode prog_6_method_13_code 49 = .ok (.goto 39, 3) := by decide +kernel
theorem d_Player_handlePages_52 : decode prog_6_method_13_code 52 = .ok (.aload_n 2, 1) := by decide +kernel
theorem d_Player_handlePages_53 : decode prog_6_method_13_code 53 = .ok (.iload_n 3, 1) := by decide +kernel
theorem d_Player_handlePages_54 : decode prog_6_method_13_code 54 = .ok (.aload_n 0, 1) := by decide +kernel
theorem d_Player_handlePages_55 : decode prog_6_method_13_code 55 = .ok (.invokevirtual 51, 3) := by decide +kernel
theorem d_Player_handlePages_58 : decode prog_6_method_13_code 58 = .ok (.bipush 15, 2) := by decide +kernel
theorem d_Player_handlePages_60 : decode prog_6_method_13_code 60 = .ok (.iand, 1) := by decide +kernel
theorem d_Player_handlePages_61 : decode prog_6_method_13_code 61 = .ok (.invokevirtual 136, 3) := by decide +kernel
theorem d_Player_handlePages_64 : decode prog_6_method_13_code 64 = .ok (.goto 24, 3) := by decide +kernel
theorem d_Player_handlePages_67 : decode prog_6_method_13_code 67 = .ok (.aload_n 2, 1) := by decide +kernel
theorem d_Player_handlePages_68 : decode prog_6_method_13_code 68 = .ok (.iload_n 3, 1) := by decide +kernel
theorem d_Player_handlePages_69 : decode prog_6_method_13_code 69 = .ok (.aload_n 2, 1) := by decide +kernel
theorem d_Player_handlePages_70 : decode prog_6_method_13_code 70 = .ok (.aload_n 0, 1) := by decide +kernel
theorem d_Player_handlePages_71 : decode prog_6_method_13_code 71 = .ok (.invokevirtual 51, 3) := by decide +kernel
theorem d_Player_handlePages_74 : decode prog_6_method_13_code 74 = .ok (.invokevirtual 128, 3) := by decide +kernel
theorem d_Player_handlePages_77 : decode prog_6_method_13_code 77 = .ok (.invokevirtual 139, 3) := by decide +kernel
theorem d_Player_handlePages_80 : decode prog_6_method_13_code 80 = .ok (.goto 8, 3) := by decide +kernel
theorem d_Player_handlePages_83 : decode prog_6_method_13_code 83 = .ok (.aload_n 2, 1) := by decide +kernel
theorem d_Player_handlePages_84 : decode prog_6_method_13_code 84 = .ok (.iload_n 3, 1) := by decide +kernel
theorem d_Player_handlePages_85 : decode prog_6_method_13_code 85 = .ok (.putfield 142, 3) := by decide +kernel
theorem d_Player_handlePages_88 : decode prog_6_method_13_code 88 = .ok (.return_, 1) := by decide +kernel
theorem d_Player_draw_0 : decode prog_6_method_14_code 0 = .ok (.aload_n 0, 1) := by decide +kernel
theorem d_Player_draw_1 : decode prog_6_method_14_code 1 = .ok (.invokevirtual 59, 3) := by decide +kernel
theorem d_Player_draw_4 : decode prog_6_method_14_code 4 = .ok (.istore_n 1, 1) := by decide +kernel
theorem d_Player_draw_5 : decode prog_6_method_14_code 5 = .ok (.aload_n 0, 1) := by decide +kernel
theorem d_Player_draw_6 : decode prog_6_method_14_code 6 = .ok (.getfield 18, 3) := by decide +kernel
theorem d_Player_draw_9 : decode prog_6_method_14_code 9 = .ok (.aload_n 0, 1) := by decide +kernel
theorem d_Player_draw_10 : decode prog_6_method_14_code 10 = .ok (.invokevirtual 93, 3) := by decide +kernel
theorem d_Player_draw_13 : decode prog_6_method_14_code 13 = .ok (.iaload, 1) := by decide +kernel
theorem d_Player_draw_14 : decode prog_6_method_14_code 14 = .ok (.istore_n 2, 1) := by decide +kernel
theorem d_Player_draw_15 : decode prog_6_method_14_code 15 = .ok (.aload_n 0, 1) := by decide +kernel
theorem d_Player_draw_16 : decode prog_6_method_14_code 16 = .ok (.getfield 18, 3) := by decide +kernel
theorem d_Player_draw_19 : decode prog_6_method_14_code 19 = .ok (.aload_n 0, 1) := by decide +kernel
theorem d_Player_draw_20 : decode prog_6_method_14_code 20 = .ok (.invokevirtual 93, 3) := by decide +kernel
theorem d_Player_draw_23 : decode prog_6_method_14_code 23 = .ok (.iaload, 1) := by decide +kernel
theorem d_Player_draw_24 : decode prog_6_method_14_code 24 = .ok (.istore_n 3, 1) := by decide +kernel
theorem d_Player_draw_25 : decode prog_6_method_14_code 25 = .ok (.aload_n 0, 1) := by decide +kernel
theorem d_Player_draw_26 : decode prog_6_method_14_code 26 = .ok (.invokevirtual 51, 3) := by decide +kernel
theorem d_Player_draw_29 : decode prog_6_method_14_code 29 = .ok (.istore 4, 2) := by decide +kernel
theorem d_Player_draw_31 : decode prog_6_method_14_code 31 = .ok (.iload 4, 2) := by decide +kernel
theorem d_Player_draw_33 : decode prog_6_method_14_code 33 = .ok (.sipush 128, 3) := by decide +kernel
theorem d_Player_draw_36 : decode prog_6_method_14_code 36 = .ok (.if_icmp .ge 16, 3) := by decide +kernel
theorem d_Player_draw_39 : decode prog_6_method_14_code 39 = .ok (.aload_n 0, 1) := by decide +kernel
theorem d_Player_draw_40 : decode prog_6_method_14_code 40 = .ok (.getfield 18, 3) := by decide +kernel
theorem d_Player_draw_43 : decode prog_6_method_14_code 43 = .ok (.iload 4, 2) := by decide +kernel
theorem d_Player_draw_45 : decode prog_6_method_14_code 45 = .ok (.bipush 31, 2) := by decide +kernel
theorem d_Player_draw_47 : decode prog_6_method_14_code 47 = .ok (.iand, 1) := by decide +kernel
theorem d_Player_draw_48 : decode prog_6_method_14_code 48 = .ok (.iaload, 1) := by decide +kernel
theorem d_Player_draw_49 : decode prog_6_method_14_code 49 = .ok (.goto 5, 3) := by decide +kernel
theorem d_Player_draw_52 : decode prog_6_method_14_code 52 = .ok (.bipush 64, 2) := by decide +kernel
theorem d_Player_draw_54 : decode prog_6_method_14_code 54 = .ok (.istore 5, 2) := by decide +kernel
theorem d_Player_draw_56 : decode prog_6_method_14_code 56 = .ok (.aload_n 0, 1) := by decide +kernel
theorem d_Player_draw_57 : decode prog_6_method_14_code 57 = .ok (.getfield 31, 3) := by decide +kernel
theorem d_Player_draw_60 : decode prog_6_method_14_code 60 = .ok (.iconst 0, 1) := by decide +kernel
theorem d_Player_draw_61 : decode prog_6_method_14_code 61 = .ok (.putfield 145, 3) := by decide +kernel
theorem d_Player_draw_64 : decode prog_6_method_14_code 64 = .ok (.aload_n 0, 1) := by decide +kernel
theorem d_Player_draw_65 : decode prog_6_method_14_code 65 = .ok (.getfield 31, 3) := by decide +kernel
theorem d_Player_draw_68 : decode prog_6_method_14_code 68 = .ok (.iload_n 1, 1) := by decide +kernel
theorem d_Player_draw_69 : decode prog_6_method_14_code 69 = .ok (.iload_n 2, 1) := by decide +kernel
theorem d_Player_draw_70 : decode prog_6_method_14_code 70 = .ok (.iload_n 3, 1) := by decide +kernel
theorem d_Player_draw_71 : decode prog_6_method_14_code 71 = .ok (.iload 5, 2) := by decide +kernel
theorem d_Player_draw_73 : decode prog_6_method_14_code 73 = .ok (.iconst (-1), 1) := by decide +kernel
theorem d_Player_draw_74 : decode prog_6_method_14_code 74 = .ok (.iconst 0, 1) := by decide +kernel
theorem d_Player_draw_75 : decode prog_6_method_14_code 75 = .ok (.invokevirtual 148, 3) := by decide +kernel
theorem d_Player_draw_78 : decode prog_6_method_14_code 78 = .ok (.return_, 1) := by decide +kernel
theorem d_Player_fail_0 : decode prog_6_method_15_code 0 = .ok (.aload_n 1, 1) := by decide +kernel
theorem d_Player_fail_1 : decode prog_6_method_15_code 1 = .ok (.iload_n 2, 1) := by decide +kernel
theorem d_Player_fail_2 : decode prog_6_method_15_code 2 = .ok (.putfield 152, 3) := by decide +kernel
theorem d_Player_fail_5 : decode prog_6_method_15_code 5 = .ok (.aload_n 0, 1) := by decide +kernel
theorem d_Player_fail_6 : decode prog_6_method_15_code 6 = .ok (.invokevirtual 74, 3) := by decide +kernel
theorem d_Player_fail_9 : decode prog_6_method_15_code 9 = .ok (.return_, 1) := by decide +kernel
theorem d_Player_end_0 : decode prog_6_method_16_code 0 = .ok (.aload_n 0, 1) := by decide +kernel
theorem d_Player_end_1 : decode prog_6_method_16_code 1 = .ok (.iconst (-1), 1) := by decide +kernel
theorem d_Player_end_2 : decode prog_6_method_16_code 2 = .ok (.putfield 35, 3) := by decide +kernel
theorem d_Player_end_5 : decode prog_6_method_16_code 5 = .ok (.aload_n 0, 1) := by decide +kernel
theorem d_Player_end_6 : decode prog_6_method_16_code 6 = .ok (.iconst 0, 1) := by decide +kernel
theorem d_Player_end_7 : decode prog_6_method_16_code 7 = .ok (.putfield 39, 3) := by decide +kernel
theorem d_Player_end_10 : decode prog_6_method_16_code 10 = .ok (.return_, 1) := by decide +kernel
theorem d_Player_store_0 : decode prog_6_method_17_code 0 = .ok (.aload_n 0, 1) := by decide +kernel
theorem d_Player_store_1 : decode prog_6_method_17_code 1 = .ok (.getfield 18, 3) := by decide +kernel
theorem d_Player_store_4 : decode prog_6_method_17_code 4 = .ok (.iload_n 1, 1) := by decide +kernel
theorem d_Player_store_5 : decode prog_6_method_17_code 5 = .ok (.iload_n 2, 1) := by decide +kernel
theorem d_Player_store_6 : decode prog_6_method_17_code 6 = .ok (.i2s, 1) := by decide +kernel
theorem d_Player_store_7 : decode prog_6_method_17_code 7 = .ok (.iastore, 1) := by decide +kernel
theorem d_Player_store_8 : decode prog_6_method_17_code 8 = .ok (.return_, 1) := by decide +kernel
theorem d_Player_nextByte_0 : decode prog_6_method_18_code 0 = .ok (.aload_n 0, 1) := by decide +kernel
theorem d_Player_nextByte_1 : decode prog_6_method_18_code 1 = .ok (.getfield 12, 3) := by decide +kernel
theorem d_Player_nextByte_4 : decode prog_6_method_18_code 4 = .ok (.aload_n 0, 1) := by decide +kernel
theorem d_Player_nextByte_5 : decode prog_6_method_18_code 5 = .ok (.getfield 35, 3) := by decide +kernel
theorem d_Player_nextByte_8 : decode prog_6_method_18_code 8 = .ok (.invokevirtual 155, 3) := by decide +kernel
theorem d_Player_nextByte_11 : decode prog_6_method_18_code 11 = .ok (.istore_n 1, 1) := by decide +kernel
theorem d_Player_nextByte_12 : decode prog_6_method_18_code 12 = .ok (.aload_n 0, 1) := by decide +kernel
theorem d_Player_nextByte_13 : decode prog_6_method_18_code 13 = .ok (.aload_n 0, 1) := by decide +kernel
theorem d_Player_nextByte_14 : decode prog_6_method_18_code 14 = .ok (.getfield 35, 3) := by decide +kernel
theorem d_Player_nextByte_17 : decode prog_6_method_18_code 17 = .ok (.iconst 1, 1) := by decide +kernel
theorem d_Player_nextByte_18 : decode prog_6_method_18_code 18 = .ok (.iadd, 1) := by decide +kernel
theorem d_Player_nextByte_19 : decode prog_6_method_18_code 19 = .ok (.sipush 1023, 3) := by decide +kernel
theorem d_Player_nextByte_22 : decode prog_6_method_18_code 22 = .ok (.iand, 1) := by decide +kernel
theorem d_Player_nextByte_23 : decode prog_6_method_18_code 23 = .ok (.putfield 35, 3) := by decide +kernel
theorem d_Player_nextByte_26 : decode prog_6_method_18_code 26 = .ok (.iload_n 1, 1) := by decide +kernel
theorem d_Player_nextByte_27 : decode prog_6_method_18_code 27 = .ok (.ireturn, 1) := by decide +kernel
theorem d_Player_nextPair_0 : decode prog_6_method_19_code 0 = .ok (.aload_n 0, 1) := by decide +kernel
theorem d_Player_nextPair_1 : decode prog_6_method_19_code 1 = .ok (.getfield 12, 3) := by decide +kernel
theorem d_Player_nextPair_4 : decode prog_6_method_19_code 4 = .ok (.aload_n 0, 1) := by decide +kernel
theorem d_Player_nextPair_5 : decode prog_6_method_19_code 5 = .ok (.getfield 35, 3) := by decide +kernel
theorem d_Player_nextPair_8 : decode prog_6_method_19_code 8 = .ok (.invokevirtual 158, 3) := by decide +kernel
theorem d_Player_nextPair_11 : decode prog_6_method_19_code 11 = .ok (.istore_n 1, 1) := by decide +kernel
theorem d_Player_nextPair_12 : decode prog_6_method_19_code 12 = .ok (.aload_n 0, 1) := by decide +kernel
theorem d_Player_nextPair_13 : decode prog_6_method_19_code 13 = .ok (.aload_n 0, 1) := by decide +kernel
theorem d_Player_nextPair_14 : decode prog_6_method_19_code 14 = .ok (.getfield 35, 3) := by decide +kernel
theorem d_Player_nextPair_17 : decode prog_6_method_19_code 17 = .ok (.iconst 2, 1) := by decide +kernel
theorem d_Player_nextPair_18 : decode prog_6_method_19_code 18 = .ok (.iadd, 1) := by decide +kernel
theorem d_Player_nextPair_19 : decode prog_6_method_19_code 19 = .ok (.sipush 1023, 3) := by decide +kernel
theorem d_Player_nextPair_22 : decode prog_6_method_19_code 22 = .ok (.iand, 1) := by decide +kernel
theorem d_Player_nextPair_23 : decode prog_6_method_19_code 23 = .ok (.putfield 35, 3) := by decide +kernel
theorem d_Player_nextPair_26 : decode prog_6_method_19_code 26 = .ok (.iload_n 1, 1) := by decide +kernel
theorem d_Player_nextPair_27 : decode prog_6_method_19_code 27 = .ok (.ireturn, 1) := by decide +kernel
theorem d_Player_nextVariable_0 : decode prog_6_method_20_code 0 = .ok (.aload_n 0, 1) := by decide +kernel
theorem d_Player_nextVariable_1 : decode prog_6_method_20_code 1 = .ok (.invokevirtual 51, 3) := by decide +kernel
theorem d_Player_nextVariable_4 : decode prog_6_method_20_code 4 = .ok (.bipush 31, 2) := by decide +kernel
theorem d_Player_nextVariable_6 : decode prog_6_method_20_code 6 = .ok (.iand, 1) := by decide +kernel
theorem d_Player_nextVariable_7 : decode prog_6_method_20_code 7 = .ok (.ireturn, 1) := by decide +kernel
theorem d_Player_nextNumber_0 : decode prog_6_method_21_code 0 = .ok (.aload_n 0, 1) := by decide +kernel
theorem d_Player_nextNumber_1 : decode prog_6_method_21_code 1 = .ok (.invokevirtual 161, 3) := by decide +kernel
theorem d_Player_nextNumber_4 : decode prog_6_method_21_code 4 = .ok (.i2s, 1) := by decide +kernel
theorem d_Player_nextNumber_5 : decode prog_6_method_21_code 5 = .ok (.ireturn, 1) := by decide +kernel
theorem d_Player_nextAddress_0 : decode prog_6_method_22_code 0 = .ok (.aload_n 0, 1) := by decide +kernel
theorem d_Player_nextAddress_1 : decode prog_6_method_22_code 1 = .ok (.invokevirtual 161, 3) := by decide +kernel
theorem d_Player_nextAddress_4 : decode prog_6_method_22_code 4 = .ok (.sipush 1023, 3) := by decide +kernel
theorem d_Player_nextAddress_7 : decode prog_6_method_22_code 7 = .ok (.iand, 1) := by decide +kernel
theorem d_Player_nextAddress_8 : decode prog_6_method_22_code 8 = .ok (.ireturn, 1) := by decide +kernel
theorem d_Math_fdI_0 : decode prog_9_method_47_code 0 = .ok (.iload_n 0, 1) := by decide +kernel
theorem d_Math_fdI_1 : decode prog_9_method_47_code 1 = .ok (.iload_n 1, 1) := by decide +kernel
theorem d_Math_fdI_2 : decode prog_9_method_47_code 2 = .ok (.idiv, 1) := by decide +kernel
theorem d_Math_fdI_3 : decode prog_9_method_47_code 3 = .ok (.istore_n 2, 1) := by decide +kernel
theorem d_Math_fdI_4 : decode prog_9_method_47_code 4 = .ok (.iload_n 0, 1) := by decide +kernel
theorem d_Math_fdI_5 : decode prog_9_method_47_code 5 = .ok (.iload_n 1, 1) := by decide +kernel
theorem d_Math_fdI_6 : decode prog_9_method_47_code 6 = .ok (.ixor, 1) := by decide +kernel
theorem d_Math_fdI_7 : decode prog_9_method_47_code 7 = .ok (.ifCond .ge 14, 3) := by decide +kernel
theorem d_Math_fdI_10 : decode prog_9_method_47_code 10 = .ok (.iload_n 2, 1) := by decide +kernel
theorem d_Math_fdI_11 : decode prog_9_method_47_code 11 = .ok (.iload_n 1, 1) := by decide +kernel
theorem d_Math_fdI_12 : decode prog_9_method_47_code 12 = .ok (.imul, 1) := by decide +kernel
theorem d_Math_fdI_13 : decode prog_9_method_47_code 13 = .ok (.iload_n 0, 1) := by decide +kernel
theorem d_Math_fdI_14 : decode prog_9_method_47_code 14 = .ok (.if_icmp .eq 7, 3) := by decide +kernel
theorem d_Math_fdI_17 : decode prog_9_method_47_code 17 = .ok (.iload_n 2, 1) := by decide +kernel
theorem d_Math_fdI_18 : decode prog_9_method_47_code 18 = .ok (.iconst 1, 1) := by decide +kernel
theorem d_Math_fdI_19 : decode prog_9_method_47_code 19 = .ok (.isub, 1) := by decide +kernel
theorem d_Math_fdI_20 : decode prog_9_method_47_code 20 = .ok (.ireturn, 1) := by decide +kernel
theorem d_Math_fdI_21 : decode prog_9_method_47_code 21 = .ok (.iload_n 2, 1) := by decide +kernel
theorem d_Math_fdI_22 : decode prog_9_method_47_code 22 = .ok (.ireturn, 1) := by decide +kernel
theorem d_Math_fdJ_0 : decode prog_9_method_49_code 0 = .ok (.lload_n 0, 1) := by decide +kernel
theorem d_Math_fdJ_1 : decode prog_9_method_49_code 1 = .ok (.lload_n 2, 1) := by decide +kernel
theorem d_Math_fdJ_2 : decode prog_9_method_49_code 2 = .ok (.ldiv, 1) := by decide +kernel
theorem d_Math_fdJ_3 : decode prog_9_method_49_code 3 = .ok (.lstore 4, 2) := by decide +kernel
theorem d_Math_fdJ_5 : decode prog_9_method_49_code 5 = .ok (.lload_n 0, 1) := by decide +kernel
theorem d_Math_fdJ_6 : decode prog_9_method_49_code 6 = .ok (.lload_n 2, 1) := by decide +kernel
theorem d_Math_fdJ_7 : decode prog_9_method_49_code 7 = .ok (.lxor, 1) := by decide +kernel
theorem d_Math_fdJ_8 : decode prog_9_method_49_code 8 = .ok (.lconst 0, 1) := by decide +kernel
theorem d_Math_fdJ_9 : decode prog_9_method_49_code 9 = .ok (.lcmp, 1) := by decide +kernel
theorem d_Math_fdJ_10 : decode prog_9_method_49_code 10 = .ok (.ifCond .ge 17, 3) := by decide +kernel
theorem d_Math_fdJ_13 : decode prog_9_method_49_code 13 = .ok (.lload 4, 2) := by decide +kernel
theorem d_Math_fdJ_15 : decode prog_9_method_49_code 15 = .ok (.lload_n 2, 1) := by decide +kernel
theorem d_Math_fdJ_16 : decode prog_9_method_49_code 16 = .ok (.lmul, 1) := by decide +kernel
theorem d_Math_fdJ_17 : decode prog_9_method_49_code 17 = .ok (.lload_n 0, 1) := by decide +kernel
theorem d_Math_fdJ_18 : decode prog_9_method_49_code 18 = .ok (.lcmp, 1) := by decide +kernel
theorem d_Math_fdJ_19 : decode prog_9_method_49_code 19 = .ok (.ifCond .eq 8, 3) := by decide +kernel
theorem d_Math_fdJ_22 : decode prog_9_method_49_code 22 = .ok (.lload 4, 2) := by decide +kernel
theorem d_Math_fdJ_24 : decode prog_9_method_49_code 24 = .ok (.lconst 1, 1) := by decide +kernel
theorem d_Math_fdJ_25 : decode prog_9_method_49_code 25 = .ok (.lsub, 1) := by decide +kernel
theorem d_Math_fdJ_26 : decode prog_9_method_49_code 26 = .ok (.lreturn, 1) := by decide +kernel
theorem d_Math_fdJ_27 : decode prog_9_method_49_code 27 = .ok (.lload 4, 2) := by decide +kernel
theorem d_Math_fdJ_29 : decode prog_9_method_49_code 29 = .ok (.lreturn, 1) := by decide +kernel
theorem d_Math_max_0 : decode prog_9_method_65_code 0 = .ok (.iload_n 0, 1) := by decide +kernel
theorem d_Math_max_1 : decode prog_9_method_65_code 1 = .ok (.iload_n 1, 1) := by decide +kernel
theorem d_Math_max_2 : decode prog_9_method_65_code 2 = .ok (.if_icmp .lt 7, 3) := by decide +kernel
theorem d_Math_max_5 : decode prog_9_method_65_code 5 = .ok (.iload_n 0, 1) := by decide +kernel
theorem d_Math_max_6 : decode prog_9_method_65_code 6 = .ok (.goto 4, 3) := by decide +kernel
theorem d_Math_max_9 : decode prog_9_method_65_code 9 = .ok (.iload_n 1, 1) := by decide +kernel
theorem d_Math_max_10 : decode prog_9_method_65_code 10 = .ok (.ireturn, 1) := by decide +kernel
theorem d_Math_min_0 : decode prog_9_method_69_code 0 = .ok (.iload_n 0, 1) := by decide +kernel
theorem d_Math_min_1 : decode prog_9_method_69_code 1 = .ok (.iload_n 1, 1) := by decide +kernel
theorem d_Math_min_2 : decode prog_9_method_69_code 2 = .ok (.if_icmp .gt 7, 3) := by decide +kernel
theorem d_Math_min_5 : decode prog_9_method_69_code 5 = .ok (.iload_n 0, 1) := by decide +kernel
theorem d_Math_min_6 : decode prog_9_method_69_code 6 = .ok (.goto 4, 3) := by decide +kernel
theorem d_Math_min_9 : decode prog_9_method_69_code 9 = .ok (.iload_n 1, 1) := by decide +kernel
theorem d_Math_min_10 : decode prog_9_method_69_code 10 = .ok (.ireturn, 1) := by decide +kernel
theorem d_Arrays_fill_0 : decode prog_11_method_110_code 0 = .ok (.aload_n 0, 1) := by decide +kernel
theorem d_Arrays_fill_1 : decode prog_11_method_110_code 1 = .ok (.arraylength, 1) := by decide +kernel
theorem d_Arrays_fill_2 : decode prog_11_method_110_code 2 = .ok (.iload_n 1, 1) := by decide +kernel
theorem d_Arrays_fill_3 : decode prog_11_method_110_code 3 = .ok (.iload_n 2, 1) := by decide +kernel
theorem d_Arrays_fill_4 : decode prog_11_method_110_code 4 = .ok (.invokestatic 13, 3) := by decide +kernel
theorem d_Arrays_fill_7 : decode prog_11_method_110_code 7 = .ok (.iload_n 1, 1) := by decide +kernel
theorem d_Arrays_fill_8 : decode prog_11_method_110_code 8 = .ok (.istore 4, 2) := by decide +kernel
theorem d_Arrays_fill_10 : decode prog_11_method_110_code 10 = .ok (.iload 4, 2) := by decide +kernel
theorem d_Arrays_fill_12 : decode prog_11_method_110_code 12 = .ok (.iload_n 2, 1) := by decide +kernel
theorem d_Arrays_fill_13 : decode prog_11_method_110_code 13 = .ok (.if_icmp .ge 14, 3) := by decide +kernel
theorem d_Arrays_fill_16 : decode prog_11_method_110_code 16 = .ok (.aload_n 0, 1) := by decide +kernel
theorem d_Arrays_fill_17 : decode prog_11_method_110_code 17 = .ok (.iload 4, 2) := by decide +kernel
theorem d_Arrays_fill_19 : decode prog_11_method_110_code 19 = .ok (.iload_n 3, 1) := by decide +kernel
theorem d_Arrays_fill_20 : decode prog_11_method_110_code 20 = .ok (.bastore, 1) := by decide +kernel
theorem d_Arrays_fill_21 : decode prog_11_method_110_code 21 = .ok (.iinc 4 1, 3) := by decide +kernel
theorem d_Arrays_fill_24 : decode prog_11_method_110_code 24 = .ok (.goto (-14), 3) := by decide +kernel
theorem d_Arrays_fill_27 : decode prog_11_method_110_code 27 = .ok (.return_, 1) := by decide +kernel
theorem d_Arrays_rangeCheck_0 : decode prog_11_method_30_code 0 = .ok (.iload_n 1, 1) := by decide +kernel
theorem d_Arrays_rangeCheck_1 : decode prog_11_method_30_code 1 = .ok (.iload_n 2, 1) := by decide +kernel
theorem d_Arrays_rangeCheck_2 : decode prog_11_method_30_code 2 = .ok (.if_icmp .le 44, 3) := by decide +kernel
theorem d_Arrays_rangeCheck_5 : decode prog_11_method_30_code 5 = .ok (.new 43, 3) := by decide +kernel
theorem d_Arrays_rangeCheck_8 : decode prog_11_method_30_code 8 = .ok (.dup, 1) := by decide +kernel
theorem d_Arrays_rangeCheck_9 : decode prog_11_method_30_code 9 = .ok (.new 45, 3) := by decide +kernel
theorem d_Arrays_rangeCheck_12 : decode prog_11_method_30_code 12 = .ok (.dup, 1) := by decide +kernel
theorem d_Arrays_rangeCheck_13 : decode prog_11_method_30_code 13 = .ok (.invokespecial 47, 3) := by decide +kernel
theorem d_Arrays_rangeCheck_16 : decode prog_11_method_30_code 16 = .ok (.ldc 48, 2) := by decide +kernel
theorem d_Arrays_rangeCheck_18 : decode prog_11_method_30_code 18 = .ok (.invokevirtual 50, 3) := by decide +kernel
theorem d_Arrays_rangeCheck_21 : decode prog_11_method_30_code 21 = .ok (.iload_n 1, 1) := by decide +kernel
theorem d_Arrays_rangeCheck_22 : decode prog_11_method_30_code 22 = .ok (.invokevirtual 54, 3) := by decide +kernel
theorem d_Arrays_rangeCheck_25 : decode prog_11_method_30_code 25 = .ok (.ldc 57, 2) := by decide +kernel
theorem d_Arrays_rangeCheck_27 : decode prog_11_method_30_code 27 = .ok (.invokevirtual 50, 3) := by decide +kernel
theorem d_Arrays_rangeCheck_30 : decode prog_11_method_30_code 30 = .ok (.iload_n 2, 1) := by decide +kernel
theorem d_Arrays_rangeCheck_31 : decode prog_11_method_30_code 31 = .ok (.invokevirtual 54, 3) := by decide +kernel
theorem d_Arrays_rangeCheck_34 : decode prog_11_method_30_code 34 = .ok (.ldc 59, 2) := by decide +kernel
theorem d_Arrays_rangeCheck_36 : decode prog_11_method_30_code 36 = .ok (.invokevirtual 50, 3) := by decide +kernel
theorem d_Arrays_rangeCheck_39 : decode prog_11_method_30_code 39 = .ok (.invokevirtual 61, 3) := by decide +kernel
theorem d_Arrays_rangeCheck_42 : decode prog_11_method_30_code 42 = .ok (.invokespecial 65, 3) := by decide +kernel
theorem d_Arrays_rangeCheck_45 : decode prog_11_method_30_code 45 = .ok (.athrow, 1) := by decide +kernel
theorem d_Arrays_rangeCheck_46 : decode prog_11_method_30_code 46 = .ok (.iload_n 1, 1) := by decide +kernel
theorem d_Arrays_rangeCheck_47 : decode prog_11_method_30_code 47 = .ok (.ifCond .ge 12, 3) := by decide +kernel
theorem d_Arrays_rangeCheck_50 : decode prog_11_method_30_code 50 = .ok (.new 68, 3) := by decide +kernel
theorem d_Arrays_rangeCheck_53 : decode prog_11_method_30_code 53 = .ok (.dup, 1) := by decide +kernel
theorem d_Arrays_rangeCheck_54 : decode prog_11_method_30_code 54 = .ok (.iload_n 1, 1) := by decide +kernel
theorem d_Arrays_rangeCheck_55 : decode prog_11_method_30_code 55 = .ok (.invokespecial 70, 3) := by decide +kernel
theorem d_Arrays_rangeCheck_58 : decode prog_11_method_30_code 58 = .ok (.athrow, 1) := by decide +kernel
theorem d_Arrays_rangeCheck_59 : decode prog_11_method_30_code 59 = .ok (.iload_n 2, 1) := by decide +kernel
theorem d_Arrays_rangeCheck_60 : decode prog_11_method_30_code 60 = .ok (.iload_n 0, 1) := by decide +kernel
theorem d_Arrays_rangeCheck_61 : decode prog_11_method_30_code 61 = .ok (.if_icmp .le 12, 3) := by decide +kernel
theorem d_Arrays_rangeCheck_64 : decode prog_11_method_30_code 64 = .ok (.new 68, 3) := by decide +kernel
theorem d_Arrays_rangeCheck_67 : decode prog_11_method_30_code 67 = .ok (.dup, 1) := by decide +kernel
theorem d_Arrays_rangeCheck_68 : decode prog_11_method_30_code 68 = .ok (.iload_n 2, 1) := by decide +kernel
theorem d_Arrays_rangeCheck_69 : decode prog_11_method_30_code 69 = .ok (.invokespecial 70, 3) := by decide +kernel
theorem d_Arrays_rangeCheck_72 : decode prog_11_method_30_code 72 = .ok (.athrow, 1) := by decide +kernel
theorem d_Arrays_rangeCheck_73 : decode prog_11_method_30_code 73 = .ok (.return_, 1) := by decide +kernel
