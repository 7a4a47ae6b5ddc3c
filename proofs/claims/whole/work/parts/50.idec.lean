abbrev y_Bytes_init : MethodName := ⟨"StageMachine$Bytes", "<init>", "()V"⟩
theorem cw_Bytes_init : gw_cw gTs y_Bytes_init prog_2_method_1_code 1 none 0 := ⟨tw_29, tw_3, by decide, by decide, by decide +kernel⟩
theorem ci_Bytes_init : Cond.instanceMethod y_Bytes_init ∈ gTs := tw_28
theorem d_Bytes_init_0 : decode prog_2_method_1_code 0 = .ok (.aload_n 0, 1) := by decide +kernel
theorem d_Bytes_init_1 : decode prog_2_method_1_code 1 = .ok (.invokespecial 3, 3) := by decide +kernel
theorem d_Bytes_init_4 : decode prog_2_method_1_code 4 = .ok (.aload_n 0, 1) := by decide +kernel
theorem d_Bytes_init_5 : decode prog_2_method_1_code 5 = .ok (.sipush 1024, 3) := by decide +kernel
theorem d_Bytes_init_8 : decode prog_2_method_1_code 8 = .ok (.newarray .int, 2) := by decide +kernel
theorem d_Bytes_init_10 : decode prog_2_method_1_code 10 = .ok (.putfield 9, 3) := by decide +kernel
theorem d_Bytes_init_13 : decode prog_2_method_1_code 13 = .ok (.return_, 1) := by decide +kernel
abbrev y_Channel_init : MethodName := ⟨"StageMachine$Channel", "<init>", "()V"⟩
theorem cw_Channel_init : gw_cw gTs y_Channel_init prog_3_method_1_code 1 none 0 := ⟨tw_102, tw_6, by decide, by decide, by decide +kernel⟩
theorem ci_Channel_init : Cond.instanceMethod y_Channel_init ∈ gTs := tw_101
theorem d_Channel_init_0 : decode prog_3_method_1_code 0 = .ok (.aload_n 0, 1) := by decide +kernel
theorem d_Channel_init_1 : decode prog_3_method_1_code 1 = .ok (.invokespecial 3, 3) := by decide +kernel
theorem d_Channel_init_4 : decode prog_3_method_1_code 4 = .ok (.aload_n 0, 1) := by decide +kernel
theorem d_Channel_init_5 : decode prog_3_method_1_code 5 = .ok (.bipush 8, 2) := by decide +kernel
theorem d_Channel_init_7 : decode prog_3_method_1_code 7 = .ok (.newarray .int, 2) := by decide +kernel
theorem d_Channel_init_9 : decode prog_3_method_1_code 9 = .ok (.putfield 9, 3) := by decide +kernel
theorem d_Channel_init_12 : decode prog_3_method_1_code 12 = .ok (.aload_n 0, 1) := by decide +kernel
theorem d_Channel_init_13 : decode prog_3_method_1_code 13 = .ok (.iconst 0, 1) := by decide +kernel
theorem d_Channel_init_14 : decode prog_3_method_1_code 14 = .ok (.putfield 15, 3) := by decide +kernel
theorem d_Channel_init_17 : decode prog_3_method_1_code 17 = .ok (.aload_n 0, 1) := by decide +kernel
theorem d_Channel_init_18 : decode prog_3_method_1_code 18 = .ok (.iconst (-1), 1) := by decide +kernel
theorem d_Channel_init_19 : decode prog_3_method_1_code 19 = .ok (.putfield 19, 3) := by decide +kernel
theorem d_Channel_init_22 : decode prog_3_method_1_code 22 = .ok (.aload_n 0, 1) := by decide +kernel
theorem d_Channel_init_23 : decode prog_3_method_1_code 23 = .ok (.iconst 0, 1) := by decide +kernel
theorem d_Channel_init_24 : decode prog_3_method_1_code 24 = .ok (.putfield 22, 3) := by decide +kernel
theorem d_Channel_init_27 : decode prog_3_method_1_code 27 = .ok (.aload_n 0, 1) := by decide +kernel
theorem d_Channel_init_28 : decode prog_3_method_1_code 28 = .ok (.iconst 0, 1) := by decide +kernel
theorem d_Channel_init_29 : decode prog_3_method_1_code 29 = .ok (.putfield 26, 3) := by decide +kernel
theorem d_Channel_init_32 : decode prog_3_method_1_code 32 = .ok (.aload_n 0, 1) := by decide +kernel
theorem d_Channel_init_33 : decode prog_3_method_1_code 33 = .ok (.bipush (-2), 2) := by decide +kernel
theorem d_Channel_init_35 : decode prog_3_method_1_code 35 = .ok (.putfield 29, 3) := by decide +kernel
theorem d_Channel_init_38 : decode prog_3_method_1_code 38 = .ok (.aload_n 0, 1) := by decide +kernel
theorem d_Channel_init_39 : decode prog_3_method_1_code 39 = .ok (.bipush (-2), 2) := by decide +kernel
theorem d_Channel_init_41 : decode prog_3_method_1_code 41 = .ok (.putfield 32, 3) := by decide +kernel
theorem d_Channel_init_44 : decode prog_3_method_1_code 44 = .ok (.return_, 1) := by decide +kernel
abbrev y_Pages_init : MethodName := ⟨"StageMachine$Pages", "<init>", "()V"⟩
theorem cw_Pages_init : gw_cw gTs y_Pages_init prog_4_method_1_code 1 none 0 := ⟨tw_50, tw_5, by decide, by decide, by decide +kernel⟩
theorem ci_Pages_init : Cond.instanceMethod y_Pages_init ∈ gTs := tw_49
theorem d_Pages_init_0 : decode prog_4_method_1_code 0 = .ok (.aload_n 0, 1) := by decide +kernel
theorem d_Pages_init_1 : decode prog_4_method_1_code 1 = .ok (.invokespecial 3, 3) := by decide +kernel
theorem d_Pages_init_4 : decode prog_4_method_1_code 4 = .ok (.aload_n 0, 1) := by decide +kernel
theorem d_Pages_init_5 : decode prog_4_method_1_code 5 = .ok (.sipush 10240, 3) := by decide +kernel
theorem d_Pages_init_8 : decode prog_4_method_1_code 8 = .ok (.newarray .byte, 2) := by decide +kernel
theorem d_Pages_init_10 : decode prog_4_method_1_code 10 = .ok (.putfield 11, 3) := by decide +kernel
theorem d_Pages_init_13 : decode prog_4_method_1_code 13 = .ok (.aload_n 0, 1) := by decide +kernel
theorem d_Pages_init_14 : decode prog_4_method_1_code 14 = .ok (.iconst 0, 1) := by decide +kernel
theorem d_Pages_init_15 : decode prog_4_method_1_code 15 = .ok (.putfield 15, 3) := by decide +kernel
theorem d_Pages_init_18 : decode prog_4_method_1_code 18 = .ok (.aload_n 0, 1) := by decide +kernel
theorem d_Pages_init_19 : decode prog_4_method_1_code 19 = .ok (.iconst 0, 1) := by decide +kernel
theorem d_Pages_init_20 : decode prog_4_method_1_code 20 = .ok (.putfield 19, 3) := by decide +kernel
theorem d_Pages_init_23 : decode prog_4_method_1_code 23 = .ok (.return_, 1) := by decide +kernel
abbrev y_Painter_init : MethodName := ⟨"StageMachine$Painter", "<init>", "()V"⟩
theorem cw_Painter_init : gw_cw gTs y_Painter_init prog_5_method_1_code 1 none 0 := ⟨tw_42, tw_4, by decide, by decide, by decide +kernel⟩
theorem ci_Painter_init : Cond.instanceMethod y_Painter_init ∈ gTs := tw_41
theorem d_Painter_init_0 : decode prog_5_method_1_code 0 = .ok (.aload_n 0, 1) := by decide +kernel
theorem d_Painter_init_1 : decode prog_5_method_1_code 1 = .ok (.invokespecial 3, 3) := by decide +kernel
theorem d_Painter_init_4 : decode prog_5_method_1_code 4 = .ok (.aload_n 0, 1) := by decide +kernel
theorem d_Painter_init_5 : decode prog_5_method_1_code 5 = .ok (.new 9, 3) := by decide +kernel
theorem d_Painter_init_8 : decode prog_5_method_1_code 8 = .ok (.dup, 1) := by decide +kernel
theorem d_Painter_init_9 : decode prog_5_method_1_code 9 = .ok (.invokespecial 11, 3) := by decide +kernel
theorem d_Painter_init_12 : decode prog_5_method_1_code 12 = .ok (.putfield 12, 3) := by decide +kernel
theorem d_Painter_init_15 : decode prog_5_method_1_code 15 = .ok (.aload_n 0, 1) := by decide +kernel
theorem d_Painter_init_16 : decode prog_5_method_1_code 16 = .ok (.new 18, 3) := by decide +kernel
theorem d_Painter_init_19 : decode prog_5_method_1_code 19 = .ok (.dup, 1) := by decide +kernel
theorem d_Painter_init_20 : decode prog_5_method_1_code 20 = .ok (.invokespecial 20, 3) := by decide +kernel
theorem d_Painter_init_23 : decode prog_5_method_1_code 23 = .ok (.putfield 21, 3) := by decide +kernel
theorem d_Painter_init_26 : decode prog_5_method_1_code 26 = .ok (.aload_n 0, 1) := by decide +kernel
theorem d_Painter_init_27 : decode prog_5_method_1_code 27 = .ok (.bipush 16, 2) := by decide +kernel
theorem d_Painter_init_29 : decode prog_5_method_1_code 29 = .ok (.newarray .int, 2) := by decide +kernel
theorem d_Painter_init_31 : decode prog_5_method_1_code 31 = .ok (.putfield 25, 3) := by decide +kernel
theorem d_Painter_init_34 : decode prog_5_method_1_code 34 = .ok (.aload_n 0, 1) := by decide +kernel
theorem d_Painter_init_35 : decode prog_5_method_1_code 35 = .ok (.bipush 16, 2) := by decide +kernel
theorem d_Painter_init_37 : decode prog_5_method_1_code 37 = .ok (.newarray .int, 2) := by decide +kernel
theorem d_Painter_init_39 : decode prog_5_method_1_code 39 = .ok (.putfield 29, 3) := by decide +kernel
theorem d_Painter_init_42 : decode prog_5_method_1_code 42 = .ok (.aload_n 0, 1) := by decide +kernel
theorem d_Painter_init_43 : decode prog_5_method_1_code 43 = .ok (.bipush 16, 2) := by decide +kernel
theorem d_Painter_init_45 : decode prog_5_method_1_code 45 = .ok (.newarray .int, 2) := by decide +kernel
theorem d_Painter_init_47 : decode prog_5_method_1_code 47 = .ok (.putfield 32, 3) := by decide +kernel
theorem d_Painter_init_50 : decode prog_5_method_1_code 50 = .ok (.aload_n 0, 1) := by decide +kernel
theorem d_Painter_init_51 : decode prog_5_method_1_code 51 = .ok (.iconst 0, 1) := by decide +kernel
theorem d_Painter_init_52 : decode prog_5_method_1_code 52 = .ok (.putfield 35, 3) := by decide +kernel
theorem d_Painter_init_55 : decode prog_5_method_1_code 55 = .ok (.aload_n 0, 1) := by decide +kernel
theorem d_Painter_init_56 : decode prog_5_method_1_code 56 = .ok (.iconst 0, 1) := by decide +kernel
theorem d_Painter_init_57 : decode prog_5_method_1_code 57 = .ok (.putfield 39, 3) := by decide +kernel
theorem d_Painter_init_60 : decode prog_5_method_1_code 60 = .ok (.aload_n 0, 1) := by decide +kernel
theorem d_Painter_init_61 : decode prog_5_method_1_code 61 = .ok (.iconst 0, 1) := by decide +kernel
theorem d_Painter_init_62 : decode prog_5_method_1_code 62 = .ok (.putfield 42, 3) := by decide +kernel
theorem d_Painter_init_65 : decode prog_5_method_1_code 65 = .ok (.return_, 1) := by decide +kernel
abbrev y_Player_init : MethodName := ⟨"StageMachine$Player", "<init>", "()V"⟩
theorem cw_Player_init : gw_cw gTs y_Player_init prog_6_method_1_code 2 none 0 := ⟨tw_23, tw_2, by decide, by decide, by decide +kernel⟩
theorem ci_Player_init : Cond.instanceMethod y_Player_init ∈ gTs := tw_22
theorem d_Player_init_0 : decode prog_6_method_1_code 0 = .ok (.aload_n 0, 1) := by decide +kernel
theorem d_Player_init_1 : decode prog_6_method_1_code 1 = .ok (.invokespecial 3, 3) := by decide +kernel
theorem d_Player_init_4 : decode prog_6_method_1_code 4 = .ok (.aload_n 0, 1) := by decide +kernel
theorem d_Player_init_5 : decode prog_6_method_1_code 5 = .ok (.new 9, 3) := by decide +kernel
theorem d_Player_init_8 : decode prog_6_method_1_code 8 = .ok (.dup, 1) := by decide +kernel
theorem d_Player_init_9 : decode prog_6_method_1_code 9 = .ok (.invokespecial 11, 3) := by decide +kernel
theorem d_Player_init_12 : decode prog_6_method_1_code 12 = .ok (.putfield 12, 3) := by decide +kernel
theorem d_Player_init_15 : decode prog_6_method_1_code 15 = .ok (.aload_n 0, 1) := by decide +kernel
theorem d_Player_init_16 : decode prog_6_method_1_code 16 = .ok (.bipush 32, 2) := by decide +kernel
theorem d_Player_init_18 : decode prog_6_method_1_code 18 = .ok (.newarray .int, 2) := by decide +kernel
theorem d_Player_init_20 : decode prog_6_method_1_code 20 = .ok (.putfield 18, 3) := by decide +kernel
theorem d_Player_init_23 : decode prog_6_method_1_code 23 = .ok (.aload_n 0, 1) := by decide +kernel
theorem d_Player_init_24 : decode prog_6_method_1_code 24 = .ok (.bipush 16, 2) := by decide +kernel
theorem d_Player_init_26 : decode prog_6_method_1_code 26 = .ok (.anewarray 22, 3) := by decide +kernel
theorem d_Player_init_29 : decode prog_6_method_1_code 29 = .ok (.putfield 24, 3) := by decide +kernel
theorem d_Player_init_32 : decode prog_6_method_1_code 32 = .ok (.aload_n 0, 1) := by decide +kernel
theorem d_Player_init_33 : decode prog_6_method_1_code 33 = .ok (.new 28, 3) := by decide +kernel
theorem d_Player_init_36 : decode prog_6_method_1_code 36 = .ok (.dup, 1) := by decide +kernel
theorem d_Player_init_37 : decode prog_6_method_1_code 37 = .ok (.invokespecial 30, 3) := by decide +kernel
theorem d_Player_init_40 : decode prog_6_method_1_code 40 = .ok (.putfield 31, 3) := by decide +kernel
theorem d_Player_init_43 : decode prog_6_method_1_code 43 = .ok (.aload_n 0, 1) := by decide +kernel
theorem d_Player_init_44 : decode prog_6_method_1_code 44 = .ok (.iconst (-1), 1) := by decide +kernel
theorem d_Player_init_45 : decode prog_6_method_1_code 45 = .ok (.putfield 35, 3) := by decide +kernel
theorem d_Player_init_48 : decode prog_6_method_1_code 48 = .ok (.aload_n 0, 1) := by decide +kernel
theorem d_Player_init_49 : decode prog_6_method_1_code 49 = .ok (.iconst 0, 1) := by decide +kernel
theorem d_Player_init_50 : decode prog_6_method_1_code 50 = .ok (.putfield 39, 3) := by decide +kernel
theorem d_Player_init_53 : decode prog_6_method_1_code 53 = .ok (.iconst 0, 1) := by decide +kernel
theorem d_Player_init_54 : decode prog_6_method_1_code 54 = .ok (.istore_n 1, 1) := by decide +kernel
theorem d_Player_init_55 : decode prog_6_method_1_code 55 = .ok (.iload_n 1, 1) := by decide +kernel
theorem d_Player_init_56 : decode prog_6_method_1_code 56 = .ok (.bipush 16, 2) := by decide +kernel
theorem d_Player_init_58 : decode prog_6_method_1_code 58 = .ok (.if_icmp .ge 22, 3) := by decide +kernel
theorem d_Player_init_61 : decode prog_6_method_1_code 61 = .ok (.aload_n 0, 1) := by decide +kernel
theorem d_Player_init_62 : decode prog_6_method_1_code 62 = .ok (.getfield 24, 3) := by decide +kernel
theorem d_Player_init_65 : decode prog_6_method_1_code 65 = .ok (.iload_n 1, 1) := by decide +kernel
theorem d_Player_init_66 : decode prog_6_method_1_code 66 = .ok (.new 22, 3) := by decide +kernel
theorem d_Player_init_69 : decode prog_6_method_1_code 69 = .ok (.dup, 1) := by decide +kernel
theorem d_Player_init_70 : decode prog_6_method_1_code 70 = .ok (.invokespecial 43, 3) := by decide +kernel
theorem d_Player_init_73 : decode prog_6_method_1_code 73 = .ok (.aastore, 1) := by decide +kernel
theorem d_Player_init_74 : decode prog_6_method_1_code 74 = .ok (.iinc 1 1, 3) := by decide +kernel
theorem d_Player_init_77 : decode prog_6_method_1_code 77 = .ok (.goto (-22), 3) := by decide +kernel
theorem d_Player_init_80 : decode prog_6_method_1_code 80 = .ok (.return_, 1) := by decide +kernel
abbrev y_SM_init : MethodName := ⟨"StageMachine", "<init>", "()V"⟩
theorem cw_SM_init : gw_cw gTs y_SM_init prog_1_method_1_code 1 none 0 := ⟨tw_15, tw_1, by decide, by decide, by decide +kernel⟩
theorem ci_SM_init : Cond.instanceMethod y_SM_init ∈ gTs := tw_14
theorem d_SM_init_0 : decode prog_1_method_1_code 0 = .ok (.aload_n 0, 1) := by decide +kernel
theorem d_SM_init_1 : decode prog_1_method_1_code 1 = .ok (.invokespecial 3, 3) := by decide +kernel
theorem d_SM_init_4 : decode prog_1_method_1_code 4 = .ok (.aload_n 0, 1) := by decide +kernel
theorem d_SM_init_5 : decode prog_1_method_1_code 5 = .ok (.iconst 0, 1) := by decide +kernel
theorem d_SM_init_6 : decode prog_1_method_1_code 6 = .ok (.putfield 9, 3) := by decide +kernel
theorem d_SM_init_9 : decode prog_1_method_1_code 9 = .ok (.aload_n 0, 1) := by decide +kernel
theorem d_SM_init_10 : decode prog_1_method_1_code 10 = .ok (.iconst 0, 1) := by decide +kernel
theorem d_SM_init_11 : decode prog_1_method_1_code 11 = .ok (.putfield 13, 3) := by decide +kernel
theorem d_SM_init_14 : decode prog_1_method_1_code 14 = .ok (.aload_n 0, 1) := by decide +kernel
theorem d_SM_init_15 : decode prog_1_method_1_code 15 = .ok (.new 16, 3) := by decide +kernel
theorem d_SM_init_18 : decode prog_1_method_1_code 18 = .ok (.dup, 1) := by decide +kernel
theorem d_SM_init_19 : decode prog_1_method_1_code 19 = .ok (.invokespecial 18, 3) := by decide +kernel
theorem d_SM_init_22 : decode prog_1_method_1_code 22 = .ok (.putfield 19, 3) := by decide +kernel
theorem d_SM_init_25 : decode prog_1_method_1_code 25 = .ok (.return_, 1) := by decide +kernel
abbrev y_Model_init : MethodName := ⟨"StageMachineModel", "<init>", "()V"⟩
theorem cw_Model_init : gw_cw gTs y_Model_init prog_8_method_1_code 2 none 0 := ⟨tw_405, tw_7, by decide, by decide, by decide +kernel⟩
theorem ci_Model_init : Cond.instanceMethod y_Model_init ∈ gTs := tw_404
theorem d_Model_init_0 : decode prog_8_method_1_code 0 = .ok (.aload_n 0, 1) := by decide +kernel
theorem d_Model_init_1 : decode prog_8_method_1_code 1 = .ok (.invokespecial 1, 3) := by decide +kernel
theorem d_Model_init_4 : decode prog_8_method_1_code 4 = .ok (.aload_n 0, 1) := by decide +kernel
theorem d_Model_init_5 : decode prog_8_method_1_code 5 = .ok (.sipush 1024, 3) := by decide +kernel
theorem d_Model_init_8 : decode prog_8_method_1_code 8 = .ok (.newarray .int, 2) := by decide +kernel
theorem d_Model_init_10 : decode prog_8_method_1_code 10 = .ok (.putfield 7, 3) := by decide +kernel
theorem d_Model_init_13 : decode prog_8_method_1_code 13 = .ok (.aload_n 0, 1) := by decide +kernel
theorem d_Model_init_14 : decode prog_8_method_1_code 14 = .ok (.sipush 1024, 3) := by decide +kernel
theorem d_Model_init_17 : decode prog_8_method_1_code 17 = .ok (.newarray .int, 2) := by decide +kernel
theorem d_Model_init_19 : decode prog_8_method_1_code 19 = .ok (.putfield 13, 3) := by decide +kernel
theorem d_Model_init_22 : decode prog_8_method_1_code 22 = .ok (.aload_n 0, 1) := by decide +kernel
theorem d_Model_init_23 : decode prog_8_method_1_code 23 = .ok (.bipush 32, 2) := by decide +kernel
theorem d_Model_init_25 : decode prog_8_method_1_code 25 = .ok (.newarray .int, 2) := by decide +kernel
theorem d_Model_init_27 : decode prog_8_method_1_code 27 = .ok (.putfield 16, 3) := by decide +kernel
theorem d_Model_init_30 : decode prog_8_method_1_code 30 = .ok (.aload_n 0, 1) := by decide +kernel
theorem d_Model_init_31 : decode prog_8_method_1_code 31 = .ok (.sipush 10240, 3) := by decide +kernel
theorem d_Model_init_34 : decode prog_8_method_1_code 34 = .ok (.newarray .byte, 2) := by decide +kernel
theorem d_Model_init_36 : decode prog_8_method_1_code 36 = .ok (.putfield 19, 3) := by decide +kernel
theorem d_Model_init_39 : decode prog_8_method_1_code 39 = .ok (.aload_n 0, 1) := by decide +kernel
theorem d_Model_init_40 : decode prog_8_method_1_code 40 = .ok (.bipush 16, 2) := by decide +kernel
theorem d_Model_init_42 : decode prog_8_method_1_code 42 = .ok (.newarray .int, 2) := by decide +kernel
theorem d_Model_init_44 : decode prog_8_method_1_code 44 = .ok (.putfield 23, 3) := by decide +kernel
theorem d_Model_init_47 : decode prog_8_method_1_code 47 = .ok (.aload_n 0, 1) := by decide +kernel
theorem d_Model_init_48 : decode prog_8_method_1_code 48 = .ok (.bipush 16, 2) := by decide +kernel
theorem d_Model_init_50 : decode prog_8_method_1_code 50 = .ok (.newarray .int, 2) := by decide +kernel
theorem d_Model_init_52 : decode prog_8_method_1_code 52 = .ok (.putfield 26, 3) := by decide +kernel
theorem d_Model_init_55 : decode prog_8_method_1_code 55 = .ok (.aload_n 0, 1) := by decide +kernel
theorem d_Model_init_56 : decode prog_8_method_1_code 56 = .ok (.bipush 16, 2) := by decide +kernel
theorem d_Model_init_58 : decode prog_8_method_1_code 58 = .ok (.newarray .int, 2) := by decide +kernel
theorem d_Model_init_60 : decode prog_8_method_1_code 60 = .ok (.putfield 29, 3) := by decide +kernel
theorem d_Model_init_63 : decode prog_8_method_1_code 63 = .ok (.aload_n 0, 1) := by decide +kernel
theorem d_Model_init_64 : decode prog_8_method_1_code 64 = .ok (.bipush 16, 2) := by decide +kernel
theorem d_Model_init_66 : decode prog_8_method_1_code 66 = .ok (.newarray .int, 2) := by decide +kernel
theorem d_Model_init_68 : decode prog_8_method_1_code 68 = .ok (.putfield 32, 3) := by decide +kernel
theorem d_Model_init_71 : decode prog_8_method_1_code 71 = .ok (.aload_n 0, 1) := by decide +kernel
theorem d_Model_init_72 : decode prog_8_method_1_code 72 = .ok (.bipush 16, 2) := by decide +kernel
theorem d_Model_init_74 : decode prog_8_method_1_code 74 = .ok (.newarray .int, 2) := by decide +kernel
theorem d_Model_init_76 : decode prog_8_method_1_code 76 = .ok (.putfield 35, 3) := by decide +kernel
theorem d_Model_init_79 : decode prog_8_method_1_code 79 = .ok (.aload_n 0, 1) := by decide +kernel
theorem d_Model_init_80 : decode prog_8_method_1_code 80 = .ok (.bipush 16, 2) := by decide +kernel
theorem d_Model_init_82 : decode prog_8_method_1_code 82 = .ok (.newarray .boolean, 2) := by decide +kernel
theorem d_Model_init_84 : decode prog_8_method_1_code 84 = .ok (.putfield 38, 3) := by decide +kernel
theorem d_Model_init_87 : decode prog_8_method_1_code 87 = .ok (.aload_n 0, 1) := by decide +kernel
theorem d_Model_init_88 : decode prog_8_method_1_code 88 = .ok (.sipush 128, 3) := by decide +kernel
theorem d_Model_init_91 : decode prog_8_method_1_code 91 = .ok (.newarray .int, 2) := by decide +kernel
theorem d_Model_init_93 : decode prog_8_method_1_code 93 = .ok (.putfield 42, 3) := by decide +kernel
theorem d_Model_init_96 : decode prog_8_method_1_code 96 = .ok (.aload_n 0, 1) := by decide +kernel
theorem d_Model_init_97 : decode prog_8_method_1_code 97 = .ok (.bipush 100, 2) := by decide +kernel
theorem d_Model_init_99 : decode prog_8_method_1_code 99 = .ok (.newarray .int, 2) := by decide +kernel
theorem d_Model_init_101 : decode prog_8_method_1_code 101 = .ok (.putfield 45, 3) := by decide +kernel
theorem d_Model_init_104 : decode prog_8_method_1_code 104 = .ok (.aload_n 0, 1) := by decide +kernel
theorem d_Model_init_105 : decode prog_8_method_1_code 105 = .ok (.bipush 100, 2) := by decide +kernel
theorem d_Model_init_107 : decode prog_8_method_1_code 107 = .ok (.newarray .int, 2) := by decide +kernel
theorem d_Model_init_109 : decode prog_8_method_1_code 109 = .ok (.putfield 48, 3) := by decide +kernel
theorem d_Model_init_112 : decode prog_8_method_1_code 112 = .ok (.aload_n 0, 1) := by decide +kernel
theorem d_Model_init_113 : decode prog_8_method_1_code 113 = .ok (.bipush 100, 2) := by decide +kernel
theorem d_Model_init_115 : decode prog_8_method_1_code 115 = .ok (.newarray .int, 2) := by decide +kernel
theorem d_Model_init_117 : decode prog_8_method_1_code 117 = .ok (.putfield 51, 3) := by decide +kernel
theorem d_Model_init_120 : decode prog_8_method_1_code 120 = .ok (.aload_n 0, 1) := by decide +kernel
theorem d_Model_init_121 : decode prog_8_method_1_code 121 = .ok (.bipush 100, 2) := by decide +kernel
theorem d_Model_init_123 : decode prog_8_method_1_code 123 = .ok (.newarray .int, 2) := by decide +kernel
theorem d_Model_init_125 : decode prog_8_method_1_code 125 = .ok (.putfield 54, 3) := by decide +kernel
theorem d_Model_init_128 : decode prog_8_method_1_code 128 = .ok (.aload_n 0, 1) := by decide +kernel
theorem d_Model_init_129 : decode prog_8_method_1_code 129 = .ok (.bipush 100, 2) := by decide +kernel
theorem d_Model_init_131 : decode prog_8_method_1_code 131 = .ok (.newarray .int, 2) := by decide +kernel
theorem d_Model_init_133 : decode prog_8_method_1_code 133 = .ok (.putfield 57, 3) := by decide +kernel
theorem d_Model_init_136 : decode prog_8_method_1_code 136 = .ok (.aload_n 0, 1) := by decide +kernel
theorem d_Model_init_137 : decode prog_8_method_1_code 137 = .ok (.bipush 16, 2) := by decide +kernel
theorem d_Model_init_139 : decode prog_8_method_1_code 139 = .ok (.newarray .int, 2) := by decide +kernel
theorem d_Model_init_141 : decode prog_8_method_1_code 141 = .ok (.putfield 60, 3) := by decide +kernel
theorem d_Model_init_144 : decode prog_8_method_1_code 144 = .ok (.aload_n 0, 1) := by decide +kernel
theorem d_Model_init_145 : decode prog_8_method_1_code 145 = .ok (.bipush 16, 2) := by decide +kernel
theorem d_Model_init_147 : decode prog_8_method_1_code 147 = .ok (.newarray .int, 2) := by decide +kernel
theorem d_Model_init_149 : decode prog_8_method_1_code 149 = .ok (.putfield 63, 3) := by decide +kernel
theorem d_Model_init_152 : decode prog_8_method_1_code 152 = .ok (.aload_n 0, 1) := by decide +kernel
theorem d_Model_init_153 : decode prog_8_method_1_code 153 = .ok (.bipush 16, 2) := by decide +kernel
theorem d_Model_init_155 : decode prog_8_method_1_code 155 = .ok (.newarray .int, 2) := by decide +kernel
theorem d_Model_init_157 : decode prog_8_method_1_code 157 = .ok (.putfield 66, 3) := by decide +kernel
theorem d_Model_init_160 : decode prog_8_method_1_code 160 = .ok (.iconst 0, 1) := by decide +kernel
theorem d_Model_init_161 : decode prog_8_method_1_code 161 = .ok (.istore_n 1, 1) := by decide +kernel
theorem d_Model_init_162 : decode prog_8_method_1_code 162 = .ok (.iload_n 1, 1) := by decide +kernel
theorem d_Model_init_163 : decode prog_8_method_1_code 163 = .ok (.bipush 16, 2) := by decide +kernel
theorem d_Model_init_165 : decode prog_8_method_1_code 165 = .ok (.if_icmp .ge 32, 3) := by decide +kernel
theorem d_Model_init_168 : decode prog_8_method_1_code 168 = .ok (.aload_n 0, 1) := by decide +kernel
theorem d_Model_init_169 : decode prog_8_method_1_code 169 = .ok (.getfield 23, 3) := by decide +kernel
theorem d_Model_init_172 : decode prog_8_method_1_code 172 = .ok (.iload_n 1, 1) := by decide +kernel
theorem d_Model_init_173 : decode prog_8_method_1_code 173 = .ok (.iconst (-1), 1) := by decide +kernel
theorem d_Model_init_174 : decode prog_8_method_1_code 174 = .ok (.iastore, 1) := by decide +kernel
theorem d_Model_init_175 : decode prog_8_method_1_code 175 = .ok (.aload_n 0, 1) := by decide +kernel
theorem d_Model_init_176 : decode prog_8_method_1_code 176 = .ok (.getfield 32, 3) := by decide +kernel
theorem d_Model_init_179 : decode prog_8_method_1_code 179 = .ok (.iload_n 1, 1) := by decide +kernel
theorem d_Model_init_180 : decode prog_8_method_1_code 180 = .ok (.bipush (-2), 2) := by decide +kernel
theorem d_Model_init_182 : decode prog_8_method_1_code 182 = .ok (.iastore, 1) := by decide +kernel
theorem d_Model_init_183 : decode prog_8_method_1_code 183 = .ok (.aload_n 0, 1) := by decide +kernel
theorem d_Model_init_184 : decode prog_8_method_1_code 184 = .ok (.getfield 35, 3) := by decide +kernel
theorem d_Model_init_187 : decode prog_8_method_1_code 187 = .ok (.iload_n 1, 1) := by decide +kernel
theorem d_Model_init_188 : decode prog_8_method_1_code 188 = .ok (.bipush (-2), 2) := by decide +kernel
theorem d_Model_init_190 : decode prog_8_method_1_code 190 = .ok (.iastore, 1) := by decide +kernel
theorem d_Model_init_191 : decode prog_8_method_1_code 191 = .ok (.iinc 1 1, 3) := by decide +kernel
theorem d_Model_init_194 : decode prog_8_method_1_code 194 = .ok (.goto (-32), 3) := by decide +kernel
theorem d_Model_init_197 : decode prog_8_method_1_code 197 = .ok (.return_, 1) := by decide +kernel
