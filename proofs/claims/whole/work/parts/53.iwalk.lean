set_option maxHeartbeats 4000000 in
set_option maxRecDepth 100000 in
theorem c_Bytes_init {l : Launch} {D : va_G} {cI cB cC cZ : ClassId} : gi_M l y_Bytes_init prog_2_method_1_code 1 { frames := 1, cells := 1, slots := 1024, locals := 40 } D (gTys cI cB cC cZ) 0 [.null] 1 1024 (fun h0 ws => ∃ r0 : Nat, ws = [(h0, .inr (0, [.ref r0])), (r0, .inl (cI, 1024, .inl (fun _ => 0)))]) := by
  refine gi_start (by decide +kernel) (by decide) rfl (fun X A h0 F => ?_)
  refine gi_aload_n F 0 d_Bytes_init_0 rfl rfl ?_
  refine gi_obj F tw_30 d_Bytes_init_1 (by decide) (by decide) ?_
  refine gi_aload_n F 0 d_Bytes_init_4 rfl rfl ?_
  refine gi_sipush (v := (1024 : Int32)) F d_Bytes_init_5 (by decide) ?_
  refine gi_newa F (ty := .int) (N := 1024) (a0 := (1024, .inl (fun _ => 0))) (cX := cI) rfl tw_35 (fun _ _ => rfl) 0 rfl (fun _ => rfl) (by decide) (by decide) (by decide) (by decide) (by decide) d_Bytes_init_8 (fun q8 => ?_)
  refine gi_putF F cin_Bytes cty_Bytes ctk_Bytes cnm_Bytes 0 rfl rfl 0 (by decide) tw_31 rfl rfl (ty := cty_Bytes 0) (ctk_Bytes 0 (by decide)) rfl rfl (Nat.le_of_ble_eq_true rfl) (ws' := [(h0, .inr (0, [.ref q8])), (q8, .inl (cI, 1024, .inl (fun _ => 0)))]) rfl d_Bytes_init_10 ?_
  exact gi_ret F ⟨q8, rfl⟩ rfl rfl d_Bytes_init_13
set_option maxHeartbeats 4000000 in
set_option maxRecDepth 100000 in
theorem c_Channel_init {l : Launch} {D : va_G} {cI cB cC cZ : ClassId} : gi_M l y_Channel_init prog_3_method_1_code 1 { frames := 1, cells := 1, slots := 8, locals := 40 } D (gTys cI cB cC cZ) 1 [.null, .int 0, .int 0, .int 0, .int 0, .int 0, .int 0] 1 8 (fun h0 ws => ∃ r0 : Nat, ws = [(h0, .inr (1, [.ref r0, .int 0, .int (-1), .int 0, .int 0, .int (-2), .int (-2)])), (r0, .inl (cI, 8, .inl (fun _ => 0)))]) := by
  refine gi_start (by decide +kernel) (by decide) rfl (fun X A h0 F => ?_)
  refine gi_aload_n F 0 d_Channel_init_0 rfl rfl ?_
  refine gi_obj F tw_103 d_Channel_init_1 (by decide) (by decide) ?_
  refine gi_aload_n F 0 d_Channel_init_4 rfl rfl ?_
  refine gi_bipush (v := (8 : Int32)) F d_Channel_init_5 (by decide) ?_
  refine gi_newa F (ty := .int) (N := 8) (a0 := (8, .inl (fun _ => 0))) (cX := cI) rfl tw_35 (fun _ _ => rfl) 0 rfl (fun _ => rfl) (by decide) (by decide) (by decide) (by decide) (by decide) d_Channel_init_7 (fun q7 => ?_)
  refine gi_putF F cin_Channel cty_Channel ctk_Channel cnm_Channel 0 rfl rfl 0 (by decide) tw_104 rfl rfl (ty := cty_Channel 0) (ctk_Channel 0 (by decide)) rfl rfl (Nat.le_of_ble_eq_true rfl) (ws' := [(h0, .inr (1, [.ref q7, .int 0, .int 0, .int 0, .int 0, .int 0, .int 0])), (q7, .inl (cI, 8, .inl (fun _ => 0)))]) rfl d_Channel_init_9 ?_
  refine gi_aload_n F 0 d_Channel_init_12 rfl rfl ?_
  refine gi_iconst (v := (0 : Int32)) F d_Channel_init_13 (by decide) ?_
  refine gi_put F cin_Channel cty_Channel ctk_Channel cnm_Channel 0 rfl rfl 1 (by decide) tw_105 rfl rfl (ty := cty_Channel 1) (ctk_Channel 1 (by decide)) rfl rfl (Nat.le_of_ble_eq_true rfl) (ws' := [(h0, .inr (1, [.ref q7, .int 0, .int 0, .int 0, .int 0, .int 0, .int 0])), (q7, .inl (cI, 8, .inl (fun _ => 0)))]) rfl d_Channel_init_14 ?_
  refine gi_aload_n F 0 d_Channel_init_17 rfl rfl ?_
  refine gi_iconst (v := (-1 : Int32)) F d_Channel_init_18 (by decide) ?_
  refine gi_put F cin_Channel cty_Channel ctk_Channel cnm_Channel 0 rfl rfl 2 (by decide) tw_107 rfl rfl (ty := cty_Channel 2) (ctk_Channel 2 (by decide)) rfl rfl (Nat.le_of_ble_eq_true rfl) (ws' := [(h0, .inr (1, [.ref q7, .int 0, .int (-1), .int 0, .int 0, .int 0, .int 0])), (q7, .inl (cI, 8, .inl (fun _ => 0)))]) rfl d_Channel_init_19 ?_
  refine gi_aload_n F 0 d_Channel_init_22 rfl rfl ?_
  refine gi_iconst (v := (0 : Int32)) F d_Channel_init_23 (by decide) ?_
  refine gi_put F cin_Channel cty_Channel ctk_Channel cnm_Channel 0 rfl rfl 3 (by decide) tw_110 rfl rfl (ty := cty_Channel 3) (ctk_Channel 3 (by decide)) rfl rfl (Nat.le_of_ble_eq_true rfl) (ws' := [(h0, .inr (1, [.ref q7, .int 0, .int (-1), .int 0, .int 0, .int 0, .int 0])), (q7, .inl (cI, 8, .inl (fun _ => 0)))]) rfl d_Channel_init_24 ?_
  refine gi_aload_n F 0 d_Channel_init_27 rfl rfl ?_
  refine gi_iconst (v := (0 : Int32)) F d_Channel_init_28 (by decide) ?_
  refine gi_put F cin_Channel cty_Channel ctk_Channel cnm_Channel 0 rfl rfl 4 (by decide) tw_112 rfl rfl (ty := cty_Channel 4) (ctk_Channel 4 (by decide)) rfl rfl (Nat.le_of_ble_eq_true rfl) (ws' := [(h0, .inr (1, [.ref q7, .int 0, .int (-1), .int 0, .int 0, .int 0, .int 0])), (q7, .inl (cI, 8, .inl (fun _ => 0)))]) rfl d_Channel_init_29 ?_
  refine gi_aload_n F 0 d_Channel_init_32 rfl rfl ?_
  refine gi_bipush (v := (-2 : Int32)) F d_Channel_init_33 (by decide) ?_
  refine gi_put F cin_Channel cty_Channel ctk_Channel cnm_Channel 0 rfl rfl 5 (by decide) tw_115 rfl rfl (ty := cty_Channel 5) (ctk_Channel 5 (by decide)) rfl rfl (Nat.le_of_ble_eq_true rfl) (ws' := [(h0, .inr (1, [.ref q7, .int 0, .int (-1), .int 0, .int 0, .int (-2), .int 0])), (q7, .inl (cI, 8, .inl (fun _ => 0)))]) rfl d_Channel_init_35 ?_
  refine gi_aload_n F 0 d_Channel_init_38 rfl rfl ?_
  refine gi_bipush (v := (-2 : Int32)) F d_Channel_init_39 (by decide) ?_
  refine gi_put F cin_Channel cty_Channel ctk_Channel cnm_Channel 0 rfl rfl 6 (by decide) tw_118 rfl rfl (ty := cty_Channel 6) (ctk_Channel 6 (by decide)) rfl rfl (Nat.le_of_ble_eq_true rfl) (ws' := [(h0, .inr (1, [.ref q7, .int 0, .int (-1), .int 0, .int 0, .int (-2), .int (-2)])), (q7, .inl (cI, 8, .inl (fun _ => 0)))]) rfl d_Channel_init_41 ?_
  exact gi_ret F ⟨q7, rfl⟩ rfl rfl d_Channel_init_44
set_option maxHeartbeats 4000000 in
set_option maxRecDepth 100000 in
theorem c_Pages_init {l : Launch} {D : va_G} {cI cB cC cZ : ClassId} : gi_M l y_Pages_init prog_4_method_1_code 1 { frames := 1, cells := 1, slots := 10240, locals := 40 } D (gTys cI cB cC cZ) 2 [.null, .int 0, .int 0] 1 10240 (fun h0 ws => ∃ r0 : Nat, ws = [(h0, .inr (2, [.ref r0, .int 0, .int 0])), (r0, .inl (cB, 10240, .inl (fun _ => 0)))]) := by
  refine gi_start (by decide +kernel) (by decide) rfl (fun X A h0 F => ?_)
  refine gi_aload_n F 0 d_Pages_init_0 rfl rfl ?_
  refine gi_obj F tw_51 d_Pages_init_1 (by decide) (by decide) ?_
  refine gi_aload_n F 0 d_Pages_init_4 rfl rfl ?_
  refine gi_sipush (v := (10240 : Int32)) F d_Pages_init_5 (by decide) ?_
  refine gi_newa F (ty := .byte) (N := 10240) (a0 := (10240, .inl (fun _ => 0))) (cX := cB) rfl tw_67 (fun _ _ => rfl) 1 rfl (fun _ => rfl) (by decide) (by decide) (by decide) (by decide) (by decide) d_Pages_init_8 (fun q8 => ?_)
  refine gi_putF F cin_Pages cty_Pages ctk_Pages cnm_Pages 0 rfl rfl 0 (by decide) tw_52 rfl rfl (ty := cty_Pages 0) (ctk_Pages 0 (by decide)) rfl rfl (Nat.le_of_ble_eq_true rfl) (ws' := [(h0, .inr (2, [.ref q8, .int 0, .int 0])), (q8, .inl (cB, 10240, .inl (fun _ => 0)))]) rfl d_Pages_init_10 ?_
  refine gi_aload_n F 0 d_Pages_init_13 rfl rfl ?_
  refine gi_iconst (v := (0 : Int32)) F d_Pages_init_14 (by decide) ?_
  refine gi_put F cin_Pages cty_Pages ctk_Pages cnm_Pages 0 rfl rfl 1 (by decide) tw_54 rfl rfl (ty := cty_Pages 1) (ctk_Pages 1 (by decide)) rfl rfl (Nat.le_of_ble_eq_true rfl) (ws' := [(h0, .inr (2, [.ref q8, .int 0, .int 0])), (q8, .inl (cB, 10240, .inl (fun _ => 0)))]) rfl d_Pages_init_15 ?_
  refine gi_aload_n F 0 d_Pages_init_18 rfl rfl ?_
  refine gi_iconst (v := (0 : Int32)) F d_Pages_init_19 (by decide) ?_
  refine gi_put F cin_Pages cty_Pages ctk_Pages cnm_Pages 0 rfl rfl 2 (by decide) tw_57 rfl rfl (ty := cty_Pages 2) (ctk_Pages 2 (by decide)) rfl rfl (Nat.le_of_ble_eq_true rfl) (ws' := [(h0, .inr (2, [.ref q8, .int 0, .int 0])), (q8, .inl (cB, 10240, .inl (fun _ => 0)))]) rfl d_Pages_init_20 ?_
  exact gi_ret F ⟨q8, rfl⟩ rfl rfl d_Pages_init_23
set_option maxHeartbeats 4000000 in
set_option maxRecDepth 100000 in
theorem c_Painter_init {l : Launch} {D : va_G} {cI cB cC cZ : ClassId} : gi_M l y_Painter_init prog_5_method_1_code 1 { frames := 2, cells := 7, slots := 11316, locals := 80 } D (gTys cI cB cC cZ) 3 [.null, .null, .null, .null, .null, .int 0, .int 0, .int 0] 7 11316 (fun h0 ws => ∃ r0 r1 r2 r3 r4 r5 r6 : Nat, ws = [(h0, .inr (3, [.ref r0, .ref r2, .ref r4, .ref r5, .ref r6, .int 0, .int 0, .int 0])), (r0, .inr (0, [.ref r1])), (r1, .inl (cI, 1024, .inl (fun _ => 0))), (r2, .inr (2, [.ref r3, .int 0, .int 0])), (r3, .inl (cB, 10240, .inl (fun _ => 0))), (r4, .inl (cI, 16, .inl (fun _ => 0))), (r5, .inl (cI, 16, .inl (fun _ => 0))), (r6, .inl (cI, 16, .inl (fun _ => 0)))]) := by
  refine gi_start (by decide +kernel) (by decide) rfl (fun X A h0 F => ?_)
  refine gi_aload_n F 0 d_Painter_init_0 rfl rfl ?_
  refine gi_obj F tw_43 d_Painter_init_1 (by decide) (by decide) ?_
  refine gi_aload_n F 0 d_Painter_init_4 rfl rfl ?_
  refine gi_make F (c_Bytes_init (l := l) (D := D) (cI := cI) (cB := cB) (cC := cC) (cZ := cZ)) cw_Bytes_init ci_Bytes_init rfl tw_45 cin_Bytes cty_Bytes ctk_Bytes tw_44 tw_26 tw_3 rfl (fun j hj => by rcases (show j = 0 by omega) with rfl <;> rfl) rfl rfl (by decide) (by decide) (by decide) (Nat.le_of_ble_eq_true rfl) d_Painter_init_5 d_Painter_init_8 d_Painter_init_9 (fun q5 w1 hw1 => ?_)
  obtain ⟨q5_0, rfl⟩ := hw1
  refine gi_putF F cin_Painter cty_Painter ctk_Painter cnm_Painter 0 rfl rfl 0 (by decide) tw_68 rfl rfl (ty := cty_Painter 0) (ctk_Painter 0 (by decide)) rfl rfl (Nat.le_of_ble_eq_true rfl) (ws' := [(h0, .inr (3, [.ref q5, .null, .null, .null, .null, .int 0, .int 0, .int 0])), (q5, .inr (0, [.ref q5_0])), (q5_0, .inl (cI, 1024, .inl (fun _ => 0)))]) rfl d_Painter_init_12 ?_
  refine gi_aload_n F 0 d_Painter_init_15 rfl rfl ?_
  refine gi_make F (c_Pages_init (l := l) (D := D) (cI := cI) (cB := cB) (cC := cC) (cZ := cZ)) cw_Pages_init ci_Pages_init rfl tw_48 cin_Pages cty_Pages ctk_Pages tw_46 tw_47 tw_5 rfl (fun j hj => by rcases (show j = 0 ∨ j = 1 ∨ j = 2 by omega) with rfl | rfl | rfl <;> rfl) rfl rfl (by decide) (by decide) (by decide) (Nat.le_of_ble_eq_true rfl) d_Painter_init_16 d_Painter_init_19 d_Painter_init_20 (fun q16 w1 hw1 => ?_)
  obtain ⟨q16_0, rfl⟩ := hw1
  refine gi_putF F cin_Painter cty_Painter ctk_Painter cnm_Painter 0 rfl rfl 1 (by decide) tw_70 rfl rfl (ty := cty_Painter 1) (ctk_Painter 1 (by decide)) rfl rfl (Nat.le_of_ble_eq_true rfl) (ws' := [(h0, .inr (3, [.ref q5, .ref q16, .null, .null, .null, .int 0, .int 0, .int 0])), (q5, .inr (0, [.ref q5_0])), (q5_0, .inl (cI, 1024, .inl (fun _ => 0))), (q16, .inr (2, [.ref q16_0, .int 0, .int 0])), (q16_0, .inl (cB, 10240, .inl (fun _ => 0)))]) rfl d_Painter_init_23 ?_
  refine gi_aload_n F 0 d_Painter_init_26 rfl rfl ?_
  refine gi_bipush (v := (16 : Int32)) F d_Painter_init_27 (by decide) ?_
  refine gi_newa F (ty := .int) (N := 16) (a0 := (16, .inl (fun _ => 0))) (cX := cI) rfl tw_35 (fun _ _ => rfl) 0 rfl (fun _ => rfl) (by decide) (by decide) (by decide) (by decide) (by decide) d_Painter_init_29 (fun q29 => ?_)
  refine gi_putF F cin_Painter cty_Painter ctk_Painter cnm_Painter 0 rfl rfl 2 (by decide) tw_73 rfl rfl (ty := cty_Painter 2) (ctk_Painter 2 (by decide)) rfl rfl (Nat.le_of_ble_eq_true rfl) (ws' := [(h0, .inr (3, [.ref q5, .ref q16, .ref q29, .null, .null, .int 0, .int 0, .int 0])), (q5, .inr (0, [.ref q5_0])), (q5_0, .inl (cI, 1024, .inl (fun _ => 0))), (q16, .inr (2, [.ref q16_0, .int 0, .int 0])), (q16_0, .inl (cB, 10240, .inl (fun _ => 0))), (q29, .inl (cI, 16, .inl (fun _ => 0)))]) rfl d_Painter_init_31 ?_
  refine gi_aload_n F 0 d_Painter_init_34 rfl rfl ?_
  refine gi_bipush (v := (16 : Int32)) F d_Painter_init_35 (by decide) ?_
  refine gi_newa F (ty := .int) (N := 16) (a0 := (16, .inl (fun _ => 0))) (cX := cI) rfl tw_35 (fun _ _ => rfl) 0 rfl (fun _ => rfl) (by decide) (by decide) (by decide) (by decide) (by decide) d_Painter_init_37 (fun q37 => ?_)
  refine gi_putF F cin_Painter cty_Painter ctk_Painter cnm_Painter 0 rfl rfl 3 (by decide) tw_74 rfl rfl (ty := cty_Painter 3) (ctk_Painter 3 (by decide)) rfl rfl (Nat.le_of_ble_eq_true rfl) (ws' := [(h0, .inr (3, [.ref q5, .ref q16, .ref q29, .ref q37, .null, .int 0, .int 0, .int 0])), (q5, .inr (0, [.ref q5_0])), (q5_0, .inl (cI, 1024, .inl (fun _ => 0))), (q16, .inr (2, [.ref q16_0, .int 0, .int 0])), (q16_0, .inl (cB, 10240, .inl (fun _ => 0))), (q29, .inl (cI, 16, .inl (fun _ => 0))), (q37, .inl (cI, 16, .inl (fun _ => 0)))]) rfl d_Painter_init_39 ?_
  refine gi_aload_n F 0 d_Painter_init_42 rfl rfl ?_
  refine gi_bipush (v := (16 : Int32)) F d_Painter_init_43 (by decide) ?_
  refine gi_newa F (ty := .int) (N := 16) (a0 := (16, .inl (fun _ => 0))) (cX := cI) rfl tw_35 (fun _ _ => rfl) 0 rfl (fun _ => rfl) (by decide) (by decide) (by decide) (by decide) (by decide) d_Painter_init_45 (fun q45 => ?_)
  refine gi_putF F cin_Painter cty_Painter ctk_Painter cnm_Painter 0 rfl rfl 4 (by decide) tw_75 rfl rfl (ty := cty_Painter 4) (ctk_Painter 4 (by decide)) rfl rfl (Nat.le_of_ble_eq_true rfl) (ws' := [(h0, .inr (3, [.ref q5, .ref q16, .ref q29, .ref q37, .ref q45, .int 0, .int 0, .int 0])), (q5, .inr (0, [.ref q5_0])), (q5_0, .inl (cI, 1024, .inl (fun _ => 0))), (q16, .inr (2, [.ref q16_0, .int 0, .int 0])), (q16_0, .inl (cB, 10240, .inl (fun _ => 0))), (q29, .inl (cI, 16, .inl (fun _ => 0))), (q37, .inl (cI, 16, .inl (fun _ => 0))), (q45, .inl (cI, 16, .inl (fun _ => 0)))]) rfl d_Painter_init_47 ?_
  refine gi_aload_n F 0 d_Painter_init_50 rfl rfl ?_
  refine gi_iconst (v := (0 : Int32)) F d_Painter_init_51 (by decide) ?_
  refine gi_put F cin_Painter cty_Painter ctk_Painter cnm_Painter 0 rfl rfl 5 (by decide) tw_76 rfl rfl (ty := cty_Painter 5) (ctk_Painter 5 (by decide)) rfl rfl (Nat.le_of_ble_eq_true rfl) (ws' := [(h0, .inr (3, [.ref q5, .ref q16, .ref q29, .ref q37, .ref q45, .int 0, .int 0, .int 0])), (q5, .inr (0, [.ref q5_0])), (q5_0, .inl (cI, 1024, .inl (fun _ => 0))), (q16, .inr (2, [.ref q16_0, .int 0, .int 0])), (q16_0, .inl (cB, 10240, .inl (fun _ => 0))), (q29, .inl (cI, 16, .inl (fun _ => 0))), (q37, .inl (cI, 16, .inl (fun _ => 0))), (q45, .inl (cI, 16, .inl (fun _ => 0)))]) rfl d_Painter_init_52 ?_
  refine gi_aload_n F 0 d_Painter_init_55 rfl rfl ?_
  refine gi_iconst (v := (0 : Int32)) F d_Painter_init_56 (by decide) ?_
  refine gi_put F cin_Painter cty_Painter ctk_Painter cnm_Painter 0 rfl rfl 6 (by decide) tw_78 rfl rfl (ty := cty_Painter 6) (ctk_Painter 6 (by decide)) rfl rfl (Nat.le_of_ble_eq_true rfl) (ws' := [(h0, .inr (3, [.ref q5, .ref q16, .ref q29, .ref q37, .ref q45, .int 0, .int 0, .int 0])), (q5, .inr (0, [.ref q5_0])), (q5_0, .inl (cI, 1024, .inl (fun _ => 0))), (q16, .inr (2, [.ref q16_0, .int 0, .int 0])), (q16_0, .inl (cB, 10240, .inl (fun _ => 0))), (q29, .inl (cI, 16, .inl (fun _ => 0))), (q37, .inl (cI, 16, .inl (fun _ => 0))), (q45, .inl (cI, 16, .inl (fun _ => 0)))]) rfl d_Painter_init_57 ?_
  refine gi_aload_n F 0 d_Painter_init_60 rfl rfl ?_
  refine gi_iconst (v := (0 : Int32)) F d_Painter_init_61 (by decide) ?_
  refine gi_put F cin_Painter cty_Painter ctk_Painter cnm_Painter 0 rfl rfl 7 (by decide) tw_80 rfl rfl (ty := cty_Painter 7) (ctk_Painter 7 (by decide)) rfl rfl (Nat.le_of_ble_eq_true rfl) (ws' := [(h0, .inr (3, [.ref q5, .ref q16, .ref q29, .ref q37, .ref q45, .int 0, .int 0, .int 0])), (q5, .inr (0, [.ref q5_0])), (q5_0, .inl (cI, 1024, .inl (fun _ => 0))), (q16, .inr (2, [.ref q16_0, .int 0, .int 0])), (q16_0, .inl (cB, 10240, .inl (fun _ => 0))), (q29, .inl (cI, 16, .inl (fun _ => 0))), (q37, .inl (cI, 16, .inl (fun _ => 0))), (q45, .inl (cI, 16, .inl (fun _ => 0)))]) rfl d_Painter_init_62 ?_
  exact gi_ret F ⟨q5, q5_0, q16, q16_0, q29, q37, q45, rfl⟩ rfl rfl d_Painter_init_65
