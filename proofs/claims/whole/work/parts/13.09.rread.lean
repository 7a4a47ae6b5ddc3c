section
variable {l : Launch} {D : va_G} {cI cB cC cZ : ClassId} {ad : Nat → Nat}
noncomputable def f_Model_read   (S : gw_S)  : Int32 × gw_S := (gw_n (S 2 ((S 0 29) : Int32).toNatClampNeg) fun v9 => gw_n (gw_u S 0 29 (((S 0 29) + (1 : Int32)) &&& (1023 : Int32))) fun S21 => (v9, S21))
set_option maxHeartbeats 4000000 in
set_option maxRecDepth 100000 in
theorem c_Model_read (hJ : gw_J 20 ad)   (S : gw_S)  (hf_ok : rOK S) : gw_M l y_Model_read prog_8_method_31_code 2 (some .int) gTs (gw_rm 0) D gCl (gTys cI cB cC cZ) 20 ad (rE ad cI cB cZ) gw_rI [.ref (ad 0)] S (f_Model_read S) := by
  refine gw_start gTs_ok (plainFor_of_name (by decide)) hJ (Nat.le_of_ble_eq_true rfl) (fun X A F => ?_)
  refine gw_lve (lv' := [(0, .ref (ad 0))]) rfl ?_
  unfold f_Model_read
  refine gw_aload_n (pc := 0) F 0 d_Model_read_0 rfl rfl ?_
  refine rg_Model_shapes (pc := 1) F tw_408 d_Model_read_1 ?_
  refine gw_aload_n (pc := 4) F 0 d_Model_read_4 rfl rfl ?_
  refine rg_Model_reading (pc := 5) F tw_436 d_Model_read_5 ?_
  refine rl_MShp (pc := 8) F ((hf_ok 0 29).2.2.1 rfl rfl) d_Model_read_8 ?_
  refine gw_nI (fun v9 e9 => ?_)
  refine gw_istore_n (pc := 9) (lv' := [(1, .int v9), (0, .ref (ad 0))]) F d_Model_read_9 rfl (by decide) rfl ?_
  refine gw_aload_n (pc := 10) F 1 d_Model_read_10 rfl rfl ?_
  refine gw_aload_n (pc := 11) F 1 d_Model_read_11 rfl rfl ?_
  refine rg_Model_reading (pc := 12) F tw_436 d_Model_read_12 ?_
  refine gw_iconst (pc := 15) (v := (1 : Int32)) F d_Model_read_15 (by decide) ?_
  refine gw_iadd (pc := 16) F d_Model_read_16 ?_
  refine gw_sipush (pc := 17) (v := (1023 : Int32)) F d_Model_read_17 (by decide) ?_
  refine gw_iand (pc := 20) F d_Model_read_20 ?_
  refine rp_Model_reading (pc := 21) F tw_436 d_Model_read_21 ?_
  refine gw_nS (fun S21 E21 => ?_)
  refine gw_iload_n (pc := 24) F 0 d_Model_read_24 rfl rfl ?_
  exact gw_iret (pc := 25) F d_Model_read_25
set_option maxHeartbeats 4000000 in
set_option maxRecDepth 100000 in
theorem po_at_Model_read   (S : gw_S)  (hf_at : vp_in (S 0 18) 1024) : vp_in ((f_Model_read S).2 0 18) 1024 := by
  unfold f_Model_read
  refine po_n (Φ := fun p : Int32 × gw_S => vp_in (p.2 0 18) 1024) (fun v9 e9 => ?_)
  refine po_n (Φ := fun p : Int32 × gw_S => vp_in (p.2 0 18) 1024) (fun S21 E21 => ?_)
  exact (rOK_keep (P := fun z => vp_in z 1024) E21 hf_at (by omega))
set_option maxHeartbeats 4000000 in
set_option maxRecDepth 100000 in
theorem po_ok_Model_read   (S : gw_S)  (hf_ok : rOK S) : rOK (f_Model_read S).2 := by
  unfold f_Model_read
  refine po_n (Φ := fun p : Int32 × gw_S => rOK p.2) (fun v9 e9 => ?_)
  refine po_n (Φ := fun p : Int32 × gw_S => rOK p.2) (fun S21 E21 => ?_)
  exact (rOK_rd E21 hf_ok (gw_and1023 _))
set_option maxHeartbeats 4000000 in
set_option maxRecDepth 100000 in
theorem po_pz_Model_read {ζ : Int32}   (S : gw_S)  (hf_pz : S 0 23 = ζ) : (f_Model_read S).2 0 23 = ζ := by
  unfold f_Model_read
  refine po_n (Φ := fun p : Int32 × gw_S => p.2 0 23 = ζ) (fun v9 e9 => ?_)
  refine po_n (Φ := fun p : Int32 × gw_S => p.2 0 23 = ζ) (fun S21 E21 => ?_)
  exact (rOK_keep (P := fun z => z = ζ) E21 hf_pz (by omega))
set_option maxHeartbeats 4000000 in
set_option maxRecDepth 100000 in
theorem po_dz_Model_read {δ : Int32}   (S : gw_S)  (hf_dz : S 0 21 = δ) : (f_Model_read S).2 0 21 = δ := by
  unfold f_Model_read
  refine po_n (Φ := fun p : Int32 × gw_S => p.2 0 21 = δ) (fun v9 e9 => ?_)
  refine po_n (Φ := fun p : Int32 × gw_S => p.2 0 21 = δ) (fun S21 E21 => ?_)
  exact (rOK_keep (P := fun z => z = δ) E21 hf_dz (by omega))
set_option maxHeartbeats 4000000 in
set_option maxRecDepth 100000 in
theorem po_wz_Model_read {ω : Nat → Int32}   (S : gw_S)  (hf_wz : S 16 = ω) : (f_Model_read S).2 16 = ω := by
  unfold f_Model_read
  refine po_n (Φ := fun p : Int32 × gw_S => p.2 16 = ω) (fun v9 e9 => ?_)
  refine po_n (Φ := fun p : Int32 × gw_S => p.2 16 = ω) (fun S21 E21 => ?_)
  exact (rWk E21 hf_wz (by omega))
set_option maxHeartbeats 4000000 in
set_option maxRecDepth 100000 in
theorem po_st_Model_read   (S : gw_S)  (hf_st : rST S) : rST (f_Model_read S).2 := by
  unfold f_Model_read
  refine po_n (Φ := fun p : Int32 × gw_S => rST p.2) (fun v9 e9 => ?_)
  refine po_n (Φ := fun p : Int32 × gw_S => rST p.2) (fun S21 E21 => ?_)
  exact (rSTk E21 hf_st (by omega) (by omega))
set_option maxHeartbeats 4000000 in
set_option maxRecDepth 100000 in
theorem po_nz_Model_read {ν : Int32}   (S : gw_S)  (hf_nz : S 0 14 = ν) : (f_Model_read S).2 0 14 = ν := by
  unfold f_Model_read
  refine po_n (Φ := fun p : Int32 × gw_S => p.2 0 14 = ν) (fun v9 e9 => ?_)
  refine po_n (Φ := fun p : Int32 × gw_S => p.2 0 14 = ν) (fun S21 E21 => ?_)
  exact (rOK_keep (P := fun z => z = ν) E21 hf_nz (by omega))
noncomputable def f_Model_scaled   (S : gw_S) (a1 : Int32) : Int32 × gw_S := (gw_b (f_Model_div S (((a1 : Int32).toInt64) * (((S 0 22) : Int32).toInt64)) (64 : Int64)) fun r11 S11 => (((r11 : Int64).toInt32), S11))
set_option maxHeartbeats 4000000 in
set_option maxRecDepth 100000 in
theorem c_Model_scaled (hJ : gw_J 20 ad)   (S : gw_S) (a1 : Int32) : gw_M l y_Model_scaled prog_8_method_32_code 2 (some .int) gTs (gw_rm 1) D gCl (gTys cI cB cC cZ) 20 ad (rE ad cI cB cZ) gw_rI [.ref (ad 0), .int a1] S (f_Model_scaled S a1) := by
  refine gw_start gTs_ok (plainFor_of_name (by decide)) hJ (Nat.le_of_ble_eq_true rfl) (fun X A F => ?_)
  refine gw_lve (lv' := [(0, .ref (ad 0)), (1, .int a1)]) rfl ?_
  unfold f_Model_scaled
  refine gw_iload_n (pc := 0) F 1 d_Model_scaled_0 rfl rfl ?_
  refine gw_i2l (pc := 1) F d_Model_scaled_1 ?_
  refine gw_aload_n (pc := 2) F 0 d_Model_scaled_2 rfl rfl ?_
  refine rg_Model_zoom (pc := 3) F tw_429 d_Model_scaled_3 ?_
  refine gw_i2l (pc := 6) F d_Model_scaled_6 ?_
  refine gw_lmul (pc := 7) F d_Model_scaled_7 ?_
  refine gw_ldc2 (pc := 8) (v := (64 : Int64)) F tw_637 d_Model_scaled_8 ?_
  refine gw_cS (pc := 11) (As := [.long (((a1 : Int32).toInt64) * (((S 0 22) : Int32).toInt64)), .long (64 : Int64)]) (rest := []) F (c_Model_div (gw_FJ F) S (((a1 : Int32).toInt64) * (((S 0 22) : Int32).toInt64)) (64 : Int64) (by decide)) cw_Model_div cv_Model_div tw_638 rfl (by decide) (by decide) rfl rfl (Nat.le_of_ble_eq_true rfl) d_Model_scaled_11 (gw_bJ (P := fun r U => True) trivial (fun r11 S11 p11 => ?_))
  refine gw_l2i (pc := 14) F d_Model_scaled_14 ?_
  exact gw_iret (pc := 15) F d_Model_scaled_15
set_option maxHeartbeats 4000000 in
set_option maxRecDepth 100000 in
theorem po_at_Model_scaled   (S : gw_S) (a1 : Int32) (hf_at : vp_in (S 0 18) 1024) : vp_in ((f_Model_scaled S a1).2 0 18) 1024 := by
  unfold f_Model_scaled
  refine po_b (Φ := fun p : Int32 × gw_S => vp_in (p.2 0 18) 1024) (P := fun r U => vp_in (U 0 18) 1024) (po_at_Model_div S (((a1 : Int32).toInt64) * (((S 0 22) : Int32).toInt64)) (64 : Int64) hf_at (by decide)) (fun r11 S11 p11 => ?_)
  exact p11
set_option maxHeartbeats 4000000 in
set_option maxRecDepth 100000 in
theorem po_ok_Model_scaled   (S : gw_S) (a1 : Int32) (hf_ok : rOK S) : rOK (f_Model_scaled S a1).2 := by
  unfold f_Model_scaled
  refine po_b (Φ := fun p : Int32 × gw_S => rOK p.2) (P := fun r U => rOK U) (po_ok_Model_div S (((a1 : Int32).toInt64) * (((S 0 22) : Int32).toInt64)) (64 : Int64) hf_ok (by decide)) (fun r11 S11 p11 => ?_)
  exact p11
set_option maxHeartbeats 4000000 in
set_option maxRecDepth 100000 in
theorem po_pz_Model_scaled {ζ : Int32}   (S : gw_S) (a1 : Int32) (hf_pz : S 0 23 = ζ) : (f_Model_scaled S a1).2 0 23 = ζ := by
  unfold f_Model_scaled
  refine po_b (Φ := fun p : Int32 × gw_S => p.2 0 23 = ζ) (P := fun r U => U 0 23 = ζ) (po_pz_Model_div S (((a1 : Int32).toInt64) * (((S 0 22) : Int32).toInt64)) (64 : Int64) hf_pz (by decide)) (fun r11 S11 p11 => ?_)
  exact p11
set_option maxHeartbeats 4000000 in
set_option maxRecDepth 100000 in
theorem po_dz_Model_scaled {δ : Int32}   (S : gw_S) (a1 : Int32) (hf_dz : S 0 21 = δ) : (f_Model_scaled S a1).2 0 21 = δ := by
  unfold f_Model_scaled
  refine po_b (Φ := fun p : Int32 × gw_S => p.2 0 21 = δ) (P := fun r U => U 0 21 = δ) (po_dz_Model_div S (((a1 : Int32).toInt64) * (((S 0 22) : Int32).toInt64)) (64 : Int64) hf_dz (by decide)) (fun r11 S11 p11 => ?_)
  exact p11
set_option maxHeartbeats 4000000 in
set_option maxRecDepth 100000 in
theorem po_wz_Model_scaled {ω : Nat → Int32}   (S : gw_S) (a1 : Int32) (hf_wz : S 16 = ω) : (f_Model_scaled S a1).2 16 = ω := by
  unfold f_Model_scaled
  refine po_b (Φ := fun p : Int32 × gw_S => p.2 16 = ω) (P := fun r U => U 16 = ω) (po_wz_Model_div S (((a1 : Int32).toInt64) * (((S 0 22) : Int32).toInt64)) (64 : Int64) hf_wz (by decide)) (fun r11 S11 p11 => ?_)
  exact p11
set_option maxHeartbeats 4000000 in
set_option maxRecDepth 100000 in
theorem po_st_Model_scaled   (S : gw_S) (a1 : Int32) (hf_st : rST S) : rST (f_Model_scaled S a1).2 := by
  unfold f_Model_scaled
  refine po_b (Φ := fun p : Int32 × gw_S => rST p.2) (P := fun r U => rST U) (po_st_Model_div S (((a1 : Int32).toInt64) * (((S 0 22) : Int32).toInt64)) (64 : Int64) hf_st (by decide)) (fun r11 S11 p11 => ?_)
  exact p11
set_option maxHeartbeats 4000000 in
set_option maxRecDepth 100000 in
theorem po_nz_Model_scaled {ν : Int32}   (S : gw_S) (a1 : Int32) (hf_nz : S 0 14 = ν) : (f_Model_scaled S a1).2 0 14 = ν := by
  unfold f_Model_scaled
  refine po_b (Φ := fun p : Int32 × gw_S => p.2 0 14 = ν) (P := fun r U => U 0 14 = ν) (po_nz_Model_div S (((a1 : Int32).toInt64) * (((S 0 22) : Int32).toInt64)) (64 : Int64) hf_nz (by decide)) (fun r11 S11 p11 => ?_)
  exact p11
noncomputable def f_Model_side   (S : gw_S) (a1 : Int32) (a2 : Int32) (a3 : Int32) (a4 : Int32) : Int64 × gw_S := (gw_b (f_Model_div S ((65536 : Int64) * (((a2 - a1) : Int32).toInt64)) ((a3 : Int32).toInt64)) fun r10 S10 => gw_b (f_Model_div S10 ((((65536 : Int64) * ((a1 : Int32).toInt64)) + (32768 : Int64)) + (((a4 : Int32).toInt64) * r10)) (65536 : Int64)) fun r34 S34 => (r34, S34))
set_option maxHeartbeats 4000000 in
set_option maxRecDepth 100000 in
theorem c_Model_side (hJ : gw_J 20 ad)   (S : gw_S) (a1 : Int32) (a2 : Int32) (a3 : Int32) (a4 : Int32) (hz : ¬ (a3 : Int32).toInt64 = 0) : gw_M l y_Model_side prog_8_method_39_code 6 (some .long) gTs (gw_rm 1) D gCl (gTys cI cB cC cZ) 20 ad (rE ad cI cB cZ) gw_rJ [.int a1, .int a2, .int a3, .int a4] S (f_Model_side S a1 a2 a3 a4) := by
  refine gw_start gTs_ok (plainFor_of_name (by decide)) hJ (Nat.le_of_ble_eq_true rfl) (fun X A F => ?_)
  refine gw_lve (lv' := [(0, .int a1), (1, .int a2), (2, .int a3), (3, .int a4)]) rfl ?_
  unfold f_Model_side
  refine gw_ldc2 (pc := 0) (v := (65536 : Int64)) F tw_649 d_Model_side_0 ?_
  refine gw_iload_n (pc := 3) F 1 d_Model_side_3 rfl rfl ?_
  refine gw_iload_n (pc := 4) F 0 d_Model_side_4 rfl rfl ?_
  refine gw_isub (pc := 5) F d_Model_side_5 ?_
  refine gw_i2l (pc := 6) F d_Model_side_6 ?_
  refine gw_lmul (pc := 7) F d_Model_side_7 ?_
  refine gw_iload_n (pc := 8) F 2 d_Model_side_8 rfl rfl ?_
  refine gw_i2l (pc := 9) F d_Model_side_9 ?_
  refine gw_cS (pc := 10) (As := [.long ((65536 : Int64) * (((a2 - a1) : Int32).toInt64)), .long ((a3 : Int32).toInt64)]) (rest := []) F (c_Model_div (gw_FJ F) S ((65536 : Int64) * (((a2 - a1) : Int32).toInt64)) ((a3 : Int32).toInt64) hz) cw_Model_div cv_Model_div tw_638 rfl (by decide) (by decide) rfl rfl (Nat.le_of_ble_eq_true rfl) d_Model_side_10 (gw_bJ (P := fun r U => True) trivial (fun r10 S10 p10 => ?_))
  refine gw_lstore (pc := 13) (lv' := [(4, .long r10), (0, .int a1), (1, .int a2), (2, .int a3), (3, .int a4)]) F d_Model_side_13 (by decide) rfl ?_
  refine gw_ldc2 (pc := 15) (v := (65536 : Int64)) F tw_649 d_Model_side_15 ?_
  refine gw_iload_n (pc := 18) F 1 d_Model_side_18 rfl rfl ?_
  refine gw_i2l (pc := 19) F d_Model_side_19 ?_
  refine gw_lmul (pc := 20) F d_Model_side_20 ?_
  refine gw_ldc2 (pc := 21) (v := (32768 : Int64)) F tw_650 d_Model_side_21 ?_
  refine gw_ladd (pc := 24) F d_Model_side_24 ?_
  refine gw_iload_n (pc := 25) F 4 d_Model_side_25 rfl rfl ?_
  refine gw_i2l (pc := 26) F d_Model_side_26 ?_
  refine gw_lload (pc := 27) F 0 d_Model_side_27 rfl ?_
  refine gw_lmul (pc := 29) F d_Model_side_29 ?_
  refine gw_ladd (pc := 30) F d_Model_side_30 ?_
  refine gw_ldc2 (pc := 31) (v := (65536 : Int64)) F tw_649 d_Model_side_31 ?_
  refine gw_cS (pc := 34) (As := [.long ((((65536 : Int64) * ((a1 : Int32).toInt64)) + (32768 : Int64)) + (((a4 : Int32).toInt64) * r10)), .long (65536 : Int64)]) (rest := []) F (c_Model_div (gw_FJ F) S10 ((((65536 : Int64) * ((a1 : Int32).toInt64)) + (32768 : Int64)) + (((a4 : Int32).toInt64) * r10)) (65536 : Int64) (by decide)) cw_Model_div cv_Model_div tw_638 rfl (by decide) (by decide) rfl rfl (Nat.le_of_ble_eq_true rfl) d_Model_side_34 (gw_bJ (P := fun r U => True) trivial (fun r34 S34 p34 => ?_))
  exact gw_lret (pc := 37) F d_Model_side_37
set_option maxHeartbeats 4000000 in
set_option maxRecDepth 100000 in
theorem po_at_Model_side   (S : gw_S) (a1 : Int32) (a2 : Int32) (a3 : Int32) (a4 : Int32) (hf_at : vp_in (S 0 18) 1024) (hz : ¬ (a3 : Int32).toInt64 = 0) : vp_in ((f_Model_side S a1 a2 a3 a4).2 0 18) 1024 := by
  unfold f_Model_side
  refine po_b (Φ := fun p : Int64 × gw_S => vp_in (p.2 0 18) 1024) (P := fun r U => vp_in (U 0 18) 1024) (po_at_Model_div S ((65536 : Int64) * (((a2 - a1) : Int32).toInt64)) ((a3 : Int32).toInt64) hf_at hz) (fun r10 S10 p10 => ?_)
  refine po_b (Φ := fun p : Int64 × gw_S => vp_in (p.2 0 18) 1024) (P := fun r U => vp_in (U 0 18) 1024) (po_at_Model_div S10 ((((65536 : Int64) * ((a1 : Int32).toInt64)) + (32768 : Int64)) + (((a4 : Int32).toInt64) * r10)) (65536 : Int64) p10 (by decide)) (fun r34 S34 p34 => ?_)
  exact p34
set_option maxHeartbeats 4000000 in
set_option maxRecDepth 100000 in
theorem po_ok_Model_side   (S : gw_S) (a1 : Int32) (a2 : Int32) (a3 : Int32) (a4 : Int32) (hf_ok : rOK S) (hz : ¬ (a3 : Int32).toInt64 = 0) : rOK (f_Model_side S a1 a2 a3 a4).2 := by
  unfold f_Model_side
  refine po_b (Φ := fun p : Int64 × gw_S => rOK p.2) (P := fun r U => rOK U) (po_ok_Model_div S ((65536 : Int64) * (((a2 - a1) : Int32).toInt64)) ((a3 : Int32).toInt64) hf_ok hz) (fun r10 S10 p10 => ?_)
  refine po_b (Φ := fun p : Int64 × gw_S => rOK p.2) (P := fun r U => rOK U) (po_ok_Model_div S10 ((((65536 : Int64) * ((a1 : Int32).toInt64)) + (32768 : Int64)) + (((a4 : Int32).toInt64) * r10)) (65536 : Int64) p10 (by decide)) (fun r34 S34 p34 => ?_)
  exact p34
set_option maxHeartbeats 4000000 in
set_option maxRecDepth 100000 in
theorem po_pz_Model_side {ζ : Int32}   (S : gw_S) (a1 : Int32) (a2 : Int32) (a3 : Int32) (a4 : Int32) (hf_pz : S 0 23 = ζ) (hz : ¬ (a3 : Int32).toInt64 = 0) : (f_Model_side S a1 a2 a3 a4).2 0 23 = ζ := by
  unfold f_Model_side
  refine po_b (Φ := fun p : Int64 × gw_S => p.2 0 23 = ζ) (P := fun r U => U 0 23 = ζ) (po_pz_Model_div S ((65536 : Int64) * (((a2 - a1) : Int32).toInt64)) ((a3 : Int32).toInt64) hf_pz hz) (fun r10 S10 p10 => ?_)
  refine po_b (Φ := fun p : Int64 × gw_S => p.2 0 23 = ζ) (P := fun r U => U 0 23 = ζ) (po_pz_Model_div S10 ((((65536 : Int64) * ((a1 : Int32).toInt64)) + (32768 : Int64)) + (((a4 : Int32).toInt64) * r10)) (65536 : Int64) p10 (by decide)) (fun r34 S34 p34 => ?_)
  exact p34
set_option maxHeartbeats 4000000 in
set_option maxRecDepth 100000 in
theorem po_dz_Model_side {δ : Int32}   (S : gw_S) (a1 : Int32) (a2 : Int32) (a3 : Int32) (a4 : Int32) (hf_dz : S 0 21 = δ) (hz : ¬ (a3 : Int32).toInt64 = 0) : (f_Model_side S a1 a2 a3 a4).2 0 21 = δ := by
  unfold f_Model_side
  refine po_b (Φ := fun p : Int64 × gw_S => p.2 0 21 = δ) (P := fun r U => U 0 21 = δ) (po_dz_Model_div S ((65536 : Int64) * (((a2 - a1) : Int32).toInt64)) ((a3 : Int32).toInt64) hf_dz hz) (fun r10 S10 p10 => ?_)
  refine po_b (Φ := fun p : Int64 × gw_S => p.2 0 21 = δ) (P := fun r U => U 0 21 = δ) (po_dz_Model_div S10 ((((65536 : Int64) * ((a1 : Int32).toInt64)) + (32768 : Int64)) + (((a4 : Int32).toInt64) * r10)) (65536 : Int64) p10 (by decide)) (fun r34 S34 p34 => ?_)
  exact p34
set_option maxHeartbeats 4000000 in
set_option maxRecDepth 100000 in
theorem po_wz_Model_side {ω : Nat → Int32}   (S : gw_S) (a1 : Int32) (a2 : Int32) (a3 : Int32) (a4 : Int32) (hf_wz : S 16 = ω) (hz : ¬ (a3 : Int32).toInt64 = 0) : (f_Model_side S a1 a2 a3 a4).2 16 = ω := by
  unfold f_Model_side
  refine po_b (Φ := fun p : Int64 × gw_S => p.2 16 = ω) (P := fun r U => U 16 = ω) (po_wz_Model_div S ((65536 : Int64) * (((a2 - a1) : Int32).toInt64)) ((a3 : Int32).toInt64) hf_wz hz) (fun r10 S10 p10 => ?_)
  refine po_b (Φ := fun p : Int64 × gw_S => p.2 16 = ω) (P := fun r U => U 16 = ω) (po_wz_Model_div S10 ((((65536 : Int64) * ((a1 : Int32).toInt64)) + (32768 : Int64)) + (((a4 : Int32).toInt64) * r10)) (65536 : Int64) p10 (by decide)) (fun r34 S34 p34 => ?_)
  exact p34
set_option maxHeartbeats 4000000 in
set_option maxRecDepth 100000 in
theorem po_st_Model_side   (S : gw_S) (a1 : Int32) (a2 : Int32) (a3 : Int32) (a4 : Int32) (hf_st : rST S) (hz : ¬ (a3 : Int32).toInt64 = 0) : rST (f_Model_side S a1 a2 a3 a4).2 := by
  unfold f_Model_side
  refine po_b (Φ := fun p : Int64 × gw_S => rST p.2) (P := fun r U => rST U) (po_st_Model_div S ((65536 : Int64) * (((a2 - a1) : Int32).toInt64)) ((a3 : Int32).toInt64) hf_st hz) (fun r10 S10 p10 => ?_)
  refine po_b (Φ := fun p : Int64 × gw_S => rST p.2) (P := fun r U => rST U) (po_st_Model_div S10 ((((65536 : Int64) * ((a1 : Int32).toInt64)) + (32768 : Int64)) + (((a4 : Int32).toInt64) * r10)) (65536 : Int64) p10 (by decide)) (fun r34 S34 p34 => ?_)
  exact p34
set_option maxHeartbeats 4000000 in
set_option maxRecDepth 100000 in
theorem po_nz_Model_side {ν : Int32}   (S : gw_S) (a1 : Int32) (a2 : Int32) (a3 : Int32) (a4 : Int32) (hf_nz : S 0 14 = ν) (hz : ¬ (a3 : Int32).toInt64 = 0) : (f_Model_side S a1 a2 a3 a4).2 0 14 = ν := by
  unfold f_Model_side
  refine po_b (Φ := fun p : Int64 × gw_S => p.2 0 14 = ν) (P := fun r U => U 0 14 = ν) (po_nz_Model_div S ((65536 : Int64) * (((a2 - a1) : Int32).toInt64)) ((a3 : Int32).toInt64) hf_nz hz) (fun r10 S10 p10 => ?_)
  refine po_b (Φ := fun p : Int64 × gw_S => p.2 0 14 = ν) (P := fun r U => U 0 14 = ν) (po_nz_Model_div S10 ((((65536 : Int64) * ((a1 : Int32).toInt64)) + (32768 : Int64)) + (((a4 : Int32).toInt64) * r10)) (65536 : Int64) p10 (by decide)) (fun r34 S34 p34 => ?_)
  exact p34
noncomputable def f_Model_channel   (S : gw_S) (a1 : Int32) (a2 : Int32) : Int32 × gw_S := (gw_b (f_Model_in S a1 (0 : Int32) (15 : Int32)) fun r4 S4 => if r4 = 0 then (((-1 : Int32), S4)) else (if a2 = 0 then (((S4 5 (a1 : Int32).toNatClampNeg), S4)) else (if a2 = 1 then (if (S4 10 (a1 : Int32).toNatClampNeg) = 0 then (((0 : Int32), S4)) else (((1 : Int32), S4))) else (if a2 = 2 then (((S4 6 (a1 : Int32).toNatClampNeg), S4)) else (if a2 = 3 then (((S4 7 (a1 : Int32).toNatClampNeg), S4)) else (if a2 = 4 then (((S4 8 (a1 : Int32).toNatClampNeg), S4)) else (((-1 : Int32), S4))))))))
set_option maxHeartbeats 4000000 in
set_option maxRecDepth 100000 in
theorem c_Model_channel (hJ : gw_J 20 ad)   (S : gw_S) (a1 : Int32) (a2 : Int32) : gw_M l y_Model_channel prog_8_method_41_code 3 (some .int) gTs (gw_rm 1) D gCl (gTys cI cB cC cZ) 20 ad (rE ad cI cB cZ) gw_rI [.ref (ad 0), .int a1, .int a2] S (f_Model_channel S a1 a2) := by
  refine gw_start gTs_ok (plainFor_of_name (by decide)) hJ (Nat.le_of_ble_eq_true rfl) (fun X A F => ?_)
  refine gw_lve (lv' := [(0, .ref (ad 0)), (1, .int a1), (2, .int a2)]) rfl ?_
  unfold f_Model_channel
  refine gw_iload_n (pc := 0) F 1 d_Model_channel_0 rfl rfl ?_
  refine gw_iconst (pc := 1) (v := (0 : Int32)) F d_Model_channel_1 (by decide) ?_
  refine gw_bipush (pc := 2) (v := (15 : Int32)) F d_Model_channel_2 (by decide) ?_
  refine gw_cS (pc := 4) (As := [.int a1, .int (0 : Int32), .int (15 : Int32)]) (rest := []) F (c_Model_in (gw_FJ F) S a1 (0 : Int32) (15 : Int32)) cw_Model_in cv_Model_in tw_512 rfl (by decide) (by decide) rfl rfl (Nat.le_of_ble_eq_true rfl) d_Model_channel_4 (gw_bI (P := fun r U => (¬ r = 0 → vp_in a1 16)) (rb_in16 S a1) (fun r4 S4 p4 => ?_))
  refine gw_if_neS (pc := 7) (tgt := 12) F d_Model_channel_7 (by decide) (fun h7 => ?_) (fun h7 => ?_)
  · refine gw_iload_n (pc := 12) F 2 d_Model_channel_12 rfl rfl ?_
    refine gw_spl (fun h13_0 => ?_) (fun h13_0 => ?_)
    · refine gw_tableIn (pc := 13) (tgt := 48) F d_Model_channel_13 h13_0 (by decide) (by decide) rfl (by decide) ?_
      refine gw_aload_n (pc := 48) F 0 d_Model_channel_48 rfl rfl ?_
      refine rg_Model_address (pc := 49) F tw_413 d_Model_channel_49 ?_
      refine gw_iload_n (pc := 52) F 1 d_Model_channel_52 rfl rfl ?_
      refine rl_MAdr (pc := 53) F (p4 h7) d_Model_channel_53 ?_
      exact gw_iret (pc := 54) F d_Model_channel_54
    refine gw_spl (fun h13_1 => ?_) (fun h13_1 => ?_)
    · refine gw_tableIn (pc := 13) (tgt := 55) F d_Model_channel_13 h13_1 (by decide) (by decide) rfl (by decide) ?_
      refine gw_aload_n (pc := 55) F 0 d_Model_channel_55 rfl rfl ?_
      refine rg_Model_paused (pc := 56) F tw_418 d_Model_channel_56 ?_
      refine gw_iload_n (pc := 59) F 1 d_Model_channel_59 rfl rfl ?_
      refine rl_MPau (pc := 60) F (p4 h7) d_Model_channel_60 ?_
      refine gw_if_eqS (pc := 61) (tgt := 68) F d_Model_channel_61 (by decide) (fun h61 => ?_) (fun h61 => ?_)
      · refine gw_iconst (pc := 68) (v := (0 : Int32)) F d_Model_channel_68 (by decide) ?_
        exact gw_iret (pc := 69) F d_Model_channel_69
      · refine gw_iconst (pc := 64) (v := (1 : Int32)) F d_Model_channel_64 (by decide) ?_
        refine gw_goto (pc := 65) (tgt := 69) F d_Model_channel_65 (by decide) ?_
        exact gw_iret (pc := 69) F d_Model_channel_69
    refine gw_spl (fun h13_2 => ?_) (fun h13_2 => ?_)
    · refine gw_tableIn (pc := 13) (tgt := 70) F d_Model_channel_13 h13_2 (by decide) (by decide) rfl (by decide) ?_
      refine gw_aload_n (pc := 70) F 0 d_Model_channel_70 rfl rfl ?_
      refine rg_Model_many (pc := 71) F tw_414 d_Model_channel_71 ?_
      refine gw_iload_n (pc := 74) F 1 d_Model_channel_74 rfl rfl ?_
      refine rl_MMany (pc := 75) F (p4 h7) d_Model_channel_75 ?_
      exact gw_iret (pc := 76) F d_Model_channel_76
    refine gw_spl (fun h13_3 => ?_) (fun h13_3 => ?_)
    · refine gw_tableIn (pc := 13) (tgt := 77) F d_Model_channel_13 h13_3 (by decide) (by decide) rfl (by decide) ?_
      refine gw_aload_n (pc := 77) F 0 d_Model_channel_77 rfl rfl ?_
      refine rg_Model_faults (pc := 78) F tw_415 d_Model_channel_78 ?_
      refine gw_iload_n (pc := 81) F 1 d_Model_channel_81 rfl rfl ?_
      refine rl_MFlt (pc := 82) F (p4 h7) d_Model_channel_82 ?_
      exact gw_iret (pc := 83) F d_Model_channel_83
    refine gw_spl (fun h13_4 => ?_) (fun h13_4 => ?_)
    · refine gw_tableIn (pc := 13) (tgt := 84) F d_Model_channel_13 h13_4 (by decide) (by decide) rfl (by decide) ?_
      refine gw_aload_n (pc := 84) F 0 d_Model_channel_84 rfl rfl ?_
      refine rg_Model_asked (pc := 85) F tw_416 d_Model_channel_85 ?_
      refine gw_iload_n (pc := 88) F 1 d_Model_channel_88 rfl rfl ?_
      refine rl_MAsk (pc := 89) F (p4 h7) d_Model_channel_89 ?_
      exact gw_iret (pc := 90) F d_Model_channel_90
    refine gw_tableOut (pc := 13) (tgt := 91) F d_Model_channel_13 (by have ne_0 : ¬ (a2 : Int32).toInt = 0 := gw_ne h13_0; have ne_1 : ¬ (a2 : Int32).toInt = 1 := gw_ne h13_1; have ne_2 : ¬ (a2 : Int32).toInt = 2 := gw_ne h13_2; have ne_3 : ¬ (a2 : Int32).toInt = 3 := gw_ne h13_3; have ne_4 : ¬ (a2 : Int32).toInt = 4 := gw_ne h13_4; omega) (by decide) ?_
    refine gw_iconst (pc := 91) (v := (-1 : Int32)) F d_Model_channel_91 (by decide) ?_
    exact gw_iret (pc := 92) F d_Model_channel_92
  · refine gw_iconst (pc := 10) (v := (-1 : Int32)) F d_Model_channel_10 (by decide) ?_
    exact gw_iret (pc := 11) F d_Model_channel_11
set_option maxHeartbeats 4000000 in
set_option maxRecDepth 100000 in
theorem po_at_Model_channel   (S : gw_S) (a1 : Int32) (a2 : Int32) (hf_at : vp_in (S 0 18) 1024) : vp_in ((f_Model_channel S a1 a2).2 0 18) 1024 := by
  unfold f_Model_channel
  refine po_b (Φ := fun p : Int32 × gw_S => vp_in (p.2 0 18) 1024) (P := fun r U => vp_in (U 0 18) 1024 ∧ (¬ r = 0 → vp_in a1 16)) ⟨(po_at_Model_in S a1 (0 : Int32) (15 : Int32) hf_at), (rb_in16 S a1)⟩ (fun r4 S4 p4 => ?_)
  refine po_if (Φ := fun p : Int32 × gw_S => vp_in (p.2 0 18) 1024) (fun h7 => ?_) (fun h7 => ?_)
  · exact p4.1
  · refine po_if (Φ := fun p : Int32 × gw_S => vp_in (p.2 0 18) 1024) (fun h13_0 => ?_) (fun h13_0 => ?_)
    · exact p4.1
    refine po_if (Φ := fun p : Int32 × gw_S => vp_in (p.2 0 18) 1024) (fun h13_1 => ?_) (fun h13_1 => ?_)
    · refine po_if (Φ := fun p : Int32 × gw_S => vp_in (p.2 0 18) 1024) (fun h61 => ?_) (fun h61 => ?_)
      · exact p4.1
      · exact p4.1
    refine po_if (Φ := fun p : Int32 × gw_S => vp_in (p.2 0 18) 1024) (fun h13_2 => ?_) (fun h13_2 => ?_)
    · exact p4.1
    refine po_if (Φ := fun p : Int32 × gw_S => vp_in (p.2 0 18) 1024) (fun h13_3 => ?_) (fun h13_3 => ?_)
    · exact p4.1
    refine po_if (Φ := fun p : Int32 × gw_S => vp_in (p.2 0 18) 1024) (fun h13_4 => ?_) (fun h13_4 => ?_)
    · exact p4.1
    exact p4.1
set_option maxHeartbeats 4000000 in
set_option maxRecDepth 100000 in
theorem po_ok_Model_channel   (S : gw_S) (a1 : Int32) (a2 : Int32) (hf_ok : rOK S) : rOK (f_Model_channel S a1 a2).2 := by
  unfold f_Model_channel
  refine po_b (Φ := fun p : Int32 × gw_S => rOK p.2) (P := fun r U => rOK U ∧ (¬ r = 0 → vp_in a1 16)) ⟨(po_ok_Model_in S a1 (0 : Int32) (15 : Int32) hf_ok), (rb_in16 S a1)⟩ (fun r4 S4 p4 => ?_)
  refine po_if (Φ := fun p : Int32 × gw_S => rOK p.2) (fun h7 => ?_) (fun h7 => ?_)
  · exact p4.1
  · refine po_if (Φ := fun p : Int32 × gw_S => rOK p.2) (fun h13_0 => ?_) (fun h13_0 => ?_)
    · exact p4.1
    refine po_if (Φ := fun p : Int32 × gw_S => rOK p.2) (fun h13_1 => ?_) (fun h13_1 => ?_)
    · refine po_if (Φ := fun p : Int32 × gw_S => rOK p.2) (fun h61 => ?_) (fun h61 => ?_)
      · exact p4.1
      · exact p4.1
    refine po_if (Φ := fun p : Int32 × gw_S => rOK p.2) (fun h13_2 => ?_) (fun h13_2 => ?_)
    · exact p4.1
    refine po_if (Φ := fun p : Int32 × gw_S => rOK p.2) (fun h13_3 => ?_) (fun h13_3 => ?_)
    · exact p4.1
    refine po_if (Φ := fun p : Int32 × gw_S => rOK p.2) (fun h13_4 => ?_) (fun h13_4 => ?_)
    · exact p4.1
    exact p4.1
noncomputable def f_Model_pixel   (S : gw_S) (a1 : Int32) (a2 : Int32) (a3 : Int32) : Int32 × gw_S := (gw_b (f_Model_in S a1 (0 : Int32) (3 : Int32)) fun r3 S3 => if r3 = 0 then (((-1 : Int32), S3)) else (gw_b (f_Model_in S3 a2 (0 : Int32) (63 : Int32)) fun r13 S13 => if r13 = 0 then (((-1 : Int32), S13)) else (gw_b (f_Model_in S13 a3 (0 : Int32) (39 : Int32)) fun r23 S23 => if r23 = 0 then (((-1 : Int32), S23)) else (((S23 4 (((((2560 : Int32) * a1) + ((64 : Int32) * a3)) + a2) : Int32).toNatClampNeg), S23)))))
set_option maxHeartbeats 4000000 in
set_option maxRecDepth 100000 in
theorem c_Model_pixel (hJ : gw_J 20 ad)   (S : gw_S) (a1 : Int32) (a2 : Int32) (a3 : Int32) : gw_M l y_Model_pixel prog_8_method_42_code 4 (some .int) gTs (gw_rm 1) D gCl (gTys cI cB cC cZ) 20 ad (rE ad cI cB cZ) gw_rI [.ref (ad 0), .int a1, .int a2, .int a3] S (f_Model_pixel S a1 a2 a3) := by
  refine gw_start gTs_ok (plainFor_of_name (by decide)) hJ (Nat.le_of_ble_eq_true rfl) (fun X A F => ?_)
  refine gw_lve (lv' := [(0, .ref (ad 0)), (1, .int a1), (2, .int a2), (3, .int a3)]) rfl ?_
  unfold f_Model_pixel
  refine gw_iload_n (pc := 0) F 1 d_Model_pixel_0 rfl rfl ?_
  refine gw_iconst (pc := 1) (v := (0 : Int32)) F d_Model_pixel_1 (by decide) ?_
  refine gw_iconst (pc := 2) (v := (3 : Int32)) F d_Model_pixel_2 (by decide) ?_
  refine gw_cS (pc := 3) (As := [.int a1, .int (0 : Int32), .int (3 : Int32)]) (rest := []) F (c_Model_in (gw_FJ F) S a1 (0 : Int32) (3 : Int32)) cw_Model_in cv_Model_in tw_512 rfl (by decide) (by decide) rfl rfl (Nat.le_of_ble_eq_true rfl) d_Model_pixel_3 (gw_bI (P := fun r U => (¬ r = 0 → vp_in a1 4)) (rb_in4 S a1) (fun r3 S3 p3 => ?_))
  refine gw_if_eqS (pc := 6) (tgt := 49) F d_Model_pixel_6 (by decide) (fun h6 => ?_) (fun h6 => ?_)
  · refine gw_iconst (pc := 49) (v := (-1 : Int32)) F d_Model_pixel_49 (by decide) ?_
    exact gw_iret (pc := 50) F d_Model_pixel_50
  · refine gw_iload_n (pc := 9) F 2 d_Model_pixel_9 rfl rfl ?_
    refine gw_iconst (pc := 10) (v := (0 : Int32)) F d_Model_pixel_10 (by decide) ?_
    refine gw_bipush (pc := 11) (v := (63 : Int32)) F d_Model_pixel_11 (by decide) ?_
    refine gw_cS (pc := 13) (As := [.int a2, .int (0 : Int32), .int (63 : Int32)]) (rest := []) F (c_Model_in (gw_FJ F) S3 a2 (0 : Int32) (63 : Int32)) cw_Model_in cv_Model_in tw_512 rfl (by decide) (by decide) rfl rfl (Nat.le_of_ble_eq_true rfl) d_Model_pixel_13 (gw_bI (P := fun r U => (¬ r = 0 → vp_in a2 64)) (rb_in64 S3 a2) (fun r13 S13 p13 => ?_))
    refine gw_if_eqS (pc := 16) (tgt := 49) F d_Model_pixel_16 (by decide) (fun h16 => ?_) (fun h16 => ?_)
    · refine gw_iconst (pc := 49) (v := (-1 : Int32)) F d_Model_pixel_49 (by decide) ?_
      exact gw_iret (pc := 50) F d_Model_pixel_50
    · refine gw_iload_n (pc := 19) F 3 d_Model_pixel_19 rfl rfl ?_
      refine gw_iconst (pc := 20) (v := (0 : Int32)) F d_Model_pixel_20 (by decide) ?_
      refine gw_bipush (pc := 21) (v := (39 : Int32)) F d_Model_pixel_21 (by decide) ?_
      refine gw_cS (pc := 23) (As := [.int a3, .int (0 : Int32), .int (39 : Int32)]) (rest := []) F (c_Model_in (gw_FJ F) S13 a3 (0 : Int32) (39 : Int32)) cw_Model_in cv_Model_in tw_512 rfl (by decide) (by decide) rfl rfl (Nat.le_of_ble_eq_true rfl) d_Model_pixel_23 (gw_bI (P := fun r U => (¬ r = 0 → vp_in a3 40)) (rb_in40 S13 a3) (fun r23 S23 p23 => ?_))
      refine gw_if_eqS (pc := 26) (tgt := 49) F d_Model_pixel_26 (by decide) (fun h26 => ?_) (fun h26 => ?_)
      · refine gw_iconst (pc := 49) (v := (-1 : Int32)) F d_Model_pixel_49 (by decide) ?_
        exact gw_iret (pc := 50) F d_Model_pixel_50
      · refine gw_aload_n (pc := 29) F 0 d_Model_pixel_29 rfl rfl ?_
        refine rg_Model_pixels (pc := 30) F tw_410 d_Model_pixel_30 ?_
        refine gw_sipush (pc := 33) (v := (2560 : Int32)) F d_Model_pixel_33 (by decide) ?_
        refine gw_iload_n (pc := 36) F 1 d_Model_pixel_36 rfl rfl ?_
        refine gw_imul (pc := 37) F d_Model_pixel_37 ?_
        refine gw_bipush (pc := 38) (v := (64 : Int32)) F d_Model_pixel_38 (by decide) ?_
        refine gw_iload_n (pc := 40) F 3 d_Model_pixel_40 rfl rfl ?_
        refine gw_imul (pc := 41) F d_Model_pixel_41 ?_
        refine gw_iadd (pc := 42) F d_Model_pixel_42 ?_
        refine gw_iload_n (pc := 43) F 2 d_Model_pixel_43 rfl rfl ?_
        refine gw_iadd (pc := 44) F d_Model_pixel_44 ?_
        refine rl_MPix (pc := 45) F (pg_iy (p3 h6) (p13 h16) (p23 h26)) d_Model_pixel_45 ?_
        refine gw_goto (pc := 46) (tgt := 50) F d_Model_pixel_46 (by decide) ?_
        exact gw_iret (pc := 50) F d_Model_pixel_50
set_option maxHeartbeats 4000000 in
set_option maxRecDepth 100000 in
theorem po_at_Model_pixel   (S : gw_S) (a1 : Int32) (a2 : Int32) (a3 : Int32) (hf_at : vp_in (S 0 18) 1024) : vp_in ((f_Model_pixel S a1 a2 a3).2 0 18) 1024 := by
  unfold f_Model_pixel
  refine po_b (Φ := fun p : Int32 × gw_S => vp_in (p.2 0 18) 1024) (P := fun r U => vp_in (U 0 18) 1024 ∧ (¬ r = 0 → vp_in a1 4)) ⟨(po_at_Model_in S a1 (0 : Int32) (3 : Int32) hf_at), (rb_in4 S a1)⟩ (fun r3 S3 p3 => ?_)
  refine po_if (Φ := fun p : Int32 × gw_S => vp_in (p.2 0 18) 1024) (fun h6 => ?_) (fun h6 => ?_)
  · exact p3.1
  · refine po_b (Φ := fun p : Int32 × gw_S => vp_in (p.2 0 18) 1024) (P := fun r U => vp_in (U 0 18) 1024 ∧ (¬ r = 0 → vp_in a2 64)) ⟨(po_at_Model_in S3 a2 (0 : Int32) (63 : Int32) p3.1), (rb_in64 S3 a2)⟩ (fun r13 S13 p13 => ?_)
    refine po_if (Φ := fun p : Int32 × gw_S => vp_in (p.2 0 18) 1024) (fun h16 => ?_) (fun h16 => ?_)
    · exact p13.1
    · refine po_b (Φ := fun p : Int32 × gw_S => vp_in (p.2 0 18) 1024) (P := fun r U => vp_in (U 0 18) 1024 ∧ (¬ r = 0 → vp_in a3 40)) ⟨(po_at_Model_in S13 a3 (0 : Int32) (39 : Int32) p13.1), (rb_in40 S13 a3)⟩ (fun r23 S23 p23 => ?_)
      refine po_if (Φ := fun p : Int32 × gw_S => vp_in (p.2 0 18) 1024) (fun h26 => ?_) (fun h26 => ?_)
      · exact p23.1
      · exact p23.1
set_option maxHeartbeats 4000000 in
set_option maxRecDepth 100000 in
theorem po_ok_Model_pixel   (S : gw_S) (a1 : Int32) (a2 : Int32) (a3 : Int32) (hf_ok : rOK S) : rOK (f_Model_pixel S a1 a2 a3).2 := by
  unfold f_Model_pixel
  refine po_b (Φ := fun p : Int32 × gw_S => rOK p.2) (P := fun r U => rOK U ∧ (¬ r = 0 → vp_in a1 4)) ⟨(po_ok_Model_in S a1 (0 : Int32) (3 : Int32) hf_ok), (rb_in4 S a1)⟩ (fun r3 S3 p3 => ?_)
  refine po_if (Φ := fun p : Int32 × gw_S => rOK p.2) (fun h6 => ?_) (fun h6 => ?_)
  · exact p3.1
  · refine po_b (Φ := fun p : Int32 × gw_S => rOK p.2) (P := fun r U => rOK U ∧ (¬ r = 0 → vp_in a2 64)) ⟨(po_ok_Model_in S3 a2 (0 : Int32) (63 : Int32) p3.1), (rb_in64 S3 a2)⟩ (fun r13 S13 p13 => ?_)
    refine po_if (Φ := fun p : Int32 × gw_S => rOK p.2) (fun h16 => ?_) (fun h16 => ?_)
    · exact p13.1
    · refine po_b (Φ := fun p : Int32 × gw_S => rOK p.2) (P := fun r U => rOK U ∧ (¬ r = 0 → vp_in a3 40)) ⟨(po_ok_Model_in S13 a3 (0 : Int32) (39 : Int32) p13.1), (rb_in40 S13 a3)⟩ (fun r23 S23 p23 => ?_)
      refine po_if (Φ := fun p : Int32 × gw_S => rOK p.2) (fun h26 => ?_) (fun h26 => ?_)
      · exact p23.1
      · exact p23.1
noncomputable def f_Model_about   (S : gw_S) (a1 : Int32) : Int32 × gw_S := (if a1 = 0 then (((S 0 4), S)) else (if a1 = 1 then (((S 0 5), S)) else (if a1 = 2 then (((S 0 13), S)) else (if a1 = 3 then (((S 0 14), S)) else (if a1 = 4 then (((S 0 15), S)) else (if a1 = 5 then (((S 0 16), S)) else (((-1 : Int32), S))))))))
set_option maxHeartbeats 4000000 in
set_option maxRecDepth 100000 in
theorem c_Model_about (hJ : gw_J 20 ad)   (S : gw_S) (a1 : Int32) : gw_M l y_Model_about prog_8_method_43_code 2 (some .int) gTs (gw_rm 0) D gCl (gTys cI cB cC cZ) 20 ad (rE ad cI cB cZ) gw_rI [.ref (ad 0), .int a1] S (f_Model_about S a1) := by
  refine gw_start gTs_ok (plainFor_of_name (by decide)) hJ (Nat.le_of_ble_eq_true rfl) (fun X A F => ?_)
  refine gw_lve (lv' := [(0, .ref (ad 0)), (1, .int a1)]) rfl ?_
  unfold f_Model_about
  refine gw_iload_n (pc := 0) F 1 d_Model_about_0 rfl rfl ?_
  refine gw_spl (fun h1_0 => ?_) (fun h1_0 => ?_)
  · refine gw_tableIn (pc := 1) (tgt := 40) F d_Model_about_1 h1_0 (by decide) (by decide) rfl (by decide) ?_
    refine gw_aload_n (pc := 40) F 0 d_Model_about_40 rfl rfl ?_
    refine rg_Model_working (pc := 41) F tw_411 d_Model_about_41 ?_
    exact gw_iret (pc := 44) F d_Model_about_44
  refine gw_spl (fun h1_1 => ?_) (fun h1_1 => ?_)
  · refine gw_tableIn (pc := 1) (tgt := 45) F d_Model_about_1 h1_1 (by decide) (by decide) rfl (by decide) ?_
    refine gw_aload_n (pc := 45) F 0 d_Model_about_45 rfl rfl ?_
    refine rg_Model_shown (pc := 46) F tw_412 d_Model_about_46 ?_
    exact gw_iret (pc := 49) F d_Model_about_49
  refine gw_spl (fun h1_2 => ?_) (fun h1_2 => ?_)
  · refine gw_tableIn (pc := 1) (tgt := 50) F d_Model_about_1 h1_2 (by decide) (by decide) rfl (by decide) ?_
    refine gw_aload_n (pc := 50) F 0 d_Model_about_50 rfl rfl ?_
    refine rg_Model_frames (pc := 51) F tw_420 d_Model_about_51 ?_
    exact gw_iret (pc := 54) F d_Model_about_54
  refine gw_spl (fun h1_3 => ?_) (fun h1_3 => ?_)
  · refine gw_tableIn (pc := 1) (tgt := 55) F d_Model_about_1 h1_3 (by decide) (by decide) rfl (by decide) ?_
    refine gw_aload_n (pc := 55) F 0 d_Model_about_55 rfl rfl ?_
    refine rg_Model_done (pc := 56) F tw_421 d_Model_about_56 ?_
    exact gw_iret (pc := 59) F d_Model_about_59
  refine gw_spl (fun h1_4 => ?_) (fun h1_4 => ?_)
  · refine gw_tableIn (pc := 1) (tgt := 60) F d_Model_about_1 h1_4 (by decide) (by decide) rfl (by decide) ?_
    refine gw_aload_n (pc := 60) F 0 d_Model_about_60 rfl rfl ?_
    refine rg_Model_rows (pc := 61) F tw_422 d_Model_about_61 ?_
    exact gw_iret (pc := 64) F d_Model_about_64
  refine gw_spl (fun h1_5 => ?_) (fun h1_5 => ?_)
  · refine gw_tableIn (pc := 1) (tgt := 65) F d_Model_about_1 h1_5 (by decide) (by decide) rfl (by decide) ?_
    refine gw_aload_n (pc := 65) F 0 d_Model_about_65 rfl rfl ?_
    refine rg_Model_begun (pc := 66) F tw_423 d_Model_about_66 ?_
    exact gw_iret (pc := 69) F d_Model_about_69
  refine gw_tableOut (pc := 1) (tgt := 70) F d_Model_about_1 (by have ne_0 : ¬ (a1 : Int32).toInt = 0 := gw_ne h1_0; have ne_1 : ¬ (a1 : Int32).toInt = 1 := gw_ne h1_1; have ne_2 : ¬ (a1 : Int32).toInt = 2 := gw_ne h1_2; have ne_3 : ¬ (a1 : Int32).toInt = 3 := gw_ne h1_3; have ne_4 : ¬ (a1 : Int32).toInt = 4 := gw_ne h1_4; have ne_5 : ¬ (a1 : Int32).toInt = 5 := gw_ne h1_5; omega) (by decide) ?_
  refine gw_iconst (pc := 70) (v := (-1 : Int32)) F d_Model_about_70 (by decide) ?_
  exact gw_iret (pc := 71) F d_Model_about_71
set_option maxHeartbeats 4000000 in
set_option maxRecDepth 100000 in
theorem po_at_Model_about   (S : gw_S) (a1 : Int32) (hf_at : vp_in (S 0 18) 1024) : vp_in ((f_Model_about S a1).2 0 18) 1024 := by
  unfold f_Model_about
  refine po_if (Φ := fun p : Int32 × gw_S => vp_in (p.2 0 18) 1024) (fun h1_0 => ?_) (fun h1_0 => ?_)
  · exact hf_at
  refine po_if (Φ := fun p : Int32 × gw_S => vp_in (p.2 0 18) 1024) (fun h1_1 => ?_) (fun h1_1 => ?_)
  · exact hf_at
  refine po_if (Φ := fun p : Int32 × gw_S => vp_in (p.2 0 18) 1024) (fun h1_2 => ?_) (fun h1_2 => ?_)
  · exact hf_at
  refine po_if (Φ := fun p : Int32 × gw_S => vp_in (p.2 0 18) 1024) (fun h1_3 => ?_) (fun h1_3 => ?_)
  · exact hf_at
  refine po_if (Φ := fun p : Int32 × gw_S => vp_in (p.2 0 18) 1024) (fun h1_4 => ?_) (fun h1_4 => ?_)
  · exact hf_at
  refine po_if (Φ := fun p : Int32 × gw_S => vp_in (p.2 0 18) 1024) (fun h1_5 => ?_) (fun h1_5 => ?_)
  · exact hf_at
  exact hf_at
set_option maxHeartbeats 4000000 in
set_option maxRecDepth 100000 in
theorem po_ok_Model_about   (S : gw_S) (a1 : Int32) (hf_ok : rOK S) : rOK (f_Model_about S a1).2 := by
  unfold f_Model_about
  refine po_if (Φ := fun p : Int32 × gw_S => rOK p.2) (fun h1_0 => ?_) (fun h1_0 => ?_)
  · exact hf_ok
  refine po_if (Φ := fun p : Int32 × gw_S => rOK p.2) (fun h1_1 => ?_) (fun h1_1 => ?_)
  · exact hf_ok
  refine po_if (Φ := fun p : Int32 × gw_S => rOK p.2) (fun h1_2 => ?_) (fun h1_2 => ?_)
  · exact hf_ok
  refine po_if (Φ := fun p : Int32 × gw_S => rOK p.2) (fun h1_3 => ?_) (fun h1_3 => ?_)
  · exact hf_ok
  refine po_if (Φ := fun p : Int32 × gw_S => rOK p.2) (fun h1_4 => ?_) (fun h1_4 => ?_)
  · exact hf_ok
  refine po_if (Φ := fun p : Int32 × gw_S => rOK p.2) (fun h1_5 => ?_) (fun h1_5 => ?_)
  · exact hf_ok
  exact hf_ok
end
