section
variable {l : Launch} {D : va_G} {cI cB cC cZ : ClassId} {ad : Nat → Nat}
noncomputable def f_SM_isBelow   (S : gw_S) (a1 : Int32) (a2 : Int32) : Int32 × gw_S := (if a1 < 0 then (((0 : Int32), S)) else (if a2 ≤ a1 then (((0 : Int32), S)) else (((1 : Int32), S))))
set_option maxHeartbeats 4000000 in
set_option maxRecDepth 100000 in
theorem c_SM_isBelow (hJ : gw_J 46 ad)   (S : gw_S) (a1 : Int32) (a2 : Int32) : gw_M l y_SM_isBelow prog_1_method_12_code 2 (some .boolean) gTs (gw_rm 0) D gCl (gTys cI cB cC cZ) 46 ad (cE ad cI cB cC) gw_rI [.int a1, .int a2] S (f_SM_isBelow S a1 a2) := by
  refine gw_start gTs_ok (plainFor_of_name (by decide)) hJ (Nat.le_of_ble_eq_true rfl) (fun X A F => ?_)
  refine gw_lve (lv' := [(0, .int a1), (1, .int a2)]) rfl ?_
  unfold f_SM_isBelow
  refine gw_iload_n (pc := 0) F 0 d_SM_isBelow_0 rfl rfl ?_
  refine gw_if_ltS (pc := 1) (tgt := 13) F d_SM_isBelow_1 (by decide) (fun h1 => ?_) (fun h1 => ?_)
  · refine gw_iconst (pc := 13) (v := (0 : Int32)) F d_SM_isBelow_13 (by decide) ?_
    exact gw_zret (pc := 14) F d_SM_isBelow_14 rfl
  · refine gw_iload_n (pc := 4) F 0 d_SM_isBelow_4 rfl rfl ?_
    refine gw_iload_n (pc := 5) F 1 d_SM_isBelow_5 rfl rfl ?_
    refine gw_icmp_geS (pc := 6) (tgt := 13) F d_SM_isBelow_6 (by decide) (fun h6 => ?_) (fun h6 => ?_)
    · refine gw_iconst (pc := 13) (v := (0 : Int32)) F d_SM_isBelow_13 (by decide) ?_
      exact gw_zret (pc := 14) F d_SM_isBelow_14 rfl
    · refine gw_iconst (pc := 9) (v := (1 : Int32)) F d_SM_isBelow_9 (by decide) ?_
      refine gw_goto (pc := 10) (tgt := 14) F d_SM_isBelow_10 (by decide) ?_
      exact gw_zret (pc := 14) F d_SM_isBelow_14 rfl
theorem cb_isBelow {S : gw_S} {a b : Int32} {N : Nat} (hb : b.toInt = (N : Int)) (h : ¬ (f_SM_isBelow S a b).1 = 0) : vp_in a N := by
  unfold f_SM_isBelow at h
  split at h
  · exact absurd rfl h
  · rename_i h1
    split at h
    · exact absurd rfl h
    · rename_i h2
      exact gw_inB0 hb h2 h1
theorem cb_isBelow4 (S : gw_S) (a : Int32) : (¬ (f_SM_isBelow S a (4 : Int32)).1 = 0 → vp_in a 4) := fun h => cb_isBelow (by decide) h
theorem cb_isBelow16 (S : gw_S) (a : Int32) : (¬ (f_SM_isBelow S a (16 : Int32)).1 = 0 → vp_in a 16) := fun h => cb_isBelow (by decide) h
theorem cb_isBelow32 (S : gw_S) (a : Int32) : (¬ (f_SM_isBelow S a (32 : Int32)).1 = 0 → vp_in a 32) := fun h => cb_isBelow (by decide) h
theorem cb_isBelow40 (S : gw_S) (a : Int32) : (¬ (f_SM_isBelow S a (40 : Int32)).1 = 0 → vp_in a 40) := fun h => cb_isBelow (by decide) h
theorem cb_isBelow64 (S : gw_S) (a : Int32) : (¬ (f_SM_isBelow S a (64 : Int32)).1 = 0 → vp_in a 64) := fun h => cb_isBelow (by decide) h
set_option maxHeartbeats 4000000 in
set_option maxRecDepth 100000 in
theorem po_ok_SM_isBelow   (S : gw_S) (a1 : Int32) (a2 : Int32) (hf_ok : cOK S) : cOK (f_SM_isBelow S a1 a2).2 := by
  unfold f_SM_isBelow
  refine po_if (Φ := fun p : Int32 × gw_S => cOK p.2) (fun h1 => ?_) (fun h1 => ?_)
  · exact hf_ok
  · refine po_if (Φ := fun p : Int32 × gw_S => cOK p.2) (fun h6 => ?_) (fun h6 => ?_)
    · exact hf_ok
    · exact hf_ok
noncomputable def f_SM_set   (S : gw_S) (a1 : Int32) (a2 : Int32) : Int32 × gw_S := (gw_b (f_SM_isBelow S a1 (32 : Int32)) fun r3 S3 => if r3 = 0 then (((0 : Int32), S3)) else (gw_n (gw_u S3 4 (a1 : Int32).toNatClampNeg ((a2 : Int32).toInt16.toInt32)) fun S21 => ((1 : Int32), S21)))
set_option maxHeartbeats 4000000 in
set_option maxRecDepth 100000 in
theorem c_SM_set (hJ : gw_J 46 ad)   (S : gw_S) (a1 : Int32) (a2 : Int32) : gw_M l y_SM_set prog_1_method_4_code 3 (some .boolean) gTs (gw_rm 1) D gCl (gTys cI cB cC cZ) 46 ad (cE ad cI cB cC) gw_rI [.ref (ad 0), .int a1, .int a2] S (f_SM_set S a1 a2) := by
  refine gw_start gTs_ok (plainFor_of_name (by decide)) hJ (Nat.le_of_ble_eq_true rfl) (fun X A F => ?_)
  refine gw_lve (lv' := [(0, .ref (ad 0)), (1, .int a1), (2, .int a2)]) rfl ?_
  unfold f_SM_set
  refine gw_iload_n (pc := 0) F 1 d_SM_set_0 rfl rfl ?_
  refine gw_bipush (pc := 1) (v := (32 : Int32)) F d_SM_set_1 (by decide) ?_
  refine gw_cS (pc := 3) (As := [.int a1, .int (32 : Int32)]) (rest := []) F (c_SM_isBelow (gw_FJ F) S a1 (32 : Int32)) cw_SM_isBelow cv_SM_isBelow tw_192 rfl (by decide) (by decide) rfl rfl (Nat.le_of_ble_eq_true rfl) d_SM_set_3 (gw_bI (P := fun r U => (¬ r = 0 → vp_in a1 32)) (cb_isBelow32 S a1) (fun r3 S3 p3 => ?_))
  refine gw_if_neS (pc := 6) (tgt := 11) F d_SM_set_6 (by decide) (fun h6 => ?_) (fun h6 => ?_)
  · refine gw_aload_n (pc := 11) F 0 d_SM_set_11 rfl rfl ?_
    refine cg_SM_player (pc := 12) F tw_158 d_SM_set_12 ?_
    refine cgN_Player_variables (pc := 15) F tw_138 d_SM_set_15 ?_
    refine gw_iload_n (pc := 18) F 1 d_SM_set_18 rfl rfl ?_
    refine gw_iload_n (pc := 19) F 2 d_SM_set_19 rfl rfl ?_
    refine gw_i2s (pc := 20) F d_SM_set_20 ?_
    refine cs_Vars (pc := 21) F (p3 h6) d_SM_set_21 ?_
    refine gw_nS (fun S21 E21 => ?_)
    refine gw_iconst (pc := 22) (v := (1 : Int32)) F d_SM_set_22 (by decide) ?_
    exact gw_zret (pc := 23) F d_SM_set_23 rfl
  · refine gw_iconst (pc := 9) (v := (0 : Int32)) F d_SM_set_9 (by decide) ?_
    exact gw_zret (pc := 10) F d_SM_set_10 rfl
set_option maxHeartbeats 4000000 in
set_option maxRecDepth 100000 in
theorem po_ok_SM_set   (S : gw_S) (a1 : Int32) (a2 : Int32) (hf_ok : cOK S) : cOK (f_SM_set S a1 a2).2 := by
  unfold f_SM_set
  refine po_b (Φ := fun p : Int32 × gw_S => cOK p.2) (P := fun r U => cOK U ∧ (¬ r = 0 → vp_in a1 32)) ⟨(po_ok_SM_isBelow S a1 (32 : Int32) hf_ok), (cb_isBelow32 S a1)⟩ (fun r3 S3 p3 => ?_)
  refine po_if (Φ := fun p : Int32 × gw_S => cOK p.2) (fun h6 => ?_) (fun h6 => ?_)
  · exact p3.1
  · refine po_n (Φ := fun p : Int32 × gw_S => cOK p.2) (fun S21 E21 => ?_)
    exact (cOK_v E21 p3.1 (cSh_w _))
noncomputable def f_SM_get   (S : gw_S) (a1 : Int32) : Int32 × gw_S := (gw_b (f_SM_isBelow S a1 (32 : Int32)) fun r3 S3 => if r3 = 0 then (((0 : Int32), S3)) else (((S3 4 (a1 : Int32).toNatClampNeg), S3)))
set_option maxHeartbeats 4000000 in
set_option maxRecDepth 100000 in
theorem c_SM_get (hJ : gw_J 46 ad)   (S : gw_S) (a1 : Int32) : gw_M l y_SM_get prog_1_method_5_code 2 (some .int) gTs (gw_rm 1) D gCl (gTys cI cB cC cZ) 46 ad (cE ad cI cB cC) gw_rI [.ref (ad 0), .int a1] S (f_SM_get S a1) := by
  refine gw_start gTs_ok (plainFor_of_name (by decide)) hJ (Nat.le_of_ble_eq_true rfl) (fun X A F => ?_)
  refine gw_lve (lv' := [(0, .ref (ad 0)), (1, .int a1)]) rfl ?_
  unfold f_SM_get
  refine gw_iload_n (pc := 0) F 1 d_SM_get_0 rfl rfl ?_
  refine gw_bipush (pc := 1) (v := (32 : Int32)) F d_SM_get_1 (by decide) ?_
  refine gw_cS (pc := 3) (As := [.int a1, .int (32 : Int32)]) (rest := []) F (c_SM_isBelow (gw_FJ F) S a1 (32 : Int32)) cw_SM_isBelow cv_SM_isBelow tw_192 rfl (by decide) (by decide) rfl rfl (Nat.le_of_ble_eq_true rfl) d_SM_get_3 (gw_bI (P := fun r U => (¬ r = 0 → vp_in a1 32)) (cb_isBelow32 S a1) (fun r3 S3 p3 => ?_))
  refine gw_if_eqS (pc := 6) (tgt := 21) F d_SM_get_6 (by decide) (fun h6 => ?_) (fun h6 => ?_)
  · refine gw_iconst (pc := 21) (v := (0 : Int32)) F d_SM_get_21 (by decide) ?_
    exact gw_iret (pc := 22) F d_SM_get_22
  · refine gw_aload_n (pc := 9) F 0 d_SM_get_9 rfl rfl ?_
    refine cg_SM_player (pc := 10) F tw_158 d_SM_get_10 ?_
    refine cgN_Player_variables (pc := 13) F tw_138 d_SM_get_13 ?_
    refine gw_iload_n (pc := 16) F 1 d_SM_get_16 rfl rfl ?_
    refine cl_Vars (pc := 17) F (p3 h6) d_SM_get_17 ?_
    refine gw_goto (pc := 18) (tgt := 22) F d_SM_get_18 (by decide) ?_
    exact gw_iret (pc := 22) F d_SM_get_22
set_option maxHeartbeats 4000000 in
set_option maxRecDepth 100000 in
theorem po_ok_SM_get   (S : gw_S) (a1 : Int32) (hf_ok : cOK S) : cOK (f_SM_get S a1).2 := by
  unfold f_SM_get
  refine po_b (Φ := fun p : Int32 × gw_S => cOK p.2) (P := fun r U => cOK U ∧ (¬ r = 0 → vp_in a1 32)) ⟨(po_ok_SM_isBelow S a1 (32 : Int32) hf_ok), (cb_isBelow32 S a1)⟩ (fun r3 S3 p3 => ?_)
  refine po_if (Φ := fun p : Int32 × gw_S => cOK p.2) (fun h6 => ?_) (fun h6 => ?_)
  · exact p3.1
  · exact p3.1
noncomputable def f_SM_ask   (S : gw_S) (a1 : Int32) (a2 : Int32) : Int32 × gw_S := (gw_b (f_SM_isBelow S a1 (16 : Int32)) fun r3 S3 => if r3 = 0 then (((0 : Int32), S3)) else (if a2 < (-1 : Int32) then (((0 : Int32), S3)) else (if a2 ≤ (1023 : Int32) then (gw_n (gw_u S3 ((a1 : Int32).toNatClampNeg + 14) 5 a2) fun S33 => ((1 : Int32), S33)) else (((0 : Int32), S3)))))
set_option maxHeartbeats 4000000 in
set_option maxRecDepth 100000 in
theorem c_SM_ask (hJ : gw_J 46 ad)   (S : gw_S) (a1 : Int32) (a2 : Int32) : gw_M l y_SM_ask prog_1_method_6_code 3 (some .boolean) gTs (gw_rm 1) D gCl (gTys cI cB cC cZ) 46 ad (cE ad cI cB cC) gw_rI [.ref (ad 0), .int a1, .int a2] S (f_SM_ask S a1 a2) := by
  refine gw_start gTs_ok (plainFor_of_name (by decide)) hJ (Nat.le_of_ble_eq_true rfl) (fun X A F => ?_)
  refine gw_lve (lv' := [(0, .ref (ad 0)), (1, .int a1), (2, .int a2)]) rfl ?_
  unfold f_SM_ask
  refine gw_iload_n (pc := 0) F 1 d_SM_ask_0 rfl rfl ?_
  refine gw_bipush (pc := 1) (v := (16 : Int32)) F d_SM_ask_1 (by decide) ?_
  refine gw_cS (pc := 3) (As := [.int a1, .int (16 : Int32)]) (rest := []) F (c_SM_isBelow (gw_FJ F) S a1 (16 : Int32)) cw_SM_isBelow cv_SM_isBelow tw_192 rfl (by decide) (by decide) rfl rfl (Nat.le_of_ble_eq_true rfl) d_SM_ask_3 (gw_bI (P := fun r U => (¬ r = 0 → vp_in a1 16)) (cb_isBelow16 S a1) (fun r3 S3 p3 => ?_))
  refine gw_if_eqS (pc := 6) (tgt := 21) F d_SM_ask_6 (by decide) (fun h6 => ?_) (fun h6 => ?_)
  · refine gw_iconst (pc := 21) (v := (0 : Int32)) F d_SM_ask_21 (by decide) ?_
    exact gw_zret (pc := 22) F d_SM_ask_22 rfl
  · refine gw_iload_n (pc := 9) F 2 d_SM_ask_9 rfl rfl ?_
    refine gw_iconst (pc := 10) (v := (-1 : Int32)) F d_SM_ask_10 (by decide) ?_
    refine gw_icmp_ltS (pc := 11) (tgt := 21) F d_SM_ask_11 (by decide) (fun h11 => ?_) (fun h11 => ?_)
    · refine gw_iconst (pc := 21) (v := (0 : Int32)) F d_SM_ask_21 (by decide) ?_
      exact gw_zret (pc := 22) F d_SM_ask_22 rfl
    · refine gw_iload_n (pc := 14) F 2 d_SM_ask_14 rfl rfl ?_
      refine gw_sipush (pc := 15) (v := (1023 : Int32)) F d_SM_ask_15 (by decide) ?_
      refine gw_icmp_leS (pc := 18) (tgt := 23) F d_SM_ask_18 (by decide) (fun h18 => ?_) (fun h18 => ?_)
      · refine gw_aload_n (pc := 23) F 0 d_SM_ask_23 rfl rfl ?_
        refine cg_SM_player (pc := 24) F tw_158 d_SM_ask_24 ?_
        refine cgN_Player_channels (pc := 27) F tw_140 d_SM_ask_27 ?_
        refine gw_iload_n (pc := 30) F 1 d_SM_ask_30 rfl rfl ?_
        refine cl_Chans (pc := 31) F (p3 h6) d_SM_ask_31 ?_
        refine gw_iload_n (pc := 32) F 2 d_SM_ask_32 rfl rfl ?_
        refine cpN_Channel_askedAddress (pc := 33) F (gw_inlt (p3 h6)) tw_116 d_SM_ask_33 ?_
        refine gw_nS (fun S33 E33 => ?_)
        refine gw_iconst (pc := 36) (v := (1 : Int32)) F d_SM_ask_36 (by decide) ?_
        exact gw_zret (pc := 37) F d_SM_ask_37 rfl
      · refine gw_iconst (pc := 21) (v := (0 : Int32)) F d_SM_ask_21 (by decide) ?_
        exact gw_zret (pc := 22) F d_SM_ask_22 rfl
set_option maxHeartbeats 4000000 in
set_option maxRecDepth 100000 in
theorem po_ok_SM_ask   (S : gw_S) (a1 : Int32) (a2 : Int32) (hf_ok : cOK S) : cOK (f_SM_ask S a1 a2).2 := by
  unfold f_SM_ask
  refine po_b (Φ := fun p : Int32 × gw_S => cOK p.2) (P := fun r U => cOK U ∧ (¬ r = 0 → vp_in a1 16)) ⟨(po_ok_SM_isBelow S a1 (16 : Int32) hf_ok), (cb_isBelow16 S a1)⟩ (fun r3 S3 p3 => ?_)
  refine po_if (Φ := fun p : Int32 × gw_S => cOK p.2) (fun h6 => ?_) (fun h6 => ?_)
  · exact p3.1
  · refine po_if (Φ := fun p : Int32 × gw_S => cOK p.2) (fun h11 => ?_) (fun h11 => ?_)
    · exact p3.1
    · refine po_if (Φ := fun p : Int32 × gw_S => cOK p.2) (fun h18 => ?_) (fun h18 => ?_)
      · refine po_n (Φ := fun p : Int32 × gw_S => cOK p.2) (fun S33 E33 => ?_)
        exact (cOK_o E33 p3.1 (by omega))
      · exact p3.1
noncomputable def f_SM_channel   (S : gw_S) (a1 : Int32) (a2 : Int32) : Int32 × gw_S := (gw_b (f_SM_isBelow S a1 (16 : Int32)) fun r3 S3 => if r3 = 0 then (((-1 : Int32), S3)) else (if a2 = 0 then (((S3 ((a1 : Int32).toNatClampNeg + 14) 2), S3)) else (if a2 = 1 then (if (S3 ((a1 : Int32).toNatClampNeg + 14) 3) = 0 then (((0 : Int32), S3)) else (((1 : Int32), S3))) else (if a2 = 2 then (((S3 ((a1 : Int32).toNatClampNeg + 14) 1), S3)) else (if a2 = 3 then (((S3 ((a1 : Int32).toNatClampNeg + 14) 4), S3)) else (if a2 = 4 then (((S3 ((a1 : Int32).toNatClampNeg + 14) 5), S3)) else (((-1 : Int32), S3))))))))
set_option maxHeartbeats 4000000 in
set_option maxRecDepth 100000 in
theorem c_SM_channel (hJ : gw_J 46 ad)   (S : gw_S) (a1 : Int32) (a2 : Int32) : gw_M l y_SM_channel prog_1_method_8_code 4 (some .int) gTs (gw_rm 1) D gCl (gTys cI cB cC cZ) 46 ad (cE ad cI cB cC) gw_rI [.ref (ad 0), .int a1, .int a2] S (f_SM_channel S a1 a2) := by
  refine gw_start gTs_ok (plainFor_of_name (by decide)) hJ (Nat.le_of_ble_eq_true rfl) (fun X A F => ?_)
  refine gw_lve (lv' := [(0, .ref (ad 0)), (1, .int a1), (2, .int a2)]) rfl ?_
  unfold f_SM_channel
  refine gw_iload_n (pc := 0) F 1 d_SM_channel_0 rfl rfl ?_
  refine gw_bipush (pc := 1) (v := (16 : Int32)) F d_SM_channel_1 (by decide) ?_
  refine gw_cS (pc := 3) (As := [.int a1, .int (16 : Int32)]) (rest := []) F (c_SM_isBelow (gw_FJ F) S a1 (16 : Int32)) cw_SM_isBelow cv_SM_isBelow tw_192 rfl (by decide) (by decide) rfl rfl (Nat.le_of_ble_eq_true rfl) d_SM_channel_3 (gw_bI (P := fun r U => (¬ r = 0 → vp_in a1 16)) (cb_isBelow16 S a1) (fun r3 S3 p3 => ?_))
  refine gw_if_neS (pc := 6) (tgt := 11) F d_SM_channel_6 (by decide) (fun h6 => ?_) (fun h6 => ?_)
  · refine gw_aload_n (pc := 11) F 0 d_SM_channel_11 rfl rfl ?_
    refine cg_SM_player (pc := 12) F tw_158 d_SM_channel_12 ?_
    refine cgN_Player_channels (pc := 15) F tw_140 d_SM_channel_15 ?_
    refine gw_iload_n (pc := 18) F 1 d_SM_channel_18 rfl rfl ?_
    refine cl_Chans (pc := 19) F (p3 h6) d_SM_channel_19 ?_
    refine gw_astore_n (pc := 20) (lv' := [(3, .ref (ad ((a1 : Int32).toNatClampNeg + 14))), (0, .ref (ad 0)), (1, .int a1), (2, .int a2)]) F d_SM_channel_20 rfl (by decide) rfl ?_
    refine gw_iload_n (pc := 21) F 3 d_SM_channel_21 rfl rfl ?_
    refine gw_spl (fun h22_0 => ?_) (fun h22_0 => ?_)
    · refine gw_tableIn (pc := 22) (tgt := 56) F d_SM_channel_22 h22_0 (by decide) (by decide) rfl (by decide) ?_
      refine gw_aload_n (pc := 56) F 0 d_SM_channel_56 rfl rfl ?_
      refine cgN_Channel_address (pc := 57) F (gw_inlt (p3 h6)) tw_109 d_SM_channel_57 ?_
      exact gw_iret (pc := 60) F d_SM_channel_60
    refine gw_spl (fun h22_1 => ?_) (fun h22_1 => ?_)
    · refine gw_tableIn (pc := 22) (tgt := 61) F d_SM_channel_22 h22_1 (by decide) (by decide) rfl (by decide) ?_
      refine gw_aload_n (pc := 61) F 0 d_SM_channel_61 rfl rfl ?_
      refine cgN_Channel_paused (pc := 62) F (gw_inlt (p3 h6)) tw_111 d_SM_channel_62 ?_
      refine gw_if_eqS (pc := 65) (tgt := 72) F d_SM_channel_65 (by decide) (fun h65 => ?_) (fun h65 => ?_)
      · refine gw_iconst (pc := 72) (v := (0 : Int32)) F d_SM_channel_72 (by decide) ?_
        exact gw_iret (pc := 73) F d_SM_channel_73
      · refine gw_iconst (pc := 68) (v := (1 : Int32)) F d_SM_channel_68 (by decide) ?_
        refine gw_goto (pc := 69) (tgt := 73) F d_SM_channel_69 (by decide) ?_
        exact gw_iret (pc := 73) F d_SM_channel_73
    refine gw_spl (fun h22_2 => ?_) (fun h22_2 => ?_)
    · refine gw_tableIn (pc := 22) (tgt := 74) F d_SM_channel_22 h22_2 (by decide) (by decide) rfl (by decide) ?_
      refine gw_aload_n (pc := 74) F 0 d_SM_channel_74 rfl rfl ?_
      refine cgN_Channel_returns (pc := 75) F (gw_inlt (p3 h6)) tw_106 d_SM_channel_75 ?_
      exact gw_iret (pc := 78) F d_SM_channel_78
    refine gw_spl (fun h22_3 => ?_) (fun h22_3 => ?_)
    · refine gw_tableIn (pc := 22) (tgt := 79) F d_SM_channel_22 h22_3 (by decide) (by decide) rfl (by decide) ?_
      refine gw_aload_n (pc := 79) F 0 d_SM_channel_79 rfl rfl ?_
      refine cgN_Channel_latestFault (pc := 80) F (gw_inlt (p3 h6)) tw_113 d_SM_channel_80 ?_
      exact gw_iret (pc := 83) F d_SM_channel_83
    refine gw_spl (fun h22_4 => ?_) (fun h22_4 => ?_)
    · refine gw_tableIn (pc := 22) (tgt := 84) F d_SM_channel_22 h22_4 (by decide) (by decide) rfl (by decide) ?_
      refine gw_aload_n (pc := 84) F 0 d_SM_channel_84 rfl rfl ?_
      refine cgN_Channel_askedAddress (pc := 85) F (gw_inlt (p3 h6)) tw_116 d_SM_channel_85 ?_
      exact gw_iret (pc := 88) F d_SM_channel_88
    refine gw_tableOut (pc := 22) (tgt := 89) F d_SM_channel_22 (by have ne_0 : ¬ (a2 : Int32).toInt = 0 := gw_ne h22_0; have ne_1 : ¬ (a2 : Int32).toInt = 1 := gw_ne h22_1; have ne_2 : ¬ (a2 : Int32).toInt = 2 := gw_ne h22_2; have ne_3 : ¬ (a2 : Int32).toInt = 3 := gw_ne h22_3; have ne_4 : ¬ (a2 : Int32).toInt = 4 := gw_ne h22_4; omega) (by decide) ?_
    refine gw_iconst (pc := 89) (v := (-1 : Int32)) F d_SM_channel_89 (by decide) ?_
    exact gw_iret (pc := 90) F d_SM_channel_90
  · refine gw_iconst (pc := 9) (v := (-1 : Int32)) F d_SM_channel_9 (by decide) ?_
    exact gw_iret (pc := 10) F d_SM_channel_10
set_option maxHeartbeats 4000000 in
set_option maxRecDepth 100000 in
theorem po_ok_SM_channel   (S : gw_S) (a1 : Int32) (a2 : Int32) (hf_ok : cOK S) : cOK (f_SM_channel S a1 a2).2 := by
  unfold f_SM_channel
  refine po_b (Φ := fun p : Int32 × gw_S => cOK p.2) (P := fun r U => cOK U ∧ (¬ r = 0 → vp_in a1 16)) ⟨(po_ok_SM_isBelow S a1 (16 : Int32) hf_ok), (cb_isBelow16 S a1)⟩ (fun r3 S3 p3 => ?_)
  refine po_if (Φ := fun p : Int32 × gw_S => cOK p.2) (fun h6 => ?_) (fun h6 => ?_)
  · exact p3.1
  · refine po_if (Φ := fun p : Int32 × gw_S => cOK p.2) (fun h22_0 => ?_) (fun h22_0 => ?_)
    · exact p3.1
    refine po_if (Φ := fun p : Int32 × gw_S => cOK p.2) (fun h22_1 => ?_) (fun h22_1 => ?_)
    · refine po_if (Φ := fun p : Int32 × gw_S => cOK p.2) (fun h65 => ?_) (fun h65 => ?_)
      · exact p3.1
      · exact p3.1
    refine po_if (Φ := fun p : Int32 × gw_S => cOK p.2) (fun h22_2 => ?_) (fun h22_2 => ?_)
    · exact p3.1
    refine po_if (Φ := fun p : Int32 × gw_S => cOK p.2) (fun h22_3 => ?_) (fun h22_3 => ?_)
    · exact p3.1
    refine po_if (Φ := fun p : Int32 × gw_S => cOK p.2) (fun h22_4 => ?_) (fun h22_4 => ?_)
    · exact p3.1
    exact p3.1
noncomputable def f_SM_about   (S : gw_S) (a1 : Int32) : Int32 × gw_S := (if a1 = 0 then (((S 9 1), S)) else (if a1 = 1 then (((S 9 2), S)) else (if a1 = 2 then (((S 0 1), S)) else (if a1 = 3 then (((S 0 2), S)) else (if a1 = 4 then (((S 6 7), S)) else (if a1 = 5 then (((S 6 6), S)) else (((-1 : Int32), S))))))))
set_option maxHeartbeats 4000000 in
set_option maxRecDepth 100000 in
theorem c_SM_about (hJ : gw_J 46 ad)   (S : gw_S) (a1 : Int32) : gw_M l y_SM_about prog_1_method_10_code 2 (some .int) gTs (gw_rm 0) D gCl (gTys cI cB cC cZ) 46 ad (cE ad cI cB cC) gw_rI [.ref (ad 0), .int a1] S (f_SM_about S a1) := by
  refine gw_start gTs_ok (plainFor_of_name (by decide)) hJ (Nat.le_of_ble_eq_true rfl) (fun X A F => ?_)
  refine gw_lve (lv' := [(0, .ref (ad 0)), (1, .int a1)]) rfl ?_
  unfold f_SM_about
  refine gw_iload_n (pc := 0) F 1 d_SM_about_0 rfl rfl ?_
  refine gw_spl (fun h1_0 => ?_) (fun h1_0 => ?_)
  · refine gw_tableIn (pc := 1) (tgt := 40) F d_SM_about_1 h1_0 (by decide) (by decide) rfl (by decide) ?_
    refine gw_aload_n (pc := 40) F 0 d_SM_about_40 rfl rfl ?_
    refine cg_SM_player (pc := 41) F tw_158 d_SM_about_41 ?_
    refine cgN_Player_painter (pc := 44) F tw_142 d_SM_about_44 ?_
    refine cgN_Painter_pages (pc := 47) F tw_71 d_SM_about_47 ?_
    refine cgN_Pages_working (pc := 50) F tw_55 d_SM_about_50 ?_
    exact gw_iret (pc := 53) F d_SM_about_53
  refine gw_spl (fun h1_1 => ?_) (fun h1_1 => ?_)
  · refine gw_tableIn (pc := 1) (tgt := 54) F d_SM_about_1 h1_1 (by decide) (by decide) rfl (by decide) ?_
    refine gw_aload_n (pc := 54) F 0 d_SM_about_54 rfl rfl ?_
    refine cg_SM_player (pc := 55) F tw_158 d_SM_about_55 ?_
    refine cgN_Player_painter (pc := 58) F tw_142 d_SM_about_58 ?_
    refine cgN_Painter_pages (pc := 61) F tw_71 d_SM_about_61 ?_
    refine cgN_Pages_shown (pc := 64) F tw_58 d_SM_about_64 ?_
    exact gw_iret (pc := 67) F d_SM_about_67
  refine gw_spl (fun h1_2 => ?_) (fun h1_2 => ?_)
  · refine gw_tableIn (pc := 1) (tgt := 68) F d_SM_about_1 h1_2 (by decide) (by decide) rfl (by decide) ?_
    refine gw_aload_n (pc := 68) F 0 d_SM_about_68 rfl rfl ?_
    refine cg_SM_frames (pc := 69) F tw_159 d_SM_about_69 ?_
    exact gw_iret (pc := 72) F d_SM_about_72
  refine gw_spl (fun h1_3 => ?_) (fun h1_3 => ?_)
  · refine gw_tableIn (pc := 1) (tgt := 73) F d_SM_about_1 h1_3 (by decide) (by decide) rfl (by decide) ?_
    refine gw_aload_n (pc := 73) F 0 d_SM_about_73 rfl rfl ?_
    refine cg_SM_instructionsDone (pc := 74) F tw_160 d_SM_about_74 ?_
    exact gw_iret (pc := 77) F d_SM_about_77
  refine gw_spl (fun h1_4 => ?_) (fun h1_4 => ?_)
  · refine gw_tableIn (pc := 1) (tgt := 78) F d_SM_about_1 h1_4 (by decide) (by decide) rfl (by decide) ?_
    refine gw_aload_n (pc := 78) F 0 d_SM_about_78 rfl rfl ?_
    refine cg_SM_player (pc := 79) F tw_158 d_SM_about_79 ?_
    refine cgN_Player_painter (pc := 82) F tw_142 d_SM_about_82 ?_
    refine cgN_Painter_rowsInFrame (pc := 85) F tw_81 d_SM_about_85 ?_
    exact gw_iret (pc := 88) F d_SM_about_88
  refine gw_spl (fun h1_5 => ?_) (fun h1_5 => ?_)
  · refine gw_tableIn (pc := 1) (tgt := 89) F d_SM_about_1 h1_5 (by decide) (by decide) rfl (by decide) ?_
    refine gw_aload_n (pc := 89) F 0 d_SM_about_89 rfl rfl ?_
    refine cg_SM_player (pc := 90) F tw_158 d_SM_about_90 ?_
    refine cgN_Player_painter (pc := 93) F tw_142 d_SM_about_93 ?_
    refine cgN_Painter_begunInFrame (pc := 96) F tw_79 d_SM_about_96 ?_
    exact gw_iret (pc := 99) F d_SM_about_99
  refine gw_tableOut (pc := 1) (tgt := 100) F d_SM_about_1 (by have ne_0 : ¬ (a1 : Int32).toInt = 0 := gw_ne h1_0; have ne_1 : ¬ (a1 : Int32).toInt = 1 := gw_ne h1_1; have ne_2 : ¬ (a1 : Int32).toInt = 2 := gw_ne h1_2; have ne_3 : ¬ (a1 : Int32).toInt = 3 := gw_ne h1_3; have ne_4 : ¬ (a1 : Int32).toInt = 4 := gw_ne h1_4; have ne_5 : ¬ (a1 : Int32).toInt = 5 := gw_ne h1_5; omega) (by decide) ?_
  refine gw_iconst (pc := 100) (v := (-1 : Int32)) F d_SM_about_100 (by decide) ?_
  exact gw_iret (pc := 101) F d_SM_about_101
set_option maxHeartbeats 4000000 in
set_option maxRecDepth 100000 in
theorem po_ok_SM_about   (S : gw_S) (a1 : Int32) (hf_ok : cOK S) : cOK (f_SM_about S a1).2 := by
  unfold f_SM_about
  refine po_if (Φ := fun p : Int32 × gw_S => cOK p.2) (fun h1_0 => ?_) (fun h1_0 => ?_)
  · exact hf_ok
  refine po_if (Φ := fun p : Int32 × gw_S => cOK p.2) (fun h1_1 => ?_) (fun h1_1 => ?_)
  · exact hf_ok
  refine po_if (Φ := fun p : Int32 × gw_S => cOK p.2) (fun h1_2 => ?_) (fun h1_2 => ?_)
  · exact hf_ok
  refine po_if (Φ := fun p : Int32 × gw_S => cOK p.2) (fun h1_3 => ?_) (fun h1_3 => ?_)
  · exact hf_ok
  refine po_if (Φ := fun p : Int32 × gw_S => cOK p.2) (fun h1_4 => ?_) (fun h1_4 => ?_)
  · exact hf_ok
  refine po_if (Φ := fun p : Int32 × gw_S => cOK p.2) (fun h1_5 => ?_) (fun h1_5 => ?_)
  · exact hf_ok
  exact hf_ok
noncomputable def f_SM_bytesOf   (S : gw_S) (a1 : Int32) : (Option Nat) × gw_S := (if a1 = 0 then ((some 2, S)) else (if a1 = (1 : Int32) then ((some 7, S)) else (((none : Option Nat), S))))
set_option maxHeartbeats 4000000 in
set_option maxRecDepth 100000 in
theorem c_SM_bytesOf (hJ : gw_J 46 ad)   (S : gw_S) (a1 : Int32) : gw_M l y_SM_bytesOf prog_1_method_11_code 2 (some (.object "StageMachine$Bytes")) gTs (gw_rm 0) D gCl (gTys cI cB cC cZ) 46 ad (cE ad cI cB cC) (gw_rA ad) [.ref (ad 0), .int a1] S (f_SM_bytesOf S a1) := by
  refine gw_start gTs_ok (plainFor_of_name (by decide)) hJ (Nat.le_of_ble_eq_true rfl) (fun X A F => ?_)
  refine gw_lve (lv' := [(0, .ref (ad 0)), (1, .int a1)]) rfl ?_
  unfold f_SM_bytesOf
  refine gw_iload_n (pc := 0) F 1 d_SM_bytesOf_0 rfl rfl ?_
  refine gw_if_neS (pc := 1) (tgt := 12) F d_SM_bytesOf_1 (by decide) (fun h1 => ?_) (fun h1 => ?_)
  · refine gw_iload_n (pc := 12) F 1 d_SM_bytesOf_12 rfl rfl ?_
    refine gw_iconst (pc := 13) (v := (1 : Int32)) F d_SM_bytesOf_13 (by decide) ?_
    refine gw_icmp_neS (pc := 14) (tgt := 30) F d_SM_bytesOf_14 (by decide) (fun h14 => ?_) (fun h14 => ?_)
    · refine gw_null (pc := 30) F d_SM_bytesOf_30 ?_
      exact gw_aretN (pc := 31) F (Or.inl ⟨_, rfl⟩) d_SM_bytesOf_31
    · refine gw_aload_n (pc := 17) F 0 d_SM_bytesOf_17 rfl rfl ?_
      refine cg_SM_player (pc := 18) F tw_158 d_SM_bytesOf_18 ?_
      refine cgN_Player_painter (pc := 21) F tw_142 d_SM_bytesOf_21 ?_
      refine cgN_Painter_shapes (pc := 24) F tw_69 d_SM_bytesOf_24 ?_
      refine gw_goto (pc := 27) (tgt := 31) F d_SM_bytesOf_27 (by decide) ?_
      exact gw_aret (pc := 31) F (Or.inl ⟨_, rfl⟩) d_SM_bytesOf_31
  · refine gw_aload_n (pc := 4) F 0 d_SM_bytesOf_4 rfl rfl ?_
    refine cg_SM_player (pc := 5) F tw_158 d_SM_bytesOf_5 ?_
    refine cgN_Player_program (pc := 8) F tw_136 d_SM_bytesOf_8 ?_
    exact gw_aret (pc := 11) F (Or.inl ⟨_, rfl⟩) d_SM_bytesOf_11
theorem cb_bytesOf0 {S : gw_S} {a : Int32} (h : a = 0) : f_SM_bytesOf S a = (some 2, S) := by unfold f_SM_bytesOf; rw [if_pos h]
theorem cb_bytesOf1 {S : gw_S} {a : Int32} (h : ¬ a = 0) (h2 : a = 1) : f_SM_bytesOf S a = (some 7, S) := by unfold f_SM_bytesOf; rw [if_neg h, if_pos h2]
theorem cb_bytesOfN {S : gw_S} {a : Int32} (h : ¬ a = 0) (h2 : ¬ a = 1) : f_SM_bytesOf S a = (none, S) := by unfold f_SM_bytesOf; rw [if_neg h, if_neg h2]
noncomputable def fl_SM_put_28   (b : Nat) (a2 : Int32) (a3 : Int32) (n : Nat) : gw_S → Int32 → Int32 × gw_S := gw_L1 (fun self S x5 => (if (4 : Int32) ≤ x5 then (((1 : Int32), S)) else (gw_b (f_Bytes_write b S (a2 + x5) (a3 >>> (((24 : Int32) - ((8 : Int32) * x5)) &&& 31))) fun _ S50 => (self S50 (x5 + (1 : Int32)))))) (fun S _ => (0, S)) n
set_option maxHeartbeats 4000000 in
set_option maxRecDepth 100000 in
theorem l_SM_put_28 {X : gx_M} {A : Nat → Prop}  (F : gw_F X l prog_1_method_2_code 6 (some .boolean) "StageMachine" gTs (gw_rm 1) D gCl (gTys cI cB cC cZ) 46 ad A) {b : Nat} (hb : b = 2 ∨ b = 7) (a2 : Int32) (a3 : Int32) : ∀ (n : Nat) (S : gw_S) (x5 : Int32), 0 < n → ((4 : Int32) : Int32).toInt - x5.toInt < (n : Int) → 0 ≤ x5.toInt → gw_V X (gw_P D gCl 46 ad (cE ad cI cB cC)) A 6 gw_rI S 28 [(2, .int a2), (3, .int a3), (4, .ref (ad b)), (5, .int x5)] [] (fl_SM_put_28 b a2 a3 n S x5) := by
  intro n
  induction n with
  | zero => intro S x5 hn hf h0; exact absurd hn (Nat.lt_irrefl 0)
  | succ n ih =>
    intro S x5 hn hf h0
    refine gw_iload (pc := 28) F 3 d_SM_put_28 rfl ?_
    refine gw_iconst (pc := 30) (v := (4 : Int32)) F d_SM_put_30 (by decide) ?_
    refine gw_icmp_geS (pc := 31) (tgt := 59) F d_SM_put_31 (by decide) (fun h31 => ?_) (fun h31 => ?_)
    · refine gw_iconst (pc := 59) (v := (1 : Int32)) F d_SM_put_59 (by decide) ?_
      exact gw_zret (pc := 60) F d_SM_put_60 rfl
    · refine gw_aload (pc := 34) F 2 d_SM_put_34 rfl ?_
      refine gw_iload_n (pc := 36) F 0 d_SM_put_36 rfl rfl ?_
      refine gw_iload (pc := 37) F 3 d_SM_put_37 rfl ?_
      refine gw_iadd (pc := 39) F d_SM_put_39 ?_
      refine gw_iload_n (pc := 40) F 1 d_SM_put_40 rfl rfl ?_
      refine gw_bipush (pc := 41) (v := (24 : Int32)) F d_SM_put_41 (by decide) ?_
      refine gw_bipush (pc := 43) (v := (8 : Int32)) F d_SM_put_43 (by decide) ?_
      refine gw_iload (pc := 45) F 3 d_SM_put_45 rfl ?_
      refine gw_imul (pc := 47) F d_SM_put_47 ?_
      refine gw_isub (pc := 48) F d_SM_put_48 ?_
      refine gw_ishr (pc := 49) F d_SM_put_49 ?_
      refine gw_cV (pc := 50) (As := [.int (a2 + x5), .int (a3 >>> (((24 : Int32) - ((8 : Int32) * x5)) &&& 31))]) (rest := []) F (c_Bytes_write (gw_FJ F) hb S (a2 + x5) (a3 >>> (((24 : Int32) - ((8 : Int32) * x5)) &&& 31))) cw_Bytes_write cv_Bytes_write tw_176 rfl (by decide) (by decide) (chi_Bytes hb) (cE_Bytes hb) rfl rfl rfl rfl (Nat.le_of_ble_eq_true rfl) d_SM_put_50 (gw_bV (P := fun _ U => True) trivial (fun _ S50 p50 => ?_))
      refine gw_iinc (pc := 53) (v := (x5 + (1 : Int32))) (lv' := [(5, .int (x5 + (1 : Int32))), (2, .int a2), (3, .int a3), (4, .ref (ad b))]) F 3 d_SM_put_53 rfl (congrArg (HAdd.hAdd x5) (by decide)) (by decide) rfl ?_
      refine gw_goto (pc := 56) (tgt := 28) F d_SM_put_56 (by decide) ?_
      refine gw_lvs (lv' := [(2, .int a2), (3, .int a3), (4, .ref (ad b)), (5, .int (x5 + (1 : Int32)))]) [1, 2, 3, 0] rfl ?_
      exact ih S50 (x5 + (1 : Int32)) (gw_stp h31 hf).1 (gw_stp h31 hf).2.1 (gw_stp0 h31 h0)
noncomputable def f_SM_put   (S : gw_S) (a1 : Int32) (a2 : Int32) (a3 : Int32) : Int32 × gw_S := (if a1 = 0 then (if a2 < 0 then (((0 : Int32), S)) else (if a2 ≤ (1020 : Int32) then (fl_SM_put_28 2 a2 a3 (gw_fu (((4 : Int32) : Int32).toInt - ((0 : Int32) : Int32).toInt)) S (0 : Int32)) else (((0 : Int32), S)))) else (if a1 = 1 then (if a2 < 0 then (((0 : Int32), S)) else (if a2 ≤ (1020 : Int32) then (fl_SM_put_28 7 a2 a3 (gw_fu (((4 : Int32) : Int32).toInt - ((0 : Int32) : Int32).toInt)) S (0 : Int32)) else (((0 : Int32), S)))) else (((0 : Int32), S))))
set_option maxHeartbeats 4000000 in
set_option maxRecDepth 100000 in
theorem c_SM_put (hJ : gw_J 46 ad)   (S : gw_S) (a1 : Int32) (a2 : Int32) (a3 : Int32) : gw_M l y_SM_put prog_1_method_2_code 6 (some .boolean) gTs (gw_rm 1) D gCl (gTys cI cB cC cZ) 46 ad (cE ad cI cB cC) gw_rI [.ref (ad 0), .int a1, .int a2, .int a3] S (f_SM_put S a1 a2 a3) := by
  refine gw_start gTs_ok (plainFor_of_name (by decide)) hJ (Nat.le_of_ble_eq_true rfl) (fun X A F => ?_)
  refine gw_lve (lv' := [(0, .ref (ad 0)), (1, .int a1), (2, .int a2), (3, .int a3)]) rfl ?_
  unfold f_SM_put
  refine gw_aload_n (pc := 0) F 0 d_SM_put_0 rfl rfl ?_
  refine gw_iload_n (pc := 1) F 1 d_SM_put_1 rfl rfl ?_
  refine gw_spl (fun hA => ?_) (fun hA => ?_)
  · refine gw_cV (pc := 2) (As := [.int a1]) (rest := []) F (gw_Me (cb_bytesOf0 (S := S) hA) (c_SM_bytesOf (gw_FJ F) S a1)) cw_SM_bytesOf cv_SM_bytesOf tw_172 rfl (by decide) (by decide) (by decide) cE_SM rfl rfl rfl rfl (Nat.le_of_ble_eq_true rfl) d_SM_put_2 ?_
    refine gw_to (S' := S) (st' := [.ref (ad 2)]) rfl rfl ?_
    refine gw_astore (pc := 5) (lv' := [(4, .ref (ad 2)), (0, .ref (ad 0)), (1, .int a1), (2, .int a2), (3, .int a3)]) F d_SM_put_5 (by decide) rfl ?_
    refine gw_aload (pc := 7) F 0 d_SM_put_7 rfl ?_
    refine gw_ifnull (pc := 9) F d_SM_put_9 ?_
    refine gw_iload_n (pc := 12) F 3 d_SM_put_12 rfl rfl ?_
    refine gw_if_ltS (pc := 13) (tgt := 23) F d_SM_put_13 (by decide) (fun h13 => ?_) (fun h13 => ?_)
    · refine gw_iconst (pc := 23) (v := (0 : Int32)) F d_SM_put_23 (by decide) ?_
      exact gw_zret (pc := 24) F d_SM_put_24 rfl
    · refine gw_iload_n (pc := 16) F 3 d_SM_put_16 rfl rfl ?_
      refine gw_sipush (pc := 17) (v := (1020 : Int32)) F d_SM_put_17 (by decide) ?_
      refine gw_icmp_leS (pc := 20) (tgt := 25) F d_SM_put_20 (by decide) (fun h20 => ?_) (fun h20 => ?_)
      · refine gw_iconst (pc := 25) (v := (0 : Int32)) F d_SM_put_25 (by decide) ?_
        refine gw_istore (pc := 26) (lv' := [(5, .int (0 : Int32)), (4, .ref (ad 2)), (0, .ref (ad 0)), (1, .int a1), (2, .int a2), (3, .int a3)]) F d_SM_put_26 (by decide) rfl ?_
        refine gw_lvs (lv' := [(2, .int a2), (3, .int a3), (4, .ref (ad 2)), (5, .int (0 : Int32))]) [4, 5, 1, 0] rfl ?_
        exact l_SM_put_28  F (Or.inl rfl) a2 a3  (gw_fu (((4 : Int32) : Int32).toInt - ((0 : Int32) : Int32).toInt)) S (0 : Int32) (gw_fu_pos _) (gw_fu_lt _) (by decide)
      · refine gw_iconst (pc := 23) (v := (0 : Int32)) F d_SM_put_23 (by decide) ?_
        exact gw_zret (pc := 24) F d_SM_put_24 rfl
  refine gw_spl (fun hB => ?_) (fun hB => ?_)
  · refine gw_cV (pc := 2) (As := [.int a1]) (rest := []) F (gw_Me (cb_bytesOf1 (S := S) hA hB) (c_SM_bytesOf (gw_FJ F) S a1)) cw_SM_bytesOf cv_SM_bytesOf tw_172 rfl (by decide) (by decide) (by decide) cE_SM rfl rfl rfl rfl (Nat.le_of_ble_eq_true rfl) d_SM_put_2 ?_
    refine gw_to (S' := S) (st' := [.ref (ad 7)]) rfl rfl ?_
    refine gw_astore (pc := 5) (lv' := [(4, .ref (ad 7)), (0, .ref (ad 0)), (1, .int a1), (2, .int a2), (3, .int a3)]) F d_SM_put_5 (by decide) rfl ?_
    refine gw_aload (pc := 7) F 0 d_SM_put_7 rfl ?_
    refine gw_ifnull (pc := 9) F d_SM_put_9 ?_
    refine gw_iload_n (pc := 12) F 3 d_SM_put_12 rfl rfl ?_
    refine gw_if_ltS (pc := 13) (tgt := 23) F d_SM_put_13 (by decide) (fun h13 => ?_) (fun h13 => ?_)
    · refine gw_iconst (pc := 23) (v := (0 : Int32)) F d_SM_put_23 (by decide) ?_
      exact gw_zret (pc := 24) F d_SM_put_24 rfl
    · refine gw_iload_n (pc := 16) F 3 d_SM_put_16 rfl rfl ?_
      refine gw_sipush (pc := 17) (v := (1020 : Int32)) F d_SM_put_17 (by decide) ?_
      refine gw_icmp_leS (pc := 20) (tgt := 25) F d_SM_put_20 (by decide) (fun h20 => ?_) (fun h20 => ?_)
      · refine gw_iconst (pc := 25) (v := (0 : Int32)) F d_SM_put_25 (by decide) ?_
        refine gw_istore (pc := 26) (lv' := [(5, .int (0 : Int32)), (4, .ref (ad 7)), (0, .ref (ad 0)), (1, .int a1), (2, .int a2), (3, .int a3)]) F d_SM_put_26 (by decide) rfl ?_
        refine gw_lvs (lv' := [(2, .int a2), (3, .int a3), (4, .ref (ad 7)), (5, .int (0 : Int32))]) [4, 5, 1, 0] rfl ?_
        exact l_SM_put_28  F (Or.inr rfl) a2 a3  (gw_fu (((4 : Int32) : Int32).toInt - ((0 : Int32) : Int32).toInt)) S (0 : Int32) (gw_fu_pos _) (gw_fu_lt _) (by decide)
      · refine gw_iconst (pc := 23) (v := (0 : Int32)) F d_SM_put_23 (by decide) ?_
        exact gw_zret (pc := 24) F d_SM_put_24 rfl
  refine gw_cV (pc := 2) (As := [.int a1]) (rest := []) F (gw_Me (cb_bytesOfN (S := S) hA hB) (c_SM_bytesOf (gw_FJ F) S a1)) cw_SM_bytesOf cv_SM_bytesOf tw_172 rfl (by decide) (by decide) (by decide) cE_SM rfl rfl rfl rfl (Nat.le_of_ble_eq_true rfl) d_SM_put_2 ?_
  refine gw_to (S' := S) (st' := [.null]) rfl rfl ?_
  refine gw_astoreN (pc := 5) (lv' := [(4, .null), (0, .ref (ad 0)), (1, .int a1), (2, .int a2), (3, .int a3)]) F d_SM_put_5 (by decide) rfl ?_
  refine gw_aloadN (pc := 7) F 0 d_SM_put_7 rfl ?_
  refine gw_ifnullN (pc := 9) (tgt := 23) F d_SM_put_9 (by decide) ?_
  refine gw_iconst (pc := 23) (v := (0 : Int32)) F d_SM_put_23 (by decide) ?_
  exact gw_zret (pc := 24) F d_SM_put_24 rfl
set_option maxHeartbeats 4000000 in
set_option maxRecDepth 100000 in
theorem pl_ok_SM_put_28  {b : Nat} (hb : b = 2 ∨ b = 7) (a2 : Int32) (a3 : Int32) : ∀ (n : Nat) (S : gw_S) (x5 : Int32), 0 < n → ((4 : Int32) : Int32).toInt - x5.toInt < (n : Int) → 0 ≤ x5.toInt → cOK S → cOK (fl_SM_put_28 b a2 a3 n S x5).2 := by
  intro n
  induction n with
  | zero => intro S x5 hn hf h0 hf_ok; exact absurd hn (Nat.lt_irrefl 0)
  | succ n ih =>
    intro S x5 hn hf h0 hf_ok
    refine po_if (Φ := fun p : Int32 × gw_S => cOK p.2) (fun h31 => ?_) (fun h31 => ?_)
    · exact hf_ok
    · refine po_b (Φ := fun p : Int32 × gw_S => cOK p.2) (P := fun _ U => cOK U) (po_ok_Bytes_write hb S (a2 + x5) (a3 >>> (((24 : Int32) - ((8 : Int32) * x5)) &&& 31)) hf_ok) (fun _ S50 p50 => ?_)
      exact ih S50 (x5 + (1 : Int32)) (gw_stp h31 hf).1 (gw_stp h31 hf).2.1 (gw_stp0 h31 h0) p50
set_option maxHeartbeats 4000000 in
set_option maxRecDepth 100000 in
theorem po_ok_SM_put   (S : gw_S) (a1 : Int32) (a2 : Int32) (a3 : Int32) (hf_ok : cOK S) : cOK (f_SM_put S a1 a2 a3).2 := by
  unfold f_SM_put
  refine po_if (Φ := fun p : Int32 × gw_S => cOK p.2) (fun hA => ?_) (fun hA => ?_)
  · refine po_if (Φ := fun p : Int32 × gw_S => cOK p.2) (fun h13 => ?_) (fun h13 => ?_)
    · exact hf_ok
    · refine po_if (Φ := fun p : Int32 × gw_S => cOK p.2) (fun h20 => ?_) (fun h20 => ?_)
      · exact pl_ok_SM_put_28 (Or.inl rfl) a2 a3  (gw_fu (((4 : Int32) : Int32).toInt - ((0 : Int32) : Int32).toInt)) S (0 : Int32) (gw_fu_pos _) (gw_fu_lt _) (by decide) hf_ok
      · exact hf_ok
  refine po_if (Φ := fun p : Int32 × gw_S => cOK p.2) (fun hB => ?_) (fun hB => ?_)
  · refine po_if (Φ := fun p : Int32 × gw_S => cOK p.2) (fun h13 => ?_) (fun h13 => ?_)
    · exact hf_ok
    · refine po_if (Φ := fun p : Int32 × gw_S => cOK p.2) (fun h20 => ?_) (fun h20 => ?_)
      · exact pl_ok_SM_put_28 (Or.inr rfl) a2 a3  (gw_fu (((4 : Int32) : Int32).toInt - ((0 : Int32) : Int32).toInt)) S (0 : Int32) (gw_fu_pos _) (gw_fu_lt _) (by decide) hf_ok
      · exact hf_ok
  exact hf_ok
noncomputable def f_SM_byteAt   (S : gw_S) (a1 : Int32) (a2 : Int32) : Int32 × gw_S := (if a1 = 0 then (if a2 < 0 then (((-1 : Int32), S)) else (if a2 ≤ (1023 : Int32) then (gw_b (f_Bytes_read 2 S a2) fun r25 S25 => (r25, S25)) else (((-1 : Int32), S)))) else (if a1 = 1 then (if a2 < 0 then (((-1 : Int32), S)) else (if a2 ≤ (1023 : Int32) then (gw_b (f_Bytes_read 7 S a2) fun r25 S25 => (r25, S25)) else (((-1 : Int32), S)))) else (((-1 : Int32), S))))
set_option maxHeartbeats 4000000 in
set_option maxRecDepth 100000 in
theorem c_SM_byteAt (hJ : gw_J 46 ad)   (S : gw_S) (a1 : Int32) (a2 : Int32) : gw_M l y_SM_byteAt prog_1_method_3_code 4 (some .int) gTs (gw_rm 1) D gCl (gTys cI cB cC cZ) 46 ad (cE ad cI cB cC) gw_rI [.ref (ad 0), .int a1, .int a2] S (f_SM_byteAt S a1 a2) := by
  refine gw_start gTs_ok (plainFor_of_name (by decide)) hJ (Nat.le_of_ble_eq_true rfl) (fun X A F => ?_)
  refine gw_lve (lv' := [(0, .ref (ad 0)), (1, .int a1), (2, .int a2)]) rfl ?_
  unfold f_SM_byteAt
  refine gw_aload_n (pc := 0) F 0 d_SM_byteAt_0 rfl rfl ?_
  refine gw_iload_n (pc := 1) F 1 d_SM_byteAt_1 rfl rfl ?_
  refine gw_spl (fun hA => ?_) (fun hA => ?_)
  · refine gw_cV (pc := 2) (As := [.int a1]) (rest := []) F (gw_Me (cb_bytesOf0 (S := S) hA) (c_SM_bytesOf (gw_FJ F) S a1)) cw_SM_bytesOf cv_SM_bytesOf tw_172 rfl (by decide) (by decide) (by decide) cE_SM rfl rfl rfl rfl (Nat.le_of_ble_eq_true rfl) d_SM_byteAt_2 ?_
    refine gw_to (S' := S) (st' := [.ref (ad 2)]) rfl rfl ?_
    refine gw_astore_n (pc := 5) (lv' := [(3, .ref (ad 2)), (0, .ref (ad 0)), (1, .int a1), (2, .int a2)]) F d_SM_byteAt_5 rfl (by decide) rfl ?_
    refine gw_aload_n (pc := 6) F 0 d_SM_byteAt_6 rfl rfl ?_
    refine gw_ifnull (pc := 7) F d_SM_byteAt_7 ?_
    refine gw_iload_n (pc := 10) F 3 d_SM_byteAt_10 rfl rfl ?_
    refine gw_if_ltS (pc := 11) (tgt := 21) F d_SM_byteAt_11 (by decide) (fun h11 => ?_) (fun h11 => ?_)
    · refine gw_iconst (pc := 21) (v := (-1 : Int32)) F d_SM_byteAt_21 (by decide) ?_
      exact gw_iret (pc := 22) F d_SM_byteAt_22
    · refine gw_iload_n (pc := 14) F 3 d_SM_byteAt_14 rfl rfl ?_
      refine gw_sipush (pc := 15) (v := (1023 : Int32)) F d_SM_byteAt_15 (by decide) ?_
      refine gw_icmp_leS (pc := 18) (tgt := 23) F d_SM_byteAt_18 (by decide) (fun h18 => ?_) (fun h18 => ?_)
      · refine gw_aload_n (pc := 23) F 0 d_SM_byteAt_23 rfl rfl ?_
        refine gw_iload_n (pc := 24) F 3 d_SM_byteAt_24 rfl rfl ?_
        refine gw_cV (pc := 25) (As := [.int a2]) (rest := []) F (c_Bytes_read (gw_FJ F) (Or.inl rfl) S a2) cw_Bytes_read cv_Bytes_read tw_184 rfl (by decide) (by decide) (chi_Bytes (Or.inl rfl)) (cE_Bytes (Or.inl rfl)) rfl rfl rfl rfl (Nat.le_of_ble_eq_true rfl) d_SM_byteAt_25 (gw_bI (P := fun r U => True) trivial (fun r25 S25 p25 => ?_))
        exact gw_iret (pc := 28) F d_SM_byteAt_28
      · refine gw_iconst (pc := 21) (v := (-1 : Int32)) F d_SM_byteAt_21 (by decide) ?_
        exact gw_iret (pc := 22) F d_SM_byteAt_22
  refine gw_spl (fun hB => ?_) (fun hB => ?_)
  · refine gw_cV (pc := 2) (As := [.int a1]) (rest := []) F (gw_Me (cb_bytesOf1 (S := S) hA hB) (c_SM_bytesOf (gw_FJ F) S a1)) cw_SM_bytesOf cv_SM_bytesOf tw_172 rfl (by decide) (by decide) (by decide) cE_SM rfl rfl rfl rfl (Nat.le_of_ble_eq_true rfl) d_SM_byteAt_2 ?_
    refine gw_to (S' := S) (st' := [.ref (ad 7)]) rfl rfl ?_
    refine gw_astore_n (pc := 5) (lv' := [(3, .ref (ad 7)), (0, .ref (ad 0)), (1, .int a1), (2, .int a2)]) F d_SM_byteAt_5 rfl (by decide) rfl ?_
    refine gw_aload_n (pc := 6) F 0 d_SM_byteAt_6 rfl rfl ?_
    refine gw_ifnull (pc := 7) F d_SM_byteAt_7 ?_
    refine gw_iload_n (pc := 10) F 3 d_SM_byteAt_10 rfl rfl ?_
    refine gw_if_ltS (pc := 11) (tgt := 21) F d_SM_byteAt_11 (by decide) (fun h11 => ?_) (fun h11 => ?_)
    · refine gw_iconst (pc := 21) (v := (-1 : Int32)) F d_SM_byteAt_21 (by decide) ?_
      exact gw_iret (pc := 22) F d_SM_byteAt_22
    · refine gw_iload_n (pc := 14) F 3 d_SM_byteAt_14 rfl rfl ?_
      refine gw_sipush (pc := 15) (v := (1023 : Int32)) F d_SM_byteAt_15 (by decide) ?_
      refine gw_icmp_leS (pc := 18) (tgt := 23) F d_SM_byteAt_18 (by decide) (fun h18 => ?_) (fun h18 => ?_)
      · refine gw_aload_n (pc := 23) F 0 d_SM_byteAt_23 rfl rfl ?_
        refine gw_iload_n (pc := 24) F 3 d_SM_byteAt_24 rfl rfl ?_
        refine gw_cV (pc := 25) (As := [.int a2]) (rest := []) F (c_Bytes_read (gw_FJ F) (Or.inr rfl) S a2) cw_Bytes_read cv_Bytes_read tw_184 rfl (by decide) (by decide) (chi_Bytes (Or.inr rfl)) (cE_Bytes (Or.inr rfl)) rfl rfl rfl rfl (Nat.le_of_ble_eq_true rfl) d_SM_byteAt_25 (gw_bI (P := fun r U => True) trivial (fun r25 S25 p25 => ?_))
        exact gw_iret (pc := 28) F d_SM_byteAt_28
      · refine gw_iconst (pc := 21) (v := (-1 : Int32)) F d_SM_byteAt_21 (by decide) ?_
        exact gw_iret (pc := 22) F d_SM_byteAt_22
  refine gw_cV (pc := 2) (As := [.int a1]) (rest := []) F (gw_Me (cb_bytesOfN (S := S) hA hB) (c_SM_bytesOf (gw_FJ F) S a1)) cw_SM_bytesOf cv_SM_bytesOf tw_172 rfl (by decide) (by decide) (by decide) cE_SM rfl rfl rfl rfl (Nat.le_of_ble_eq_true rfl) d_SM_byteAt_2 ?_
  refine gw_to (S' := S) (st' := [.null]) rfl rfl ?_
  refine gw_astore_nN (pc := 5) (lv' := [(3, .null), (0, .ref (ad 0)), (1, .int a1), (2, .int a2)]) F d_SM_byteAt_5 rfl (by decide) rfl ?_
  refine gw_aload_nN (pc := 6) F 0 d_SM_byteAt_6 rfl rfl ?_
  refine gw_ifnullN (pc := 7) (tgt := 21) F d_SM_byteAt_7 (by decide) ?_
  refine gw_iconst (pc := 21) (v := (-1 : Int32)) F d_SM_byteAt_21 (by decide) ?_
  exact gw_iret (pc := 22) F d_SM_byteAt_22
set_option maxHeartbeats 4000000 in
set_option maxRecDepth 100000 in
theorem po_ok_SM_byteAt   (S : gw_S) (a1 : Int32) (a2 : Int32) (hf_ok : cOK S) : cOK (f_SM_byteAt S a1 a2).2 := by
  unfold f_SM_byteAt
  refine po_if (Φ := fun p : Int32 × gw_S => cOK p.2) (fun hA => ?_) (fun hA => ?_)
  · refine po_if (Φ := fun p : Int32 × gw_S => cOK p.2) (fun h11 => ?_) (fun h11 => ?_)
    · exact hf_ok
    · refine po_if (Φ := fun p : Int32 × gw_S => cOK p.2) (fun h18 => ?_) (fun h18 => ?_)
      · refine po_b (Φ := fun p : Int32 × gw_S => cOK p.2) (P := fun r U => cOK U ∧ vp_in r 256) ⟨(po_ok_Bytes_read (Or.inl rfl) S a2 hf_ok), (cb_read (Or.inl rfl) S a2 hf_ok)⟩ (fun r25 S25 p25 => ?_)
        exact p25.1
      · exact hf_ok
  refine po_if (Φ := fun p : Int32 × gw_S => cOK p.2) (fun hB => ?_) (fun hB => ?_)
  · refine po_if (Φ := fun p : Int32 × gw_S => cOK p.2) (fun h11 => ?_) (fun h11 => ?_)
    · exact hf_ok
    · refine po_if (Φ := fun p : Int32 × gw_S => cOK p.2) (fun h18 => ?_) (fun h18 => ?_)
      · refine po_b (Φ := fun p : Int32 × gw_S => cOK p.2) (P := fun r U => cOK U ∧ vp_in r 256) ⟨(po_ok_Bytes_read (Or.inr rfl) S a2 hf_ok), (cb_read (Or.inr rfl) S a2 hf_ok)⟩ (fun r25 S25 p25 => ?_)
        exact p25.1
      · exact hf_ok
  exact hf_ok
noncomputable def f_SM_pixel   (S : gw_S) (a1 : Int32) (a2 : Int32) (a3 : Int32) : Int32 × gw_S := (gw_b (f_SM_isBelow S a1 (4 : Int32)) fun r2 S2 => if r2 = 0 then (((-1 : Int32), S2)) else (gw_b (f_SM_isBelow S2 a2 (64 : Int32)) fun r11 S11 => if r11 = 0 then (((-1 : Int32), S11)) else (gw_b (f_SM_isBelow S11 a3 (40 : Int32)) fun r20 S20 => if r20 = 0 then (((-1 : Int32), S20)) else (gw_b (f_Pages_colourAt S20 a1 a2 a3) fun r41 S41 => (r41, S41)))))
set_option maxHeartbeats 4000000 in
set_option maxRecDepth 100000 in
theorem c_SM_pixel (hJ : gw_J 46 ad)   (S : gw_S) (a1 : Int32) (a2 : Int32) (a3 : Int32) : gw_M l y_SM_pixel prog_1_method_9_code 4 (some .int) gTs (gw_rm 1) D gCl (gTys cI cB cC cZ) 46 ad (cE ad cI cB cC) gw_rI [.ref (ad 0), .int a1, .int a2, .int a3] S (f_SM_pixel S a1 a2 a3) := by
  refine gw_start gTs_ok (plainFor_of_name (by decide)) hJ (Nat.le_of_ble_eq_true rfl) (fun X A F => ?_)
  refine gw_lve (lv' := [(0, .ref (ad 0)), (1, .int a1), (2, .int a2), (3, .int a3)]) rfl ?_
  unfold f_SM_pixel
  refine gw_iload_n (pc := 0) F 1 d_SM_pixel_0 rfl rfl ?_
  refine gw_iconst (pc := 1) (v := (4 : Int32)) F d_SM_pixel_1 (by decide) ?_
  refine gw_cS (pc := 2) (As := [.int a1, .int (4 : Int32)]) (rest := []) F (c_SM_isBelow (gw_FJ F) S a1 (4 : Int32)) cw_SM_isBelow cv_SM_isBelow tw_192 rfl (by decide) (by decide) rfl rfl (Nat.le_of_ble_eq_true rfl) d_SM_pixel_2 (gw_bI (P := fun r U => (¬ r = 0 → vp_in a1 4)) (cb_isBelow4 S a1) (fun r2 S2 p2 => ?_))
  refine gw_if_eqS (pc := 5) (tgt := 26) F d_SM_pixel_5 (by decide) (fun h5 => ?_) (fun h5 => ?_)
  · refine gw_iconst (pc := 26) (v := (-1 : Int32)) F d_SM_pixel_26 (by decide) ?_
    exact gw_iret (pc := 27) F d_SM_pixel_27
  · refine gw_iload_n (pc := 8) F 2 d_SM_pixel_8 rfl rfl ?_
    refine gw_bipush (pc := 9) (v := (64 : Int32)) F d_SM_pixel_9 (by decide) ?_
    refine gw_cS (pc := 11) (As := [.int a2, .int (64 : Int32)]) (rest := []) F (c_SM_isBelow (gw_FJ F) S2 a2 (64 : Int32)) cw_SM_isBelow cv_SM_isBelow tw_192 rfl (by decide) (by decide) rfl rfl (Nat.le_of_ble_eq_true rfl) d_SM_pixel_11 (gw_bI (P := fun r U => (¬ r = 0 → vp_in a2 64)) (cb_isBelow64 S2 a2) (fun r11 S11 p11 => ?_))
    refine gw_if_eqS (pc := 14) (tgt := 26) F d_SM_pixel_14 (by decide) (fun h14 => ?_) (fun h14 => ?_)
    · refine gw_iconst (pc := 26) (v := (-1 : Int32)) F d_SM_pixel_26 (by decide) ?_
      exact gw_iret (pc := 27) F d_SM_pixel_27
    · refine gw_iload_n (pc := 17) F 3 d_SM_pixel_17 rfl rfl ?_
      refine gw_bipush (pc := 18) (v := (40 : Int32)) F d_SM_pixel_18 (by decide) ?_
      refine gw_cS (pc := 20) (As := [.int a3, .int (40 : Int32)]) (rest := []) F (c_SM_isBelow (gw_FJ F) S11 a3 (40 : Int32)) cw_SM_isBelow cv_SM_isBelow tw_192 rfl (by decide) (by decide) rfl rfl (Nat.le_of_ble_eq_true rfl) d_SM_pixel_20 (gw_bI (P := fun r U => (¬ r = 0 → vp_in a3 40)) (cb_isBelow40 S11 a3) (fun r20 S20 p20 => ?_))
      refine gw_if_neS (pc := 23) (tgt := 28) F d_SM_pixel_23 (by decide) (fun h23 => ?_) (fun h23 => ?_)
      · refine gw_aload_n (pc := 28) F 0 d_SM_pixel_28 rfl rfl ?_
        refine cg_SM_player (pc := 29) F tw_158 d_SM_pixel_29 ?_
        refine cgN_Player_painter (pc := 32) F tw_142 d_SM_pixel_32 ?_
        refine cgN_Painter_pages (pc := 35) F tw_71 d_SM_pixel_35 ?_
        refine gw_iload_n (pc := 38) F 1 d_SM_pixel_38 rfl rfl ?_
        refine gw_iload_n (pc := 39) F 2 d_SM_pixel_39 rfl rfl ?_
        refine gw_iload_n (pc := 40) F 3 d_SM_pixel_40 rfl rfl ?_
        refine gw_cV (pc := 41) (As := [.int a1, .int a2, .int a3]) (rest := []) F (c_Pages_colourAt (gw_FJ F) S20 a1 a2 a3 (p2 h5) (p11 h14) (p20 h23)) cw_Pages_colourAt cv_Pages_colourAt tw_393 rfl (by decide) (by decide) (by decide) cE_Pages rfl rfl rfl rfl (Nat.le_of_ble_eq_true rfl) d_SM_pixel_41 (gw_bI (P := fun r U => True) trivial (fun r41 S41 p41 => ?_))
        exact gw_iret (pc := 44) F d_SM_pixel_44
      · refine gw_iconst (pc := 26) (v := (-1 : Int32)) F d_SM_pixel_26 (by decide) ?_
        exact gw_iret (pc := 27) F d_SM_pixel_27
set_option maxHeartbeats 4000000 in
set_option maxRecDepth 100000 in
theorem po_ok_SM_pixel   (S : gw_S) (a1 : Int32) (a2 : Int32) (a3 : Int32) (hf_ok : cOK S) : cOK (f_SM_pixel S a1 a2 a3).2 := by
  unfold f_SM_pixel
  refine po_b (Φ := fun p : Int32 × gw_S => cOK p.2) (P := fun r U => cOK U ∧ (¬ r = 0 → vp_in a1 4)) ⟨(po_ok_SM_isBelow S a1 (4 : Int32) hf_ok), (cb_isBelow4 S a1)⟩ (fun r2 S2 p2 => ?_)
  refine po_if (Φ := fun p : Int32 × gw_S => cOK p.2) (fun h5 => ?_) (fun h5 => ?_)
  · exact p2.1
  · refine po_b (Φ := fun p : Int32 × gw_S => cOK p.2) (P := fun r U => cOK U ∧ (¬ r = 0 → vp_in a2 64)) ⟨(po_ok_SM_isBelow S2 a2 (64 : Int32) p2.1), (cb_isBelow64 S2 a2)⟩ (fun r11 S11 p11 => ?_)
    refine po_if (Φ := fun p : Int32 × gw_S => cOK p.2) (fun h14 => ?_) (fun h14 => ?_)
    · exact p11.1
    · refine po_b (Φ := fun p : Int32 × gw_S => cOK p.2) (P := fun r U => cOK U ∧ (¬ r = 0 → vp_in a3 40)) ⟨(po_ok_SM_isBelow S11 a3 (40 : Int32) p11.1), (cb_isBelow40 S11 a3)⟩ (fun r20 S20 p20 => ?_)
      refine po_if (Φ := fun p : Int32 × gw_S => cOK p.2) (fun h23 => ?_) (fun h23 => ?_)
      · exact p20.1
      · refine po_b (Φ := fun p : Int32 × gw_S => cOK p.2) (P := fun r U => cOK U) (po_ok_Pages_colourAt S20 a1 a2 a3 p20.1 (p2.2 h5) (p11.2 h14) (p20.2 h23)) (fun r41 S41 p41 => ?_)
        exact p41
noncomputable def f_Math_fdI   (S : gw_S) (a1 : Int32) (a2 : Int32) : Int32 × gw_S := (gw_n (a1 / a2) fun v3 => if 0 ≤ (a1 ^^^ a2) then ((v3, S)) else (if (v3 * a2) = a1 then ((v3, S)) else (((v3 - (1 : Int32)), S))))
set_option maxHeartbeats 4000000 in
set_option maxRecDepth 100000 in
theorem c_Math_fdI (hJ : gw_J 46 ad)   (S : gw_S) (a1 : Int32) (a2 : Int32) (hz : ¬ a2 = 0) : gw_M l y_Math_fdI prog_9_method_47_code 3 (some .int) gTs (gw_rm 0) D gCl (gTys cI cB cC cZ) 46 ad (cE ad cI cB cC) gw_rI [.int a1, .int a2] S (f_Math_fdI S a1 a2) := by
  refine gw_start gTs_ok (by decide +kernel) hJ (Nat.le_of_ble_eq_true rfl) (fun X A F => ?_)
  refine gw_lve (lv' := [(0, .int a1), (1, .int a2)]) rfl ?_
  unfold f_Math_fdI
  refine gw_iload_n (pc := 0) F 0 d_Math_fdI_0 rfl rfl ?_
  refine gw_iload_n (pc := 1) F 1 d_Math_fdI_1 rfl rfl ?_
  refine gw_idiv (pc := 2) F d_Math_fdI_2 hz ?_
  refine gw_nI (fun v3 e3 => ?_)
  refine gw_istore_n (pc := 3) (lv' := [(2, .int v3), (0, .int a1), (1, .int a2)]) F d_Math_fdI_3 rfl (by decide) rfl ?_
  refine gw_iload_n (pc := 4) F 1 d_Math_fdI_4 rfl rfl ?_
  refine gw_iload_n (pc := 5) F 2 d_Math_fdI_5 rfl rfl ?_
  refine gw_ixor (pc := 6) F d_Math_fdI_6 ?_
  refine gw_if_geS (pc := 7) (tgt := 21) F d_Math_fdI_7 (by decide) (fun h7 => ?_) (fun h7 => ?_)
  · refine gw_iload_n (pc := 21) F 0 d_Math_fdI_21 rfl rfl ?_
    exact gw_iret (pc := 22) F d_Math_fdI_22
  · refine gw_iload_n (pc := 10) F 0 d_Math_fdI_10 rfl rfl ?_
    refine gw_iload_n (pc := 11) F 2 d_Math_fdI_11 rfl rfl ?_
    refine gw_imul (pc := 12) F d_Math_fdI_12 ?_
    refine gw_iload_n (pc := 13) F 1 d_Math_fdI_13 rfl rfl ?_
    refine gw_icmp_eqS (pc := 14) (tgt := 21) F d_Math_fdI_14 (by decide) (fun h14 => ?_) (fun h14 => ?_)
    · refine gw_iload_n (pc := 21) F 0 d_Math_fdI_21 rfl rfl ?_
      exact gw_iret (pc := 22) F d_Math_fdI_22
    · refine gw_iload_n (pc := 17) F 0 d_Math_fdI_17 rfl rfl ?_
      refine gw_iconst (pc := 18) (v := (1 : Int32)) F d_Math_fdI_18 (by decide) ?_
      refine gw_isub (pc := 19) F d_Math_fdI_19 ?_
      exact gw_iret (pc := 20) F d_Math_fdI_20
set_option maxHeartbeats 4000000 in
set_option maxRecDepth 100000 in
theorem po_ok_Math_fdI   (S : gw_S) (a1 : Int32) (a2 : Int32) (hf_ok : cOK S) (hz : ¬ a2 = 0) : cOK (f_Math_fdI S a1 a2).2 := by
  unfold f_Math_fdI
  refine po_n (Φ := fun p : Int32 × gw_S => cOK p.2) (fun v3 e3 => ?_)
  refine po_if (Φ := fun p : Int32 × gw_S => cOK p.2) (fun h7 => ?_) (fun h7 => ?_)
  · exact hf_ok
  · refine po_if (Φ := fun p : Int32 × gw_S => cOK p.2) (fun h14 => ?_) (fun h14 => ?_)
    · exact hf_ok
    · exact hf_ok
noncomputable def f_Math_fdJ   (S : gw_S) (a1 : Int64) (a2 : Int64) : Int64 × gw_S := (gw_n (a1 / a2) fun v3 => if 0 ≤ (lg_cmp (a1 ^^^ a2) (0 : Int64)) then ((v3, S)) else (if (lg_cmp (v3 * a2) a1) = 0 then ((v3, S)) else (((v3 - (1 : Int64)), S))))
set_option maxHeartbeats 4000000 in
set_option maxRecDepth 100000 in
theorem c_Math_fdJ (hJ : gw_J 46 ad)   (S : gw_S) (a1 : Int64) (a2 : Int64) (hz : ¬ a2 = 0) : gw_M l y_Math_fdJ prog_9_method_49_code 6 (some .long) gTs (gw_rm 0) D gCl (gTys cI cB cC cZ) 46 ad (cE ad cI cB cC) gw_rJ [.long a1, .long a2] S (f_Math_fdJ S a1 a2) := by
  refine gw_start gTs_ok (by decide +kernel) hJ (Nat.le_of_ble_eq_true rfl) (fun X A F => ?_)
  refine gw_lve (lv' := [(0, .long a1), (2, .long a2)]) rfl ?_
  unfold f_Math_fdJ
  refine gw_lload_n (pc := 0) F 0 d_Math_fdJ_0 rfl rfl ?_
  refine gw_lload_n (pc := 1) F 1 d_Math_fdJ_1 rfl rfl ?_
  refine gw_ldiv (pc := 2) F d_Math_fdJ_2 hz ?_
  refine gw_nJ (fun v3 e3 => ?_)
  refine gw_lstore (pc := 3) (lv' := [(4, .long v3), (0, .long a1), (2, .long a2)]) F d_Math_fdJ_3 (by decide) rfl ?_
  refine gw_lload_n (pc := 5) F 1 d_Math_fdJ_5 rfl rfl ?_
  refine gw_lload_n (pc := 6) F 2 d_Math_fdJ_6 rfl rfl ?_
  refine gw_lxor (pc := 7) F d_Math_fdJ_7 ?_
  refine gw_lconst (pc := 8) (v := (0 : Int64)) F d_Math_fdJ_8 (by decide) ?_
  refine gw_lcmp (pc := 9) F d_Math_fdJ_9 ?_
  refine gw_if_geS (pc := 10) (tgt := 27) F d_Math_fdJ_10 (by decide) (fun h10 => ?_) (fun h10 => ?_)
  · refine gw_lload (pc := 27) F 0 d_Math_fdJ_27 rfl ?_
    exact gw_lret (pc := 29) F d_Math_fdJ_29
  · refine gw_lload (pc := 13) F 0 d_Math_fdJ_13 rfl ?_
    refine gw_lload_n (pc := 15) F 2 d_Math_fdJ_15 rfl rfl ?_
    refine gw_lmul (pc := 16) F d_Math_fdJ_16 ?_
    refine gw_lload_n (pc := 17) F 1 d_Math_fdJ_17 rfl rfl ?_
    refine gw_lcmp (pc := 18) F d_Math_fdJ_18 ?_
    refine gw_if_eqS (pc := 19) (tgt := 27) F d_Math_fdJ_19 (by decide) (fun h19 => ?_) (fun h19 => ?_)
    · refine gw_lload (pc := 27) F 0 d_Math_fdJ_27 rfl ?_
      exact gw_lret (pc := 29) F d_Math_fdJ_29
    · refine gw_lload (pc := 22) F 0 d_Math_fdJ_22 rfl ?_
      refine gw_lconst (pc := 24) (v := (1 : Int64)) F d_Math_fdJ_24 (by decide) ?_
      refine gw_lsub (pc := 25) F d_Math_fdJ_25 ?_
      exact gw_lret (pc := 26) F d_Math_fdJ_26
set_option maxHeartbeats 4000000 in
set_option maxRecDepth 100000 in
theorem po_ok_Math_fdJ   (S : gw_S) (a1 : Int64) (a2 : Int64) (hf_ok : cOK S) (hz : ¬ a2 = 0) : cOK (f_Math_fdJ S a1 a2).2 := by
  unfold f_Math_fdJ
  refine po_n (Φ := fun p : Int64 × gw_S => cOK p.2) (fun v3 e3 => ?_)
  refine po_if (Φ := fun p : Int64 × gw_S => cOK p.2) (fun h10 => ?_) (fun h10 => ?_)
  · exact hf_ok
  · refine po_if (Φ := fun p : Int64 × gw_S => cOK p.2) (fun h19 => ?_) (fun h19 => ?_)
    · exact hf_ok
    · exact hf_ok
noncomputable def f_Math_max   (S : gw_S) (a1 : Int32) (a2 : Int32) : Int32 × gw_S := (if a1 < a2 then ((a2, S)) else ((a1, S)))
set_option maxHeartbeats 4000000 in
set_option maxRecDepth 100000 in
theorem c_Math_max (hJ : gw_J 46 ad)   (S : gw_S) (a1 : Int32) (a2 : Int32) : gw_M l y_Math_max prog_9_method_65_code 2 (some .int) gTs (gw_rm 0) D gCl (gTys cI cB cC cZ) 46 ad (cE ad cI cB cC) gw_rI [.int a1, .int a2] S (f_Math_max S a1 a2) := by
  refine gw_start gTs_ok (by decide +kernel) hJ (Nat.le_of_ble_eq_true rfl) (fun X A F => ?_)
  refine gw_lve (lv' := [(0, .int a1), (1, .int a2)]) rfl ?_
  unfold f_Math_max
  refine gw_iload_n (pc := 0) F 0 d_Math_max_0 rfl rfl ?_
  refine gw_iload_n (pc := 1) F 1 d_Math_max_1 rfl rfl ?_
  refine gw_icmp_ltS (pc := 2) (tgt := 9) F d_Math_max_2 (by decide) (fun h2 => ?_) (fun h2 => ?_)
  · refine gw_iload_n (pc := 9) F 1 d_Math_max_9 rfl rfl ?_
    exact gw_iret (pc := 10) F d_Math_max_10
  · refine gw_iload_n (pc := 5) F 0 d_Math_max_5 rfl rfl ?_
    refine gw_goto (pc := 6) (tgt := 10) F d_Math_max_6 (by decide) ?_
    exact gw_iret (pc := 10) F d_Math_max_10
theorem cb_max {S : gw_S} {a b : Int32} : a.toInt ≤ (f_Math_max S a b).1.toInt ∧ b.toInt ≤ (f_Math_max S a b).1.toInt := by
  unfold f_Math_max
  refine po_if (Φ := fun p : Int32 × gw_S => a.toInt ≤ p.1.toInt ∧ b.toInt ≤ p.1.toInt) (fun h => ?_) (fun h => ?_)
  · rw [Int32.lt_iff_toInt_lt] at h; dsimp only; omega
  · rw [Int32.lt_iff_toInt_lt] at h; dsimp only; omega
theorem cb_max0 (S : gw_S) (a : Int32) : 0 ≤ (f_Math_max S a (0 : Int32)).1.toInt := (cb_max (S := S) (a := a) (b := 0)).2
theorem cb_first (S : gw_S) (t : Int32) (h : cYb t) : 0 ≤ t.toInt + (f_Math_max S (0 : Int32) (-t)).1.toInt := by
  have h1 := (cb_max (S := S) (a := 0) (b := -t)).2
  have h2 : (-t).toInt = -t.toInt := by
    unfold cYb at h
    rw [Int32.toInt_neg]
    exact Int.bmod_eq_of_le (by omega) (by omega)
  omega
set_option maxHeartbeats 4000000 in
set_option maxRecDepth 100000 in
theorem po_ok_Math_max   (S : gw_S) (a1 : Int32) (a2 : Int32) (hf_ok : cOK S) : cOK (f_Math_max S a1 a2).2 := by
  unfold f_Math_max
  refine po_if (Φ := fun p : Int32 × gw_S => cOK p.2) (fun h2 => ?_) (fun h2 => ?_)
  · exact hf_ok
  · exact hf_ok
noncomputable def f_Math_min   (S : gw_S) (a1 : Int32) (a2 : Int32) : Int32 × gw_S := (if a2 < a1 then ((a2, S)) else ((a1, S)))
set_option maxHeartbeats 4000000 in
set_option maxRecDepth 100000 in
theorem c_Math_min (hJ : gw_J 46 ad)   (S : gw_S) (a1 : Int32) (a2 : Int32) : gw_M l y_Math_min prog_9_method_69_code 2 (some .int) gTs (gw_rm 0) D gCl (gTys cI cB cC cZ) 46 ad (cE ad cI cB cC) gw_rI [.int a1, .int a2] S (f_Math_min S a1 a2) := by
  refine gw_start gTs_ok (by decide +kernel) hJ (Nat.le_of_ble_eq_true rfl) (fun X A F => ?_)
  refine gw_lve (lv' := [(0, .int a1), (1, .int a2)]) rfl ?_
  unfold f_Math_min
  refine gw_iload_n (pc := 0) F 0 d_Math_min_0 rfl rfl ?_
  refine gw_iload_n (pc := 1) F 1 d_Math_min_1 rfl rfl ?_
  refine gw_icmp_gtS (pc := 2) (tgt := 9) F d_Math_min_2 (by decide) (fun h2 => ?_) (fun h2 => ?_)
  · refine gw_iload_n (pc := 9) F 1 d_Math_min_9 rfl rfl ?_
    exact gw_iret (pc := 10) F d_Math_min_10
  · refine gw_iload_n (pc := 5) F 0 d_Math_min_5 rfl rfl ?_
    refine gw_goto (pc := 6) (tgt := 10) F d_Math_min_6 (by decide) ?_
    exact gw_iret (pc := 10) F d_Math_min_10
theorem cb_min {S : gw_S} {a b : Int32} : (f_Math_min S a b).1.toInt ≤ a.toInt ∧ (f_Math_min S a b).1.toInt ≤ b.toInt := by
  unfold f_Math_min
  refine po_if (Φ := fun p : Int32 × gw_S => p.1.toInt ≤ a.toInt ∧ p.1.toInt ≤ b.toInt) (fun h => ?_) (fun h => ?_)
  · rw [Int32.lt_iff_toInt_lt] at h; dsimp only; omega
  · rw [Int32.lt_iff_toInt_lt] at h; dsimp only; omega
theorem cb_min63 (S : gw_S) (a : Int32) : (f_Math_min S a (63 : Int32)).1.toInt ≤ 63 := (cb_min (S := S) (a := a) (b := 63)).2
theorem cb_end (S : gw_S) (a t : Int32) (h : cYb t) : (f_Math_min S a ((40 : Int32) - t)).1.toInt ≤ 40 - t.toInt := by
  have h1 := (cb_min (S := S) (a := a) (b := (40 : Int32) - t)).2
  have h2 : ((40 : Int32) - t).toInt = 40 - t.toInt := by
    unfold cYb at h
    have h3 : (40 : Int32).toInt = 40 := rfl
    rw [gw_subI (by omega) (by omega), h3]
  omega
set_option maxHeartbeats 4000000 in
set_option maxRecDepth 100000 in
theorem po_ok_Math_min   (S : gw_S) (a1 : Int32) (a2 : Int32) (hf_ok : cOK S) : cOK (f_Math_min S a1 a2).2 := by
  unfold f_Math_min
  refine po_if (Φ := fun p : Int32 × gw_S => cOK p.2) (fun h2 => ?_) (fun h2 => ?_)
  · exact hf_ok
  · exact hf_ok
noncomputable def f_Arrays_rangeCheck   (S : gw_S) (a1 : Int32) (a2 : Int32) (a3 : Int32) : Unit × gw_S := (((), S))
set_option maxHeartbeats 4000000 in
set_option maxRecDepth 100000 in
theorem c_Arrays_rangeCheck (hJ : gw_J 46 ad)   (S : gw_S) (a1 : Int32) (a2 : Int32) (a3 : Int32) (hq1 : a2 ≤ a3) (hq2 : (0 : Int32) ≤ a2) (hq3 : a3 ≤ a1) : gw_M l y_Arrays_rangeCheck prog_11_method_30_code 3 none gTs (gw_rm 1) D gCl (gTys cI cB cC cZ) 46 ad (cE ad cI cB cC) gw_rV [.int a1, .int a2, .int a3] S (f_Arrays_rangeCheck S a1 a2 a3) := by
  refine gw_start gTs_ok (by decide +kernel) hJ (Nat.le_of_ble_eq_true rfl) (fun X A F => ?_)
  refine gw_lve (lv' := [(0, .int a1), (1, .int a2), (2, .int a3)]) rfl ?_
  unfold f_Arrays_rangeCheck
  refine gw_iload_n (pc := 0) F 1 d_Arrays_rangeCheck_0 rfl rfl ?_
  refine gw_iload_n (pc := 1) F 2 d_Arrays_rangeCheck_1 rfl rfl ?_
  refine gw_icmp_leT (pc := 2) (tgt := 46) F d_Arrays_rangeCheck_2 (by decide) hq1 ?_
  refine gw_iload_n (pc := 46) F 1 d_Arrays_rangeCheck_46 rfl rfl ?_
  refine gw_if_geT (pc := 47) (tgt := 59) F d_Arrays_rangeCheck_47 (by decide) hq2 ?_
  refine gw_iload_n (pc := 59) F 2 d_Arrays_rangeCheck_59 rfl rfl ?_
  refine gw_iload_n (pc := 60) F 0 d_Arrays_rangeCheck_60 rfl rfl ?_
  refine gw_icmp_leT (pc := 61) (tgt := 73) F d_Arrays_rangeCheck_61 (by decide) hq3 ?_
  exact gw_vret (pc := 73) F d_Arrays_rangeCheck_73
set_option maxHeartbeats 4000000 in
set_option maxRecDepth 100000 in
theorem po_ok_Arrays_rangeCheck   (S : gw_S) (a1 : Int32) (a2 : Int32) (a3 : Int32) (hf_ok : cOK S) (hq1 : a2 ≤ a3) (hq2 : (0 : Int32) ≤ a2) (hq3 : a3 ≤ a1) : cOK (f_Arrays_rangeCheck S a1 a2 a3).2 := by
  unfold f_Arrays_rangeCheck
  exact hf_ok
noncomputable def fl_Arrays_fill_10   (a3 : Int32) (a4 : Int32) (n : Nat) : gw_S → Int32 → Unit × gw_S := gw_L1 (fun self S x4 => (if a3 ≤ x4 then (((), S)) else (gw_n (gw_u S 10 (x4 : Int32).toNatClampNeg (vp_nar .byte a4)) fun S20 => (self S20 (x4 + (1 : Int32)))))) (fun S _ => ((), S)) n
set_option maxHeartbeats 4000000 in
set_option maxRecDepth 100000 in
theorem l_Arrays_fill_10 {X : gx_M} {A : Nat → Prop}  (F : gw_F X l prog_11_method_110_code 5 none "java/util/Arrays" gTs (gw_rm 2) D gCl (gTys cI cB cC cZ) 46 ad A) (a3 : Int32) (a4 : Int32) (hq3 : a3 ≤ (10240 : Int32)) : ∀ (n : Nat) (S : gw_S) (x4 : Int32), 0 < n → (a3 : Int32).toInt - x4.toInt < (n : Int) → 0 ≤ x4.toInt → gw_V X (gw_P D gCl 46 ad (cE ad cI cB cC)) A 5 gw_rV S 10 [(0, .ref (ad 10)), (2, .int a3), (3, .int a4), (4, .int x4)] [] (fl_Arrays_fill_10 a3 a4 n S x4) := by
  intro n
  induction n with
  | zero => intro S x4 hn hf h0; exact absurd hn (Nat.lt_irrefl 0)
  | succ n ih =>
    intro S x4 hn hf h0
    refine gw_iload (pc := 10) F 3 d_Arrays_fill_10 rfl ?_
    refine gw_iload_n (pc := 12) F 1 d_Arrays_fill_12 rfl rfl ?_
    refine gw_icmp_geS (pc := 13) (tgt := 27) F d_Arrays_fill_13 (by decide) (fun h13 => ?_) (fun h13 => ?_)
    · exact gw_vret (pc := 27) F d_Arrays_fill_27
    · refine gw_aload_n (pc := 16) F 0 d_Arrays_fill_16 rfl rfl ?_
      refine gw_iload (pc := 17) F 3 d_Arrays_fill_17 rfl ?_
      refine gw_iload_n (pc := 19) F 2 d_Arrays_fill_19 rfl rfl ?_
      refine cs_Pix (pc := 20) F (gw_inX (N := 10240) (by decide) h13 hq3 h0) d_Arrays_fill_20 ?_
      refine gw_nS (fun S20 E20 => ?_)
      refine gw_iinc (pc := 21) (v := (x4 + (1 : Int32))) (lv' := [(4, .int (x4 + (1 : Int32))), (0, .ref (ad 10)), (2, .int a3), (3, .int a4)]) F 3 d_Arrays_fill_21 rfl (congrArg (HAdd.hAdd x4) (by decide)) (by decide) rfl ?_
      refine gw_goto (pc := 24) (tgt := 10) F d_Arrays_fill_24 (by decide) ?_
      refine gw_lvs (lv' := [(0, .ref (ad 10)), (2, .int a3), (3, .int a4), (4, .int (x4 + (1 : Int32)))]) [1, 2, 3, 0] rfl ?_
      exact ih S20 (x4 + (1 : Int32)) (gw_stp h13 hf).1 (gw_stp h13 hf).2.1 (gw_stp0 h13 h0)
noncomputable def f_Arrays_fill   (S : gw_S) (a2 : Int32) (a3 : Int32) (a4 : Int32) : Unit × gw_S := (gw_b (f_Arrays_rangeCheck S (10240 : Int32) a2 a3) fun _ S4 => (fl_Arrays_fill_10 a3 a4 (gw_fu ((a3 : Int32).toInt - (a2 : Int32).toInt)) S4 a2))
set_option maxHeartbeats 4000000 in
set_option maxRecDepth 100000 in
theorem c_Arrays_fill (hJ : gw_J 46 ad)   (S : gw_S) (a2 : Int32) (a3 : Int32) (a4 : Int32) (hq1 : a2 ≤ a3) (hq2 : (0 : Int32) ≤ a2) (hq3 : a3 ≤ (10240 : Int32)) : gw_M l y_Arrays_fill prog_11_method_110_code 5 none gTs (gw_rm 2) D gCl (gTys cI cB cC cZ) 46 ad (cE ad cI cB cC) gw_rV [.ref (ad 10), .int a2, .int a3, .int a4] S (f_Arrays_fill S a2 a3 a4) := by
  refine gw_start gTs_ok (by decide +kernel) hJ (Nat.le_of_ble_eq_true rfl) (fun X A F => ?_)
  refine gw_lve (lv' := [(0, .ref (ad 10)), (1, .int a2), (2, .int a3), (3, .int a4)]) rfl ?_
  unfold f_Arrays_fill
  refine gw_aload_n (pc := 0) F 0 d_Arrays_fill_0 rfl rfl ?_
  refine cn_Pix (pc := 1) F d_Arrays_fill_1 ?_
  refine gw_iload_n (pc := 2) F 1 d_Arrays_fill_2 rfl rfl ?_
  refine gw_iload_n (pc := 3) F 2 d_Arrays_fill_3 rfl rfl ?_
  refine gw_cS (pc := 4) (As := [.int (10240 : Int32), .int a2, .int a3]) (rest := []) F (c_Arrays_rangeCheck (gw_FJ F) S (10240 : Int32) a2 a3 hq1 hq2 hq3) cw_Arrays_rangeCheck cv_Arrays_rangeCheck tw_322 rfl (by decide) (by decide) rfl rfl (Nat.le_of_ble_eq_true rfl) d_Arrays_fill_4 (gw_bV (P := fun _ U => True) trivial (fun _ S4 p4 => ?_))
  refine gw_iload_n (pc := 7) F 1 d_Arrays_fill_7 rfl rfl ?_
  refine gw_istore (pc := 8) (lv' := [(4, .int a2), (0, .ref (ad 10)), (1, .int a2), (2, .int a3), (3, .int a4)]) F d_Arrays_fill_8 (by decide) rfl ?_
  refine gw_lvs (lv' := [(0, .ref (ad 10)), (2, .int a3), (3, .int a4), (4, .int a2)]) [1, 3, 4, 0] rfl ?_
  exact l_Arrays_fill_10  F a3 a4 hq3 (gw_fu ((a3 : Int32).toInt - (a2 : Int32).toInt)) S4 a2 (gw_fu_pos _) (gw_fu_lt _) (gw_nn hq2)
set_option maxHeartbeats 4000000 in
set_option maxRecDepth 100000 in
theorem pl_ok_Arrays_fill_10  (a3 : Int32) (a4 : Int32) (hq3 : a3 ≤ (10240 : Int32)) : ∀ (n : Nat) (S : gw_S) (x4 : Int32), 0 < n → (a3 : Int32).toInt - x4.toInt < (n : Int) → 0 ≤ x4.toInt → cOK S → cOK (fl_Arrays_fill_10 a3 a4 n S x4).2 := by
  intro n
  induction n with
  | zero => intro S x4 hn hf h0 hf_ok; exact absurd hn (Nat.lt_irrefl 0)
  | succ n ih =>
    intro S x4 hn hf h0 hf_ok
    refine po_if (Φ := fun p : Unit × gw_S => cOK p.2) (fun h13 => ?_) (fun h13 => ?_)
    · exact hf_ok
    · refine po_n (Φ := fun p : Unit × gw_S => cOK p.2) (fun S20 E20 => ?_)
      exact ih S20 (x4 + (1 : Int32)) (gw_stp h13 hf).1 (gw_stp h13 hf).2.1 (gw_stp0 h13 h0) (cOK_x E20 hf_ok)
set_option maxHeartbeats 4000000 in
set_option maxRecDepth 100000 in
theorem po_ok_Arrays_fill   (S : gw_S) (a2 : Int32) (a3 : Int32) (a4 : Int32) (hf_ok : cOK S) (hq1 : a2 ≤ a3) (hq2 : (0 : Int32) ≤ a2) (hq3 : a3 ≤ (10240 : Int32)) : cOK (f_Arrays_fill S a2 a3 a4).2 := by
  unfold f_Arrays_fill
  refine po_b (Φ := fun p : Unit × gw_S => cOK p.2) (P := fun _ U => cOK U) (po_ok_Arrays_rangeCheck S (10240 : Int32) a2 a3 hf_ok hq1 hq2 hq3) (fun _ S4 p4 => ?_)
  exact pl_ok_Arrays_fill_10 a3 a4 hq3 (gw_fu ((a3 : Int32).toInt - (a2 : Int32).toInt)) S4 a2 (gw_fu_pos _) (gw_fu_lt _) (gw_nn hq2) p4
noncomputable def f_Painter_scaled   (S : gw_S) (a1 : Int32) (a2 : Int32) : Int32 × gw_S := (gw_b (f_Math_fdI S (a1 * a2) (64 : Int32)) fun r5 S5 => (r5, S5))
set_option maxHeartbeats 4000000 in
set_option maxRecDepth 100000 in
theorem c_Painter_scaled (hJ : gw_J 46 ad)   (S : gw_S) (a1 : Int32) (a2 : Int32) : gw_M l y_Painter_scaled prog_5_method_9_code 2 (some .int) gTs (gw_rm 1) D gCl (gTys cI cB cC cZ) 46 ad (cE ad cI cB cC) gw_rI [.int a1, .int a2] S (f_Painter_scaled S a1 a2) := by
  refine gw_start gTs_ok (plainFor_of_name (by decide)) hJ (Nat.le_of_ble_eq_true rfl) (fun X A F => ?_)
  refine gw_lve (lv' := [(0, .int a1), (1, .int a2)]) rfl ?_
  unfold f_Painter_scaled
  refine gw_iload_n (pc := 0) F 0 d_Painter_scaled_0 rfl rfl ?_
  refine gw_iload_n (pc := 1) F 1 d_Painter_scaled_1 rfl rfl ?_
  refine gw_imul (pc := 2) F d_Painter_scaled_2 ?_
  refine gw_bipush (pc := 3) (v := (64 : Int32)) F d_Painter_scaled_3 (by decide) ?_
  refine gw_cS (pc := 5) (As := [.int (a1 * a2), .int (64 : Int32)]) (rest := []) F (c_Math_fdI (gw_FJ F) S (a1 * a2) (64 : Int32) (by decide)) cw_Math_fdI cv_Math_fdI tw_348 rfl (by decide) (by decide) rfl rfl (Nat.le_of_ble_eq_true rfl) d_Painter_scaled_5 (gw_bI (P := fun r U => True) trivial (fun r5 S5 p5 => ?_))
  exact gw_iret (pc := 8) F d_Painter_scaled_8
set_option maxHeartbeats 4000000 in
set_option maxRecDepth 100000 in
theorem po_ok_Painter_scaled   (S : gw_S) (a1 : Int32) (a2 : Int32) (hf_ok : cOK S) : cOK (f_Painter_scaled S a1 a2).2 := by
  unfold f_Painter_scaled
  refine po_b (Φ := fun p : Int32 × gw_S => cOK p.2) (P := fun r U => cOK U) (po_ok_Math_fdI S (a1 * a2) (64 : Int32) hf_ok (by decide)) (fun r5 S5 p5 => ?_)
  exact p5
noncomputable def f_Pages_fill   (S : gw_S) (a1 : Int32) (a2 : Int32) : Unit × gw_S := (gw_n (a1 * (2560 : Int32)) fun v5 => gw_b (f_Arrays_fill S v5 (v5 + (2560 : Int32)) ((a2 : Int32).toInt8.toInt32)) fun _ S18 => ((), S18))
set_option maxHeartbeats 4000000 in
set_option maxRecDepth 100000 in
theorem c_Pages_fill (hJ : gw_J 46 ad)   (S : gw_S) (a1 : Int32) (a2 : Int32) (hb1 : vp_in a1 4) : gw_M l y_Pages_fill prog_4_method_4_code 4 none gTs (gw_rm 3) D gCl (gTys cI cB cC cZ) 46 ad (cE ad cI cB cC) gw_rV [.ref (ad 9), .int a1, .int a2] S (f_Pages_fill S a1 a2) := by
  refine gw_start gTs_ok (plainFor_of_name (by decide)) hJ (Nat.le_of_ble_eq_true rfl) (fun X A F => ?_)
  refine gw_lve (lv' := [(0, .ref (ad 9)), (1, .int a1), (2, .int a2)]) rfl ?_
  unfold f_Pages_fill
  refine gw_iload_n (pc := 0) F 1 d_Pages_fill_0 rfl rfl ?_
  refine gw_sipush (pc := 1) (v := (2560 : Int32)) F d_Pages_fill_1 (by decide) ?_
  refine gw_imul (pc := 4) F d_Pages_fill_4 ?_
  refine gw_nI (fun v5 e5 => ?_)
  refine gw_istore_n (pc := 5) (lv' := [(3, .int v5), (0, .ref (ad 9)), (1, .int a1), (2, .int a2)]) F d_Pages_fill_5 rfl (by decide) rfl ?_
  refine gw_aload_n (pc := 6) F 1 d_Pages_fill_6 rfl rfl ?_
  refine cg_Pages_pixels (pc := 7) F tw_52 d_Pages_fill_7 ?_
  refine gw_iload_n (pc := 10) F 0 d_Pages_fill_10 rfl rfl ?_
  refine gw_iload_n (pc := 11) F 0 d_Pages_fill_11 rfl rfl ?_
  refine gw_sipush (pc := 12) (v := (2560 : Int32)) F d_Pages_fill_12 (by decide) ?_
  refine gw_iadd (pc := 15) F d_Pages_fill_15 ?_
  refine gw_iload_n (pc := 16) F 3 d_Pages_fill_16 rfl rfl ?_
  refine gw_i2b (pc := 17) F d_Pages_fill_17 ?_
  refine gw_cS (pc := 18) (As := [.ref (ad 10), .int v5, .int (v5 + (2560 : Int32)), .int ((a2 : Int32).toInt8.toInt32)]) (rest := []) F (c_Arrays_fill (gw_FJ F) S v5 (v5 + (2560 : Int32)) ((a2 : Int32).toInt8.toInt32) (pg_1 e5 hb1) (pg_2 e5 hb1) (pg_3 e5 hb1)) cw_Arrays_fill cv_Arrays_fill tw_319 rfl (by decide) (by decide) rfl rfl (Nat.le_of_ble_eq_true rfl) d_Pages_fill_18 (gw_bV (P := fun _ U => True) trivial (fun _ S18 p18 => ?_))
  exact gw_vret (pc := 21) F d_Pages_fill_21
set_option maxHeartbeats 4000000 in
set_option maxRecDepth 100000 in
theorem po_ok_Pages_fill   (S : gw_S) (a1 : Int32) (a2 : Int32) (hf_ok : cOK S) (hb1 : vp_in a1 4) : cOK (f_Pages_fill S a1 a2).2 := by
  unfold f_Pages_fill
  refine po_n (Φ := fun p : Unit × gw_S => cOK p.2) (fun v5 e5 => ?_)
  refine po_b (Φ := fun p : Unit × gw_S => cOK p.2) (P := fun _ U => cOK U) (po_ok_Arrays_fill S v5 (v5 + (2560 : Int32)) ((a2 : Int32).toInt8.toInt32) hf_ok (pg_1 e5 hb1) (pg_2 e5 hb1) (pg_3 e5 hb1)) (fun _ S18 p18 => ?_)
  exact p18
end
